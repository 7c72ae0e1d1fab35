set_option maxHeartbeats 4000000 in
set_option maxRecDepth 100000 in
/-- the terms with a's value -/
theorem k_X1_termsEqualTo (l : Launch) (D : va_G) (cI cZ cJ : ClassId) (v : Nat → Nat) (V : Nat → Int32) (a q : Nat) (hV : ∀ t, t < 6 → V t = nI (v t)) (hv : ∀ t, t < 6 → v t < 2 ^ 31) (ha : a < 6) : Met l yX1_termsEqualTo (Cond.code yX1_termsEqualTo cX1_termsEqualTo 4 (some .int) :: hwG) { frames := 0, cells := 0, slots := 0, locals := 0 } (hp_R [.int (nI a), .ref q] D cI cZ cJ [(q, .inl (cI, 6, .inl V))]) (vp_Si (fun r => ∀ i, i < 32 → bt r i = decide (i < 6 ∧ v i = v a))) 0 0 (fun _ => False) := by
  refine Met.ofW (cc := cX1_termsEqualTo) (maxL := 4) (ret := (some .int)) (by decide) rfl ?_
  intro p e s m args below meth c s₁ B hml hv
  obtain ⟨rfl, hP, hz⟩ := hv
  have hx := B.exec
  have hb := B.bytes
  have hr := B.returns
  have hts := atoms_spec (ws := (Cond.code yX1_termsEqualTo cX1_termsEqualTo 4 (some .int) :: hwG)) B.pre
  have htg := fun w h => hts w (List.mem_cons_of_mem _ h)
  have hown : s.vm.findClass RX1 = some m.cls := findClass_of_methodNamed B.named
  have hlocks := B.notSynchronized
  have hK := hz.1
  have hl := lv_entry ([.int (nI a), .ref q]) (n := 4) (Nat.le_of_ble_eq_true rfl)
  rw [lg_entry_eq]
  generalize (lg_sl ([.int (nI a), .ref q]) ++ List.replicate (4 - (lg_sl ([.int (nI a), .ref q])).length) Slot.unset).toArray = ls at hl ⊢
  replace hl : lv_has ls 4 [(0, .int (nI a)), (1, .ref q)] := hl
  refine lv_iconst (v := nI 0) hx hb dX1_termsEqualTo_0 (by decide) ?_
  refine lv_istore_n hx hb dX1_termsEqualTo_1 rfl hl (by decide) rfl (fun ls hl => ?_)
  replace hl : lv_has ls 4 [(2, .int (nI 0)), (0, .int (nI a)), (1, .ref q)] := hl
  refine lv_iconst (v := nI 0) hx hb dX1_termsEqualTo_2 (by decide) ?_
  refine lv_istore_n hx hb dX1_termsEqualTo_3 rfl hl (by decide) rfl (fun ls hl => ?_)
  replace hl : lv_has ls 4 [(3, .int (nI 0)), (2, .int (nI 0)), (0, .int (nI a)), (1, .ref q)] := hl
  obtain ⟨b, e_b⟩ : ∃ z : Nat, z = 0 := ⟨_, rfl⟩
  obtain ⟨z, e_z⟩ : ∃ z : Int32, z = nI 0 := ⟨_, rfl⟩
  replace hl : lv_has ls 4 [(3, .int (nI b)), (2, .int z), (0, .int (nI a)), (1, .ref q)] := by subst e_b e_z; exact hl
  have hI : ∀ i, i < 32 → bt z i = decide (i < b ∧ v i = v a) := by subst e_b e_z; intro i hi; rw [hb_nI 0 hi]; simp
  have hb6 : b ≤ 6 := by subst e_b e_z; omega
  clear e_b e_z
  obtain ⟨k, hk⟩ : ∃ k : Nat, k = 6 - b := ⟨_, rfl⟩
  induction k generalizing b z ls  with
  | zero =>
    refine lv_iload_n hx hb dX1_termsEqualTo_4 rfl (lv_at hl 0 rfl) ?_
    refine lv_bipush (v := nI 6) hx hb dX1_termsEqualTo_5 (by decide) ?_
    refine hw_icmp_ge hx hb (by omega) (by omega) dX1_termsEqualTo_7 rfl (fun hc => ?_) (fun hc => absurd hc (by omega))
    refine lv_iload_n hx hb dX1_termsEqualTo_31 rfl (lv_at hl 1 rfl) ?_
    exact W.iret (v := z) hx hb hr (fun t9 ht9 hW9 => ⟨_, rfl, fun i hi => by rw [hI i hi]; congr 1; rw [show b = 6 by omega], ht9⟩) (fun _ h => nomatch h) dX1_termsEqualTo_32
  | succ k ih =>
    refine lv_iload_n hx hb dX1_termsEqualTo_4 rfl (lv_at hl 0 rfl) ?_
    refine lv_bipush (v := nI 6) hx hb dX1_termsEqualTo_5 (by decide) ?_
    refine hw_icmp_ge hx hb (by omega) (by omega) dX1_termsEqualTo_7 rfl (fun hc => absurd hc (by omega)) (fun hc => ?_)
    refine lv_aload_n hx hb dX1_termsEqualTo_10 rfl (lv_at hl 3 rfl) ?_
    refine lv_iload_n hx hb dX1_termsEqualTo_11 rfl (lv_at hl 0 rfl) ?_
    refine hw_iald hx hb hK hP 0 0 rfl rfl (j := b) (by omega) (by first | decide | omega) (v := nI (v b)) (hV b (by omega)) dX1_termsEqualTo_12 ?_
    refine lv_aload_n hx hb dX1_termsEqualTo_13 rfl (lv_at hl 3 rfl) ?_
    refine lv_iload_n hx hb dX1_termsEqualTo_14 rfl (lv_at hl 2 rfl) ?_
    refine hw_iald hx hb hK hP 0 0 rfl rfl (j := a) (by omega) (by first | decide | omega) (v := nI (v a)) (hV a (by omega)) dX1_termsEqualTo_15 ?_
    refine hw_icmp_ne hx hb (hv _ (by omega)) (hv _ (by omega)) dX1_termsEqualTo_16 rfl (fun hc => ?_) (fun hc => ?_)
    · refine lv_iinc (v := nI (b + 1)) (k := 0) hx hb dX1_termsEqualTo_25 hl rfl (hw_inc _) (by decide) rfl (fun ls hl => ?_)
      replace hl : lv_has ls 4 [(3, .int (nI (b + 1))), (2, .int z), (0, .int (nI a)), (1, .ref q)] := hl
      refine lv_goto hx hb dX1_termsEqualTo_28 rfl ?_
      refine ih _ _ _ hl (fun i hi => ?_) (by omega) (by omega)
      rw [hI i hi]; congr 1; rw [eq_iff_iff]; constructor
      · exact fun h => ⟨by omega, h.2⟩
      · exact fun h => ⟨by by_cases hib : i = b; (rw [hib] at h; exact absurd h.2 hc); omega, h.2⟩
    · refine lv_iload_n hx hb dX1_termsEqualTo_19 rfl (lv_at hl 1 rfl) ?_
      refine lv_iconst (v := nI 1) hx hb dX1_termsEqualTo_20 (by decide) ?_
      refine lv_iload_n hx hb dX1_termsEqualTo_21 rfl (lv_at hl 0 rfl) ?_
      refine lv_ishl hx hb dX1_termsEqualTo_22 ?_
      refine lv_ior hx hb dX1_termsEqualTo_23 ?_
      refine lv_istore_n hx hb dX1_termsEqualTo_24 rfl hl (by decide) rfl (fun ls hl => ?_)
      replace hl : lv_has ls 4 [(2, .int (z ||| ((nI 1) <<< ((nI b) &&& 31)))), (3, .int (nI b)), (0, .int (nI a)), (1, .ref q)] := hl
      refine lv_iinc (v := nI (b + 1)) (k := 1) hx hb dX1_termsEqualTo_25 hl rfl (hw_inc _) (by decide) rfl (fun ls hl => ?_)
      replace hl : lv_has ls 4 [(3, .int (nI (b + 1))), (2, .int (z ||| ((nI 1) <<< ((nI b) &&& 31)))), (0, .int (nI a)), (1, .ref q)] := hl
      refine lv_goto hx hb dX1_termsEqualTo_28 rfl ?_
      refine ih _ _ _ hl (fun i hi => ?_) (by omega) (by omega)
      rw [b_or, hI i hi, show nI 1 = 1 from rfl, hb_1 b (by omega) i hi, Bool.eq_iff_iff, Bool.or_eq_true, decide_eq_true_eq, decide_eq_true_eq, decide_eq_true_eq]; constructor
      · rintro (h | h)
        · exact ⟨by omega, h.2⟩
        · rw [h]; exact ⟨by omega, hc⟩
      · exact fun h => (Nat.lt_or_ge i b).elim (fun q => Or.inl ⟨q, h.2⟩) (fun q => Or.inr (by omega))

set_option maxHeartbeats 4000000 in
set_option maxRecDepth 100000 in
/-- the pairs fit -/
theorem k_X1_pairsFit (l : Launch) (D : va_G) (cI cZ cJ : ClassId) (v : Nat → Nat) (V : Nat → Int32) (q : Nat) (sm ot : Nat → Nat → Bool) (n : Nat) (fr to : Nat → Nat) (li : Nat → Bool) (S O Fr To Li : Nat → Int32) (nm : Int32) (h a1 a2 a3 a4 a5 : Nat) (hV : ∀ t, t < 6 → V t = nI (v t)) (hv : ∀ t, t < 6 → v t < 2 ^ 31) (hC : hs_cl S O Fr To Li sm ot n fr to li) : Met l yX1_pairsFit (Cond.code yX1_pairsFit cX1_pairsFit 4 (some .boolean) :: hwG) { frames := 1, cells := 0, slots := 0, locals := 23 } (hp_R [.ref h, .ref q] D cI cZ cJ [(h, .inr (1, [.ref a1, .ref a2, .ref a3, .ref a4, .ref a5, .int (nI n), .int nm])), (a1, .inl (cI, 6, .inl S)), (a2, .inl (cI, 6, .inl O)), (q, .inl (cI, 6, .inl V))]) (vp_Si (fun r => hc_r r (hc_PO v sm ot))) 0 0 (fun _ => False) := by
  refine Met.ofW (cc := cX1_pairsFit) (maxL := 4) (ret := (some .boolean)) (by decide) rfl ?_
  intro p e s m args below meth c s₁ B hml hv
  obtain ⟨rfl, hP, hz⟩ := hv
  have hx := B.exec
  have hb := B.bytes
  have hr := B.returns
  have hts := atoms_spec (ws := (Cond.code yX1_pairsFit cX1_pairsFit 4 (some .boolean) :: hwG)) B.pre
  have htg := fun w h => hts w (List.mem_cons_of_mem _ h)
  have hown : s.vm.findClass RX1 = some m.cls := findClass_of_methodNamed B.named
  have hlocks := B.notSynchronized
  have hK := hz.1
  have hl := lv_entry ([.ref h, .ref q]) (n := 4) (Nat.le_of_ble_eq_true rfl)
  rw [lg_entry_eq]
  generalize (lg_sl ([.ref h, .ref q]) ++ List.replicate (4 - (lg_sl ([.ref h, .ref q])).length) Slot.unset).toArray = ls at hl ⊢
  replace hl : lv_has ls 4 [(0, .ref h), (1, .ref q)] := hl
  refine lv_iconst (v := nI 0) hx hb dX1_pairsFit_0 (by decide) ?_
  refine lv_istore_n hx hb dX1_pairsFit_1 rfl hl (by decide) rfl (fun ls hl => ?_)
  replace hl : lv_has ls 4 [(2, .int (nI 0)), (0, .ref h), (1, .ref q)] := hl
  obtain ⟨b, e_b⟩ : ∃ z : Nat, z = 0 := ⟨_, rfl⟩
  replace hl : lv_has ls 4 [(2, .int (nI b)), (0, .ref h), (1, .ref q)] := by subst e_b; exact hl
  have hI : ∀ x, x < b → ∀ i, i < 6 → (sm x i = true → v x = v i) ∧ (ot x i = true → v x ≠ v i) := by subst e_b; exact fun x hx => absurd hx (Nat.not_lt_zero _)
  have hb6 : b ≤ 6 := by subst e_b; omega
  clear e_b
  obtain ⟨k, hk⟩ : ∃ k : Nat, k = 6 - b := ⟨_, rfl⟩
  induction k generalizing b ls  with
  | zero =>
    refine lv_iload_n hx hb dX1_pairsFit_2 rfl (lv_at hl 0 rfl) ?_
    refine lv_bipush (v := nI 6) hx hb dX1_pairsFit_3 (by decide) ?_
    refine hw_icmp_ge hx hb (by omega) (by omega) dX1_pairsFit_5 rfl (fun hc => ?_) (fun hc => absurd hc (by omega))
    refine lv_iconst (v := nI 1) hx hb dX1_pairsFit_62 (by decide) ?_
    exact W.zret (v := nI 1) hx hb hr (by decide +kernel) (fun t9 ht9 hW9 => ⟨_, rfl, Or.inl ⟨rfl, fun x hx => hI x (by omega)⟩, ht9⟩) (fun _ h => nomatch h) dX1_pairsFit_63
  | succ k ih =>
    refine lv_iload_n hx hb dX1_pairsFit_2 rfl (lv_at hl 0 rfl) ?_
    refine lv_bipush (v := nI 6) hx hb dX1_pairsFit_3 (by decide) ?_
    refine hw_icmp_ge hx hb (by omega) (by omega) dX1_pairsFit_5 rfl (fun hc => absurd hc (by omega)) (fun hc => ?_)
    refine lv_aload_n hx hb dX1_pairsFit_8 rfl (lv_at hl 1 rfl) ?_
    refine va_get (D := D) (ci := 1) (v := .ref a1) (C := RX1) (T := TX1) (N := 7) hx hb htg hi_X1 hown hK hP 0 rfl rfl 0 (by decide) (htg _ hm_30) (fun _ h9 => h9) rfl dX1_pairsFit_9 ?_
    refine lv_iload_n hx hb dX1_pairsFit_12 rfl (lv_at hl 0 rfl) ?_
    refine hw_iald hx hb hK hP 1 0 rfl rfl (j := b) (by omega) (by first | decide | omega) (v := S b) (rfl) dX1_pairsFit_13 ?_
    refine lv_aload_n hx hb dX1_pairsFit_14 rfl (lv_at hl 1 rfl) ?_
    refine va_get (D := D) (ci := 1) (v := .ref a2) (C := RX1) (T := TX1) (N := 7) hx hb htg hi_X1 hown hK hP 0 rfl rfl 1 (by decide) (htg _ hm_31) (fun _ h9 => h9) rfl dX1_pairsFit_15 ?_
    refine lv_iload_n hx hb dX1_pairsFit_18 rfl (lv_at hl 0 rfl) ?_
    refine hw_iald hx hb hK hP 2 0 rfl rfl (j := b) (by omega) (by first | decide | omega) (v := O b) (rfl) dX1_pairsFit_19 ?_
    refine lv_ior hx hb dX1_pairsFit_20 ?_
    have hCb := hC.2.1 b (by omega)
    refine lv_if_eq hx hb dX1_pairsFit_21 rfl (fun h0 => ?_) (fun h0 => ?_)
    · refine lv_iinc (v := nI (b + 1)) (k := 0) hx hb dX1_pairsFit_56 hl rfl (hw_inc _) (by decide) rfl (fun ls hl => ?_)
      replace hl : lv_has ls 4 [(2, .int (nI (b + 1))), (0, .ref h), (1, .ref q)] := hl
      refine lv_goto hx hb dX1_pairsFit_59 rfl ?_
      refine ih _ _ hl (fun x hx i hi => ?_) (by omega) (by omega)
      by_cases hxb : x = b
      · have h9 := hs_rowN hCb h0 i hi
        rw [hxb, h9.1, h9.2]; exact ⟨fun q => (by cases q), fun q => (by cases q)⟩
      · exact hI x (by omega) i hi
    · refine lv_iload_n hx hb dX1_pairsFit_24 rfl (lv_at hl 0 rfl) ?_
      refine lv_aload_n hx hb dX1_pairsFit_25 rfl (lv_at hl 2 rfl) ?_
      refine hw_csi (va_runS (As := [.int (nI b), .ref q]) (rest := []) ⟨hx, hb, hml, hown, htg⟩ (k_X1_termsEqualTo l D cI cZ cJ v V b q hV hv (by omega)) (va_cwS 2 htg (hg_S hm_150 hm_151 hm_2 hm_152) rfl rfl rfl (by decide +kernel) ⟨Nat.le_of_ble_eq_true rfl, Nat.le_of_ble_eq_true rfl⟩) ⟨hp_R_blind, hp_R_pre (hP.sub (ws' := [(q, .inl (cI, 6, .inl V))]) [3] rfl) hz⟩ rfl rfl hl.1 rfl (lv_room (Nat.le_of_ble_eq_true rfl)) dX1_pairsFit_26 ⟨Nat.zero_le _, Nat.zero_le _⟩) (fun r hq => ?_)
      refine lv_istore_n hx hb dX1_pairsFit_29 rfl hl (by decide) rfl (fun ls hl => ?_)
      replace hl : lv_has ls 4 [(3, .int r), (2, .int (nI b)), (0, .ref h), (1, .ref q)] := hl
      refine lv_aload_n hx hb dX1_pairsFit_30 rfl (lv_at hl 2 rfl) ?_
      refine va_get (D := D) (ci := 1) (v := .ref a1) (C := RX1) (T := TX1) (N := 7) hx hb htg hi_X1 hown hK hP 0 rfl rfl 0 (by decide) (htg _ hm_30) (fun _ h9 => h9) rfl dX1_pairsFit_31 ?_
      refine lv_iload_n hx hb dX1_pairsFit_34 rfl (lv_at hl 1 rfl) ?_
      refine hw_iald hx hb hK hP 1 0 rfl rfl (j := b) (by omega) (by first | decide | omega) (v := S b) (rfl) dX1_pairsFit_35 ?_
      refine lv_iload_n hx hb dX1_pairsFit_36 rfl (lv_at hl 0 rfl) ?_
      refine lv_iconst (v := (-1)) hx hb dX1_pairsFit_37 (by decide) ?_
      refine lv_ixor hx hb dX1_pairsFit_38 ?_
      refine lv_iand hx hb dX1_pairsFit_39 ?_
      refine lv_if_ne hx hb dX1_pairsFit_40 rfl (fun h1 => ?_) (fun h1 => ?_)
      · refine lv_iconst (v := nI 0) hx hb dX1_pairsFit_54 (by decide) ?_
        exact W.zret (v := nI 0) hx hb hr (by decide +kernel) (fun t9 ht9 hW9 => ⟨_, rfl, Or.inr ⟨rfl, fun hp => h1 ((hs_rowS (fun i hi => (hCb i hi).1) hq).mpr (fun i hi hs => ((hp b (by omega) i hi).1 hs).symm))⟩, ht9⟩) (fun _ h => nomatch h) dX1_pairsFit_55
      · refine lv_aload_n hx hb dX1_pairsFit_43 rfl (lv_at hl 2 rfl) ?_
        refine va_get (D := D) (ci := 1) (v := .ref a2) (C := RX1) (T := TX1) (N := 7) hx hb htg hi_X1 hown hK hP 0 rfl rfl 1 (by decide) (htg _ hm_31) (fun _ h9 => h9) rfl dX1_pairsFit_44 ?_
        refine lv_iload_n hx hb dX1_pairsFit_47 rfl (lv_at hl 1 rfl) ?_
        refine hw_iald hx hb hK hP 2 0 rfl rfl (j := b) (by omega) (by first | decide | omega) (v := O b) (rfl) dX1_pairsFit_48 ?_
        refine lv_iload_n hx hb dX1_pairsFit_49 rfl (lv_at hl 0 rfl) ?_
        refine lv_iand hx hb dX1_pairsFit_50 ?_
        refine lv_if_eq hx hb dX1_pairsFit_51 rfl (fun h2 => ?_) (fun h2 => ?_)
        · refine lv_iinc (v := nI (b + 1)) (k := 1) hx hb dX1_pairsFit_56 hl rfl (hw_inc _) (by decide) rfl (fun ls hl => ?_)
          replace hl : lv_has ls 4 [(2, .int (nI (b + 1))), (3, .int r), (0, .ref h), (1, .ref q)] := hl
          refine lv_goto hx hb dX1_pairsFit_59 rfl ?_
          replace hl : lv_has ls 4 [(2, .int (nI (b + 1))), (0, .ref h), (1, .ref q)] := lv_sub hl [0, 2, 3] rfl
          refine ih _ _ hl (fun x hx i hi => ?_) (by omega) (by omega)
          by_cases hxb : x = b
          · rw [hxb]; exact ⟨fun q => ((hs_rowS (fun i hi => (hCb i hi).1) hq).mp h1 i hi q).symm, fun q e => (hs_rowO (fun i hi => (hCb i hi).2) hq).mp h2 i hi q e.symm⟩
          · exact hI x (by omega) i hi
        · refine lv_iconst (v := nI 0) hx hb dX1_pairsFit_54 (by decide) ?_
          exact W.zret (v := nI 0) hx hb hr (by decide +kernel) (fun t9 ht9 hW9 => ⟨_, rfl, Or.inr ⟨rfl, fun hp => h2 ((hs_rowO (fun i hi => (hCb i hi).2) hq).mpr (fun i hi hs e => (hp b (by omega) i hi).2 hs e.symm))⟩, ht9⟩) (fun _ h => nomatch h) dX1_pairsFit_55

set_option maxHeartbeats 4000000 in
set_option maxRecDepth 100000 in
/-- Arrays.fill -/
theorem k_J7_fill (l : Launch) (D : va_G) (cI cZ cJ : ClassId) (sz : Nat) (F : Nat → Int32) (n q : Nat) (x : Int32) (hn : n < 2 ^ 31) : Met l yJ7_fill (Cond.code yJ7_fill cJ7_fill 4 none :: hwG) { frames := 0, cells := 0, slots := 0, locals := 0 } (hp_M [.ref q, .int x] D cI cZ cJ [(q, .inl (cI, n, .inl F))] sz) (va_Qv (S := Nat → Int32) (fun G => ∀ j, j < n → G j = x) (fun u t => va_P D vwCl ([(q, .inl (cI, n, .inl u))]) t.heap) (va_A [(q, .inl (cI, n, .inl F))] sz)) 0 0 (va_A [(q, .inl (cI, n, .inl F))] sz) := by
  refine Met.ofW (cc := cJ7_fill) (maxL := 4) (ret := none) (by decide) rfl ?_
  intro p e s m args below meth c s₁ B hml hv
  obtain ⟨rfl, hsz, hP, hz, hD0⟩ := hv
  have hx := B.exec
  have hb := B.bytes
  have hr := B.returns
  have hts := atoms_spec (ws := (Cond.code yJ7_fill cJ7_fill 4 none :: hwG)) B.pre
  have htg := fun w h => hts w (List.mem_cons_of_mem _ h)
  have hown : s.vm.findClass RJ7 = some m.cls := findClass_of_methodNamed B.named
  have hlocks := B.notSynchronized
  have hK := hz.1
  subst hsz
  have hD := hD0.self (sz := s.heap.size)
  generalize hAe : va_A [(q, .inl (cI, n, .inl F))] s.heap.size = A at hD ⊢
  have hA : ∀ q : Nat, s.heap.size ≤ q → A q := fun q h => by rw [← hAe]; exact Or.inr h
  have hS : va_S A s.heap s.heap [] := va_S.rf
  have hl := lv_entry ([.ref q, .int x]) (n := 4) (Nat.le_of_ble_eq_true rfl)
  rw [lg_entry_eq]
  generalize (lg_sl ([.ref q, .int x]) ++ List.replicate (4 - (lg_sl ([.ref q, .int x])).length) Slot.unset).toArray = ls at hl ⊢
  replace hl : lv_has ls 4 [(0, .ref q), (1, .int x)] := hl
  replace hP : va_P D vwCl [(q, .inl (cI, n, .inl F))] s.heap := hP
  refine lv_iconst (v := nI 0) hx hb dJ7_fill_0 (by decide) ?_
  refine lv_istore_n hx hb dJ7_fill_1 rfl hl (by decide) rfl (fun ls hl => ?_)
  replace hl : lv_has ls 4 [(2, .int (nI 0)), (0, .ref q), (1, .int x)] := hl
  refine lv_aload_n hx hb dJ7_fill_2 rfl (lv_at hl 1 rfl) ?_
  refine va_alen hx hb hK hP 0 0 rfl rfl (v := nI n) rfl dJ7_fill_3 ?_
  refine lv_istore_n hx hb dJ7_fill_4 rfl hl (by decide) rfl (fun ls hl => ?_)
  replace hl : lv_has ls 4 [(3, .int (nI n)), (2, .int (nI 0)), (0, .ref q), (1, .int x)] := hl
  obtain ⟨H, e_H⟩ : ∃ z : Heap, z = s.heap := ⟨_, rfl⟩
  obtain ⟨locs, e_locs⟩ : ∃ z : List Loc, z = [] := ⟨_, rfl⟩
  replace hP : va_P D vwCl [(q, .inl (cI, n, .inl F))] H := by subst e_H; exact hP
  replace hS : va_S A s.heap H locs := by subst e_H e_locs; exact hS
  rw [← e_H, ← e_locs]
  clear e_H e_locs
  obtain ⟨b, e_b⟩ : ∃ z : Nat, z = 0 := ⟨_, rfl⟩
  obtain ⟨G, e_G⟩ : ∃ z : Nat → Int32, z = F := ⟨_, rfl⟩
  replace hl : lv_has ls 4 [(3, .int (nI n)), (2, .int (nI b)), (0, .ref q), (1, .int x)] := by subst e_b e_G; exact hl
  replace hP : va_P D vwCl [(q, .inl (cI, n, .inl G))] H := by subst e_b e_G; exact hP
  replace hD : va_D A [(q, .inl (cI, n, .inl G))] := by subst e_b e_G; exact hD
  have hI : ∀ j, j < b → G j = x := by subst e_b e_G; exact fun j hj => absurd hj (Nat.not_lt_zero _)
  have hbn : b ≤ n := by subst e_b e_G; omega
  clear e_b e_G
  obtain ⟨k, hk⟩ : ∃ k : Nat, k = n - b := ⟨_, rfl⟩
  induction k generalizing b G ls H locs  with
  | zero =>
    refine lv_iload_n hx hb dJ7_fill_5 rfl (lv_at hl 1 rfl) ?_
    refine lv_iload_n hx hb dJ7_fill_6 rfl (lv_at hl 0 rfl) ?_
    refine hw_icmp_ge hx hb (by omega) (by omega) dJ7_fill_7 rfl (fun hc => ?_) (fun hc => absurd hc (by omega))
    exact W.vret hx hb hr (fun t9 ht9 hW9 => ⟨⟨G, rfl, fun j hj => hI j (by omega), by show va_P D vwCl [(q, .inl (cI, n, .inl G))] t9.heap; rw [ht9]; exact hP⟩, hS.F ht9⟩) hS.2.2 dJ7_fill_20
  | succ k ih =>
    refine lv_iload_n hx hb dJ7_fill_5 rfl (lv_at hl 1 rfl) ?_
    refine lv_iload_n hx hb dJ7_fill_6 rfl (lv_at hl 0 rfl) ?_
    refine hw_icmp_ge hx hb (by omega) (by omega) dJ7_fill_7 rfl (fun hc => absurd hc (by omega)) (fun hc => ?_)
    refine lv_aload_n hx hb dJ7_fill_10 rfl (lv_at hl 2 rfl) ?_
    refine lv_iload_n hx hb dJ7_fill_11 rfl (lv_at hl 1 rfl) ?_
    refine lv_iload_n hx hb dJ7_fill_12 rfl (lv_at hl 3 rfl) ?_
    refine hw_iast hx hb hK hP hD hS 0 0 rfl rfl (j := b) (by omega) (by first | decide | omega) dJ7_fill_13 (fun H locs hP hD hS => ?_)
    replace hP : va_P D vwCl [(q, .inl (cI, n, .inl (upd G b x)))] H := hP
    replace hD : va_D A [(q, .inl (cI, n, .inl (upd G b x)))] := hD
    refine lv_iinc (v := nI (b + 1)) (k := 1) hx hb dJ7_fill_14 hl rfl (hw_inc _) (by decide) rfl (fun ls hl => ?_)
    replace hl : lv_has ls 4 [(2, .int (nI (b + 1))), (3, .int (nI n)), (0, .ref q), (1, .int x)] := hl
    refine lv_goto hx hb dJ7_fill_17 rfl ?_
    replace hl : lv_has ls 4 [(3, .int (nI n)), (2, .int (nI (b + 1))), (0, .ref q), (1, .int x)] := lv_sub hl [1, 0, 2, 3] rfl
    refine ih _ _ _ hS _ _ hl hP hD (fun j hj => ?_) (by omega) (by omega)
    unfold upd; by_cases hjb : j = b
    · rw [if_pos hjb]
    · rw [if_neg hjb]; exact hI j (by omega)
