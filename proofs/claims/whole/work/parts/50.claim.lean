set_option maxHeartbeats 4000000 in
set_option maxRecDepth 100000 in
/-- the terms with a's value -/
theorem k_X1_termsEqualTo (l : Launch) (D : va_G) (cI cZ cJ : ClassId) (v : Nat → Nat) (V : Nat → Int32) (a q : Nat) (hV : ∀ t, t < 6 → V t = nI (v t)) (hv : ∀ t, t < 6 → v t < 2 ^ 31) (ha : a < 6) : Met l yX1_termsEqualTo (Cond.code yX1_termsEqualTo cX1_termsEqualTo 4 (some .int) :: hwG) { frames := 0, cells := 0, slots := 0, locals := 0 } (hp_R [.int (nI a), .ref q] D cI cZ cJ [(q, .inl (cI, 6, .inl V))]) (vp_Si (fun r => ∀ i, i < 32 → bt r i = decide (i < 6 ∧ v i = v a))) 0 0 (fun _ => False) := by
  refine Met.ofW (cc := cX1_termsEqualTo) (maxL := 4) (ret := (some .int)) (by decide) rfl ?_
  intro p e s m args below meth c s₁ B hml hv
  obtain ⟨rfl, hP, hz⟩ := hv
  have hx := B.exec
  have hb := B.bytes
  have hr := B.returns
  have hts := atoms_spec (ws := (Cond.code yX1_termsEqualTo cX1_termsEqualTo 4 (some .int) :: hwG)) B.pre
  have htg := fun w h => hts w (List.mem_cons_of_mem _ h)
  have hown : s.vm.findClass RX1 = some m.cls := findClass_of_methodNamed B.named
  have hlocks := B.notSynchronized
  have hK := hz.1
  have hl := lv_entry ([.int (nI a), .ref q]) (n := 4) (Nat.le_of_ble_eq_true rfl)
  rw [lg_entry_eq]
  generalize (lg_sl ([.int (nI a), .ref q]) ++ List.replicate (4 - (lg_sl ([.int (nI a), .ref q])).length) Slot.unset).toArray = ls at hl ⊢
  replace hl : lv_has ls 4 [(0, .int (nI a)), (1, .ref q)] := hl
  refine lv_iconst (v := nI 0) hx hb dX1_termsEqualTo_0 (by decide) ?_
  refine lv_istore_n hx hb dX1_termsEqualTo_1 rfl hl (by decide) rfl (fun ls hl => ?_)
  replace hl : lv_has ls 4 [(2, .int (nI 0)), (0, .int (nI a)), (1, .ref q)] := hl
  refine lv_iconst (v := nI 0) hx hb dX1_termsEqualTo_2 (by decide) ?_
  refine lv_istore_n hx hb dX1_termsEqualTo_3 rfl hl (by decide) rfl (fun ls hl => ?_)
  replace hl : lv_has ls 4 [(3, .int (nI 0)), (2, .int (nI 0)), (0, .int (nI a)), (1, .ref q)] := hl
  obtain ⟨b, e_b⟩ : ∃ z : Nat, z = 0 := ⟨_, rfl⟩
  obtain ⟨z, e_z⟩ : ∃ z : Int32, z = nI 0 := ⟨_, rfl⟩
  replace hl : lv_has ls 4 [(3, .int (nI b)), (2, .int z), (0, .int (nI a)), (1, .ref q)] := by subst e_b e_z; exact hl
  have hI : ∀ i, i < 32 → bt z i = decide (i < b ∧ v i = v a) := by subst e_b e_z; intro i hi; rw [hb_nI 0 hi]; simp
  have hb6 : b ≤ 6 := by subst e_b e_z; omega
  clear e_b e_z
  obtain ⟨k, hk⟩ : ∃ k : Nat, k = 6 - b := ⟨_, rfl⟩
  induction k generalizing b z ls  with
  | zero =>
    refine lv_iload_n hx hb dX1_termsEqualTo_4 rfl (lv_at hl 0 rfl) ?_
    refine lv_bipush (v := nI 6) hx hb dX1_termsEqualTo_5 (by decide) ?_
    refine hw_icmp_ge hx hb (by omega) (by omega) dX1_termsEqualTo_7 rfl (fun hc => ?_) (fun hc => absurd hc (by omega))
    refine lv_iload_n hx hb dX1_termsEqualTo_31 rfl (lv_at hl 1 rfl) ?_
    exact W.iret (v := z) hx hb hr (fun t9 ht9 hW9 => ⟨_, rfl, fun i hi => by rw [hI i hi]; congr 1; rw [show b = 6 by omega], ht9⟩) (fun _ h => nomatch h) dX1_termsEqualTo_32
  | succ k ih =>
    refine lv_iload_n hx hb dX1_termsEqualTo_4 rfl (lv_at hl 0 rfl) ?_
    refine lv_bipush (v := nI 6) hx hb dX1_termsEqualTo_5 (by decide) ?_
    refine hw_icmp_ge hx hb (by omega) (by omega) dX1_termsEqualTo_7 rfl (fun hc => absurd hc (by omega)) (fun hc => ?_)
    refine lv_aload_n hx hb dX1_termsEqualTo_10 rfl (lv_at hl 3 rfl) ?_
    refine lv_iload_n hx hb dX1_termsEqualTo_11 rfl (lv_at hl 0 rfl) ?_
    refine hw_iald hx hb hK hP 0 0 rfl rfl (j := b) (by omega) (by first | decide | omega) (v := nI (v b)) (hV b (by omega)) dX1_termsEqualTo_12 ?_
    refine lv_aload_n hx hb dX1_termsEqualTo_13 rfl (lv_at hl 3 rfl) ?_
    refine lv_iload_n hx hb dX1_termsEqualTo_14 rfl (lv_at hl 2 rfl) ?_
    refine hw_iald hx hb hK hP 0 0 rfl rfl (j := a) (by omega) (by first | decide | omega) (v := nI (v a)) (hV a (by omega)) dX1_termsEqualTo_15 ?_
    refine hw_icmp_ne hx hb (hv _ (by omega)) (hv _ (by omega)) dX1_termsEqualTo_16 rfl (fun hc => ?_) (fun hc => ?_)
    · refine lv_iinc (v := nI (b + 1)) (k := 0) hx hb dX1_termsEqualTo_25 hl rfl (hw_inc _) (by decide) rfl (fun ls hl => ?_)
      replace hl : lv_has ls 4 [(3, .int (nI (b + 1))), (2, .int z), (0, .int (nI a)), (1, .ref q)] := hl
      refine lv_goto hx hb dX1_termsEqualTo_28 rfl ?_
      refine ih _ _ _ hl (fun i hi => ?_) (by omega) (by omega)
      rw [hI i hi]; congr 1; rw [eq_iff_iff]; constructor
      · exact fun h => ⟨by omega, h.2⟩
      · exact fun h => ⟨by by_cases hib : i = b; (rw [hib] at h; exact absurd h.2 hc); omega, h.2⟩
    · refine lv_iload_n hx hb dX1_termsEqualTo_19 rfl (lv_at hl 1 rfl) ?_
      refine lv_iconst (v := nI 1) hx hb dX1_termsEqualTo_20 (by decide) ?_
      refine lv_iload_n hx hb dX1_termsEqualTo_21 rfl (lv_at hl 0 rfl) ?_
      refine lv_ishl hx hb dX1_termsEqualTo_22 ?_
      refine lv_ior hx hb dX1_termsEqualTo_23 ?_
      refine lv_istore_n hx hb dX1_termsEqualTo_24 rfl hl (by decide) rfl (fun ls hl => ?_)
      replace hl : lv_has ls 4 [(2, .int (z ||| ((nI 1) <<< ((nI b) &&& 31)))), (3, .int (nI b)), (0, .int (nI a)), (1, .ref q)] := hl
      refine lv_iinc (v := nI (b + 1)) (k := 1) hx hb dX1_termsEqualTo_25 hl rfl (hw_inc _) (by decide) rfl (fun ls hl => ?_)
      replace hl : lv_has ls 4 [(3, .int (nI (b + 1))), (2, .int (z ||| ((nI 1) <<< ((nI b) &&& 31)))), (0, .int (nI a)), (1, .ref q)] := hl
      refine lv_goto hx hb dX1_termsEqualTo_28 rfl ?_
      refine ih _ _ _ hl (fun i hi => ?_) (by omega) (by omega)
      rw [b_or, hI i hi, show nI 1 = 1 from rfl, hb_1 b (by omega) i hi, Bool.eq_iff_iff, Bool.or_eq_true, decide_eq_true_eq, decide_eq_true_eq, decide_eq_true_eq]; constructor
      · rintro (h | h)
        · exact ⟨by omega, h.2⟩
        · rw [h]; exact ⟨by omega, hc⟩
      · exact fun h => (Nat.lt_or_ge i b).elim (fun q => Or.inl ⟨q, h.2⟩) (fun q => Or.inr (by omega))

set_option maxHeartbeats 4000000 in
set_option maxRecDepth 100000 in
/-- the pairs fit -/
theorem k_X1_pairsFit (l : Launch) (D : va_G) (cI cZ cJ : ClassId) (v : Nat → Nat) (V : Nat → Int32) (q : Nat) (sm ot : Nat → Nat → Bool) (n : Nat) (fr to : Nat → Nat) (li : Nat → Bool) (S O Fr To Li : Nat → Int32) (nm : Int32) (h a1 a2 a3 a4 a5 : Nat) (hV : ∀ t, t < 6 → V t = nI (v t)) (hv : ∀ t, t < 6 → v t < 2 ^ 31) (hC : hs_cl S O Fr To Li sm ot n fr to li) : Met l yX1_pairsFit (Cond.code yX1_pairsFit cX1_pairsFit 4 (some .boolean) :: hwG) { frames := 1, cells := 0, slots := 0, locals := 23 } (hp_R [.ref h, .ref q] D cI cZ cJ [(h, .inr (1, [.ref a1, .ref a2, .ref a3, .ref a4, .ref a5, .int (nI n), .int nm])), (a1, .inl (cI, 6, .inl S)), (a2, .inl (cI, 6, .inl O)), (q, .inl (cI, 6, .inl V))]) (vp_Si (fun r => hc_r r (hc_PO v sm ot))) 0 0 (fun _ => False) := by
  refine Met.ofW (cc := cX1_pairsFit) (maxL := 4) (ret := (some .boolean)) (by decide) rfl ?_
  intro p e s m args below meth c s₁ B hml hv
  obtain ⟨rfl, hP, hz⟩ := hv
  have hx := B.exec
  have hb := B.bytes
  have hr := B.returns
  have hts := atoms_spec (ws := (Cond.code yX1_pairsFit cX1_pairsFit 4 (some .boolean) :: hwG)) B.pre
  have htg := fun w h => hts w (List.mem_cons_of_mem _ h)
  have hown : s.vm.findClass RX1 = some m.cls := findClass_of_methodNamed B.named
  have hlocks := B.notSynchronized
  have hK := hz.1
  have hl := lv_entry ([.ref h, .ref q]) (n := 4) (Nat.le_of_ble_eq_true rfl)
  rw [lg_entry_eq]
  generalize (lg_sl ([.ref h, .ref q]) ++ List.replicate (4 - (lg_sl ([.ref h, .ref q])).length) Slot.unset).toArray = ls at hl ⊢
  replace hl : lv_has ls 4 [(0, .ref h), (1, .ref q)] := hl
  refine lv_iconst (v := nI 0) hx hb dX1_pairsFit_0 (by decide) ?_
  refine lv_istore_n hx hb dX1_pairsFit_1 rfl hl (by decide) rfl (fun ls hl => ?_)
  replace hl : lv_has ls 4 [(2, .int (nI 0)), (0, .ref h), (1, .ref q)] := hl
  obtain ⟨b, e_b⟩ : ∃ z : Nat, z = 0 := ⟨_, rfl⟩
  replace hl : lv_has ls 4 [(2, .int (nI b)), (0, .ref h), (1, .ref q)] := by subst e_b; exact hl
  have hI : ∀ x, x < b → ∀ i, i < 6 → (sm x i = true → v x = v i) ∧ (ot x i = true → v x ≠ v i) := by subst e_b; exact fun x hx => absurd hx (Nat.not_lt_zero _)
  have hb6 : b ≤ 6 := by subst e_b; omega
  clear e_b
  obtain ⟨k, hk⟩ : ∃ k : Nat, k = 6 - b := ⟨_, rfl⟩
  induction k generalizing b ls  with
  | zero =>
    refine lv_iload_n hx hb dX1_pairsFit_2 rfl (lv_at hl 0 rfl) ?_
    refine lv_bipush (v := nI 6) hx hb dX1_pairsFit_3 (by decide) ?_
    refine hw_icmp_ge hx hb (by omega) (by omega) dX1_pairsFit_5 rfl (fun hc => ?_) (fun hc => absurd hc (by omega))
    refine lv_iconst (v := nI 1) hx hb dX1_pairsFit_62 (by decide) ?_
    exact W.zret (v := nI 1) hx hb hr (by decide +kernel) (fun t9 ht9 hW9 => ⟨_, rfl, Or.inl ⟨rfl, fun x hx => hI x (by omega)⟩, ht9⟩) (fun _ h => nomatch h) dX1_pairsFit_63
  | succ k ih =>
    refine lv_iload_n hx hb dX1_pairsFit_2 rfl (lv_at hl 0 rfl) ?_
    refine lv_bipush (v := nI 6) hx hb dX1_pairsFit_3 (by decide) ?_
    refine hw_icmp_ge hx hb (by omega) (by omega) dX1_pairsFit_5 rfl (fun hc => absurd hc (by omega)) (fun hc => ?_)
    refine lv_aload_n hx hb dX1_pairsFit_8 rfl (lv_at hl 1 rfl) ?_
    refine va_get (D := D) (ci := 1) (v := .ref a1) (C := RX1) (T := TX1) (N := 7) hx hb htg hi_X1 hown hK hP 0 rfl rfl 0 (by decide) (htg _ hm_30) (fun _ h9 => h9) rfl dX1_pairsFit_9 ?_
    refine lv_iload_n hx hb dX1_pairsFit_12 rfl (lv_at hl 0 rfl) ?_
    refine hw_iald hx hb hK hP 1 0 rfl rfl (j := b) (by omega) (by first | decide | omega) (v := S b) (rfl) dX1_pairsFit_13 ?_
    refine lv_aload_n hx hb dX1_pairsFit_14 rfl (lv_at hl 1 rfl) ?_
    refine va_get (D := D) (ci := 1) (v := .ref a2) (C := RX1) (T := TX1) (N := 7) hx hb htg hi_X1 hown hK hP 0 rfl rfl 1 (by decide) (htg _ hm_31) (fun _ h9 => h9) rfl dX1_pairsFit_15 ?_
    refine lv_iload_n hx hb dX1_pairsFit_18 rfl (lv_at hl 0 rfl) ?_
    refine hw_iald hx hb hK hP 2 0 rfl rfl (j := b) (by omega) (by first | decide | omega) (v := O b) (rfl) dX1_pairsFit_19 ?_
    refine lv_ior hx hb dX1_pairsFit_20 ?_
    have hCb := hC.2.1 b (by omega)
    refine lv_if_eq hx hb dX1_pairsFit_21 rfl (fun h0 => ?_) (fun h0 => ?_)
    · refine lv_iinc (v := nI (b + 1)) (k := 0) hx hb dX1_pairsFit_56 hl rfl (hw_inc _) (by decide) rfl (fun ls hl => ?_)
      replace hl : lv_has ls 4 [(2, .int (nI (b + 1))), (0, .ref h), (1, .ref q)] := hl
      refine lv_goto hx hb dX1_pairsFit_59 rfl ?_
      refine ih _ _ hl (fun x hx i hi => ?_) (by omega) (by omega)
      by_cases hxb : x = b
      · have h9 := hs_rowN hCb h0 i hi
        rw [hxb, h9.1, h9.2]; exact ⟨fun q => (by cases q), fun q => (by cases q)⟩
      · exact hI x (by omega) i hi
    · refine lv_iload_n hx hb dX1_pairsFit_24 rfl (lv_at hl 0 rfl) ?_
      refine lv_aload_n hx hb dX1_pairsFit_25 rfl (lv_at hl 2 rfl) ?_
      refine hw_csi (va_runS (As := [.int (nI b), .ref q]) (rest := []) ⟨hx, hb, hml, hown, htg⟩ (k_X1_termsEqualTo l D cI cZ cJ v V b q hV hv (by omega)) (va_cwS 2 htg (hg_S hm_150 hm_151 hm_2 hm_152) rfl rfl rfl (by decide +kernel) ⟨Nat.le_of_ble_eq_true rfl, Nat.le_of_ble_eq_true rfl⟩) ⟨hp_R_blind, hp_R_pre (hP.sub (ws' := [(q, .inl (cI, 6, .inl V))]) [3] rfl) hz⟩ rfl rfl hl.1 rfl (lv_room (Nat.le_of_ble_eq_true rfl)) dX1_pairsFit_26 ⟨Nat.zero_le _, Nat.zero_le _⟩) (fun r hq => ?_)
      refine lv_istore_n hx hb dX1_pairsFit_29 rfl hl (by decide) rfl (fun ls hl => ?_)
      replace hl : lv_has ls 4 [(3, .int r), (2, .int (nI b)), (0, .ref h), (1, .ref q)] := hl
      refine lv_aload_n hx hb dX1_pairsFit_30 rfl (lv_at hl 2 rfl) ?_
      refine va_get (D := D) (ci := 1) (v := .ref a1) (C := RX1) (T := TX1) (N := 7) hx hb htg hi_X1 hown hK hP 0 rfl rfl 0 (by decide) (htg _ hm_30) (fun _ h9 => h9) rfl dX1_pairsFit_31 ?_
      refine lv_iload_n hx hb dX1_pairsFit_34 rfl (lv_at hl 1 rfl) ?_
      refine hw_iald hx hb hK hP 1 0 rfl rfl (j := b) (by omega) (by first | decide | omega) (v := S b) (rfl) dX1_pairsFit_35 ?_
      refine lv_iload_n hx hb dX1_pairsFit_36 rfl (lv_at hl 0 rfl) ?_
      refine lv_iconst (v := (-1)) hx hb dX1_pairsFit_37 (by decide) ?_
      refine lv_ixor hx hb dX1_pairsFit_38 ?_
      refine lv_iand hx hb dX1_pairsFit_39 ?_
      refine lv_if_ne hx hb dX1_pairsFit_40 rfl (fun h1 => ?_) (fun h1 => ?_)
      · refine lv_iconst (v := nI 0) hx hb dX1_pairsFit_54 (by decide) ?_
        exact W.zret (v := nI 0) hx hb hr (by decide +kernel) (fun t9 ht9 hW9 => ⟨_, rfl, Or.inr ⟨rfl, fun hp => h1 ((hs_rowS (fun i hi => (hCb i hi).1) hq).mpr (fun i hi hs => ((hp b (by omega) i hi).1 hs).symm))⟩, ht9⟩) (fun _ h => nomatch h) dX1_pairsFit_55
      · refine lv_aload_n hx hb dX1_pairsFit_43 rfl (lv_at hl 2 rfl) ?_
        refine va_get (D := D) (ci := 1) (v := .ref a2) (C := RX1) (T := TX1) (N := 7) hx hb htg hi_X1 hown hK hP 0 rfl rfl 1 (by decide) (htg _ hm_31) (fun _ h9 => h9) rfl dX1_pairsFit_44 ?_
        refine lv_iload_n hx hb dX1_pairsFit_47 rfl (lv_at hl 1 rfl) ?_
        refine hw_iald hx hb hK hP 2 0 rfl rfl (j := b) (by omega) (by first | decide | omega) (v := O b) (rfl) dX1_pairsFit_48 ?_
        refine lv_iload_n hx hb dX1_pairsFit_49 rfl (lv_at hl 0 rfl) ?_
        refine lv_iand hx hb dX1_pairsFit_50 ?_
        refine lv_if_eq hx hb dX1_pairsFit_51 rfl (fun h2 => ?_) (fun h2 => ?_)
        · refine lv_iinc (v := nI (b + 1)) (k := 1) hx hb dX1_pairsFit_56 hl rfl (hw_inc _) (by decide) rfl (fun ls hl => ?_)
          replace hl : lv_has ls 4 [(2, .int (nI (b + 1))), (3, .int r), (0, .ref h), (1, .ref q)] := hl
          refine lv_goto hx hb dX1_pairsFit_59 rfl ?_
          replace hl : lv_has ls 4 [(2, .int (nI (b + 1))), (0, .ref h), (1, .ref q)] := lv_sub hl [0, 2, 3] rfl
          refine ih _ _ hl (fun x hx i hi => ?_) (by omega) (by omega)
          by_cases hxb : x = b
          · rw [hxb]; exact ⟨fun q => ((hs_rowS (fun i hi => (hCb i hi).1) hq).mp h1 i hi q).symm, fun q e => (hs_rowO (fun i hi => (hCb i hi).2) hq).mp h2 i hi q e.symm⟩
          · exact hI x (by omega) i hi
        · refine lv_iconst (v := nI 0) hx hb dX1_pairsFit_54 (by decide) ?_
          exact W.zret (v := nI 0) hx hb hr (by decide +kernel) (fun t9 ht9 hW9 => ⟨_, rfl, Or.inr ⟨rfl, fun hp => h2 ((hs_rowO (fun i hi => (hCb i hi).2) hq).mpr (fun i hi hs e => (hp b (by omega) i hi).2 hs e.symm))⟩, ht9⟩) (fun _ h => nomatch h) dX1_pairsFit_55

set_option maxHeartbeats 4000000 in
set_option maxRecDepth 100000 in
/-- Arrays.fill -/
theorem k_J7_fill (l : Launch) (D : va_G) (cI cZ cJ : ClassId) (sz : Nat) (F : Nat → Int32) (n q : Nat) (x : Int32) (hn : n < 2 ^ 31) : Met l yJ7_fill (Cond.code yJ7_fill cJ7_fill 4 none :: hwG) { frames := 0, cells := 0, slots := 0, locals := 0 } (hp_M [.ref q, .int x] D cI cZ cJ [(q, .inl (cI, n, .inl F))] sz) (va_Qv (S := Nat → Int32) (fun G => ∀ j, j < n → G j = x) (fun u t => va_P D vwCl ([(q, .inl (cI, n, .inl u))]) t.heap) (va_A [(q, .inl (cI, n, .inl F))] sz)) 0 0 (va_A [(q, .inl (cI, n, .inl F))] sz) := by
  refine Met.ofW (cc := cJ7_fill) (maxL := 4) (ret := none) (by decide) rfl ?_
  intro p e s m args below meth c s₁ B hml hv
  obtain ⟨rfl, hsz, hP, hz, hD0⟩ := hv
  have hx := B.exec
  have hb := B.bytes
  have hr := B.returns
  have hts := atoms_spec (ws := (Cond.code yJ7_fill cJ7_fill 4 none :: hwG)) B.pre
  have htg := fun w h => hts w (List.mem_cons_of_mem _ h)
  have hown : s.vm.findClass RJ7 = some m.cls := findClass_of_methodNamed B.named
  have hlocks := B.notSynchronized
  have hK := hz.1
  subst hsz
  have hD := hD0.self (sz := s.heap.size)
  generalize hAe : va_A [(q, .inl (cI, n, .inl F))] s.heap.size = A at hD ⊢
  have hA : ∀ q : Nat, s.heap.size ≤ q → A q := fun q h => by rw [← hAe]; exact Or.inr h
  have hS : va_S A s.heap s.heap [] := va_S.rf
  have hl := lv_entry ([.ref q, .int x]) (n := 4) (Nat.le_of_ble_eq_true rfl)
  rw [lg_entry_eq]
  generalize (lg_sl ([.ref q, .int x]) ++ List.replicate (4 - (lg_sl ([.ref q, .int x])).length) Slot.unset).toArray = ls at hl ⊢
  replace hl : lv_has ls 4 [(0, .ref q), (1, .int x)] := hl
  replace hP : va_P D vwCl [(q, .inl (cI, n, .inl F))] s.heap := hP
  refine lv_iconst (v := nI 0) hx hb dJ7_fill_0 (by decide) ?_
  refine lv_istore_n hx hb dJ7_fill_1 rfl hl (by decide) rfl (fun ls hl => ?_)
  replace hl : lv_has ls 4 [(2, .int (nI 0)), (0, .ref q), (1, .int x)] := hl
  refine lv_aload_n hx hb dJ7_fill_2 rfl (lv_at hl 1 rfl) ?_
  refine va_alen hx hb hK hP 0 0 rfl rfl (v := nI n) rfl dJ7_fill_3 ?_
  refine lv_istore_n hx hb dJ7_fill_4 rfl hl (by decide) rfl (fun ls hl => ?_)
  replace hl : lv_has ls 4 [(3, .int (nI n)), (2, .int (nI 0)), (0, .ref q), (1, .int x)] := hl
  obtain ⟨H, e_H⟩ : ∃ z : Heap, z = s.heap := ⟨_, rfl⟩
  obtain ⟨locs, e_locs⟩ : ∃ z : List Loc, z = [] := ⟨_, rfl⟩
  replace hP : va_P D vwCl [(q, .inl (cI, n, .inl F))] H := by subst e_H; exact hP
  replace hS : va_S A s.heap H locs := by subst e_H e_locs; exact hS
  rw [← e_H, ← e_locs]
  clear e_H e_locs
  obtain ⟨b, e_b⟩ : ∃ z : Nat, z = 0 := ⟨_, rfl⟩
  obtain ⟨G, e_G⟩ : ∃ z : Nat → Int32, z = F := ⟨_, rfl⟩
  replace hl : lv_has ls 4 [(3, .int (nI n)), (2, .int (nI b)), (0, .ref q), (1, .int x)] := by subst e_b e_G; exact hl
  replace hP : va_P D vwCl [(q, .inl (cI, n, .inl G))] H := by subst e_b e_G; exact hP
  replace hD : va_D A [(q, .inl (cI, n, .inl G))] := by subst e_b e_G; exact hD
  have hI : ∀ j, j < b → G j = x := by subst e_b e_G; exact fun j hj => absurd hj (Nat.not_lt_zero _)
  have hbn : b ≤ n := by subst e_b e_G; omega
  clear e_b e_G
  obtain ⟨k, hk⟩ : ∃ k : Nat, k = n - b := ⟨_, rfl⟩
  induction k generalizing b G ls H locs  with
  | zero =>
    refine lv_iload_n hx hb dJ7_fill_5 rfl (lv_at hl 1 rfl) ?_
    refine lv_iload_n hx hb dJ7_fill_6 rfl (lv_at hl 0 rfl) ?_
    refine hw_icmp_ge hx hb (by omega) (by omega) dJ7_fill_7 rfl (fun hc => ?_) (fun hc => absurd hc (by omega))
    exact W.vret hx hb hr (fun t9 ht9 hW9 => ⟨⟨G, rfl, fun j hj => hI j (by omega), by show va_P D vwCl [(q, .inl (cI, n, .inl G))] t9.heap; rw [ht9]; exact hP⟩, hS.F ht9⟩) hS.2.2 dJ7_fill_20
  | succ k ih =>
    refine lv_iload_n hx hb dJ7_fill_5 rfl (lv_at hl 1 rfl) ?_
    refine lv_iload_n hx hb dJ7_fill_6 rfl (lv_at hl 0 rfl) ?_
    refine hw_icmp_ge hx hb (by omega) (by omega) dJ7_fill_7 rfl (fun hc => absurd hc (by omega)) (fun hc => ?_)
    refine lv_aload_n hx hb dJ7_fill_10 rfl (lv_at hl 2 rfl) ?_
    refine lv_iload_n hx hb dJ7_fill_11 rfl (lv_at hl 1 rfl) ?_
    refine lv_iload_n hx hb dJ7_fill_12 rfl (lv_at hl 3 rfl) ?_
    refine hw_iast hx hb hK hP hD hS 0 0 rfl rfl (j := b) (by omega) (by first | decide | omega) dJ7_fill_13 (fun H locs hP hD hS => ?_)
    replace hP : va_P D vwCl [(q, .inl (cI, n, .inl (upd G b x)))] H := hP
    replace hD : va_D A [(q, .inl (cI, n, .inl (upd G b x)))] := hD
    refine lv_iinc (v := nI (b + 1)) (k := 1) hx hb dJ7_fill_14 hl rfl (hw_inc _) (by decide) rfl (fun ls hl => ?_)
    replace hl : lv_has ls 4 [(2, .int (nI (b + 1))), (3, .int (nI n)), (0, .ref q), (1, .int x)] := hl
    refine lv_goto hx hb dJ7_fill_17 rfl ?_
    replace hl : lv_has ls 4 [(3, .int (nI n)), (2, .int (nI (b + 1))), (0, .ref q), (1, .int x)] := lv_sub hl [1, 0, 2, 3] rfl
    refine ih (hS := hS) (hl := hl) (hP := hP) (hD := hD) (hI := (fun j hj => ?_)) (hbn := (by omega)) (hk := (by omega))
    unfold upd; by_cases hjb : j = b
    · rw [if_pos hjb]
    · rw [if_neg hjb]; exact hI j (by omega)

set_option maxHeartbeats 4000000 in
set_option maxRecDepth 100000 in
/-- a pair more -/
theorem k_X1_addPair (l : Launch) (D : va_G) (cI cZ cJ : ClassId) (sz : Nat) (a b : Nat) (o : Bool) (n : Nat) (S O : Nat → Int32) (nm : Int32) (h a1 a2 a3 a4 a5 : Nat) (ha : a < 6) (hb6 : b < 6) : Met l yX1_addPair (Cond.code yX1_addPair cX1_addPair 4 none :: hwG) { frames := 0, cells := 0, slots := 0, locals := 0 } (hp_M [.ref h, .int (nI a), .int (nI b), .int (hc_b o)] D cI cZ cJ [(h, .inr (1, [.ref a1, .ref a2, .ref a3, .ref a4, .ref a5, .int (nI n), .int nm])), (a1, .inl (cI, 6, .inl S)), (a2, .inl (cI, 6, .inl O))] sz) (va_Qv (S := (Nat → Int32) × (Nat → Int32) × Int32) (fun u => u.1 = (bif o then S else upd S a (S a ||| (nI 1 <<< (nI b &&& 31)))) ∧ u.2.1 = (bif o then upd O a (O a ||| (nI 1 <<< (nI b &&& 31))) else O) ∧ u.2.2 = nm ||| ((nI 1 <<< (nI a &&& 31)) ||| (nI 1 <<< (nI b &&& 31)))) (fun u t => va_P D vwCl ([(h, .inr (1, [.ref a1, .ref a2, .ref a3, .ref a4, .ref a5, .int (nI n), .int u.2.2])), (a1, .inl (cI, 6, .inl u.1)), (a2, .inl (cI, 6, .inl u.2.1))]) t.heap) (va_A [(h, .inr (1, [.ref a1, .ref a2, .ref a3, .ref a4, .ref a5, .int (nI n), .int nm])), (a1, .inl (cI, 6, .inl S)), (a2, .inl (cI, 6, .inl O))] sz)) 0 0 (va_A [(h, .inr (1, [.ref a1, .ref a2, .ref a3, .ref a4, .ref a5, .int (nI n), .int nm])), (a1, .inl (cI, 6, .inl S)), (a2, .inl (cI, 6, .inl O))] sz) := by
  refine Met.ofW (cc := cX1_addPair) (maxL := 4) (ret := none) (by decide) rfl ?_
  intro p e s m args below meth c s₁ B hml hv
  obtain ⟨rfl, hsz, hP, hz, hD0⟩ := hv
  have hx := B.exec
  have hb := B.bytes
  have hr := B.returns
  have hts := atoms_spec (ws := (Cond.code yX1_addPair cX1_addPair 4 none :: hwG)) B.pre
  have htg := fun w h => hts w (List.mem_cons_of_mem _ h)
  have hown : s.vm.findClass RX1 = some m.cls := findClass_of_methodNamed B.named
  have hlocks := B.notSynchronized
  have hK := hz.1
  subst hsz
  have hD := hD0.self (sz := s.heap.size)
  generalize hAe : va_A [(h, .inr (1, [.ref a1, .ref a2, .ref a3, .ref a4, .ref a5, .int (nI n), .int nm])), (a1, .inl (cI, 6, .inl S)), (a2, .inl (cI, 6, .inl O))] s.heap.size = A at hD ⊢
  have hA : ∀ q : Nat, s.heap.size ≤ q → A q := fun q h => by rw [← hAe]; exact Or.inr h
  have hS : va_S A s.heap s.heap [] := va_S.rf
  have hl := lv_entry ([.ref h, .int (nI a), .int (nI b), .int (hc_b o)]) (n := 4) (Nat.le_of_ble_eq_true rfl)
  rw [lg_entry_eq]
  generalize (lg_sl ([.ref h, .int (nI a), .int (nI b), .int (hc_b o)]) ++ List.replicate (4 - (lg_sl ([.ref h, .int (nI a), .int (nI b), .int (hc_b o)])).length) Slot.unset).toArray = ls at hl ⊢
  replace hl : lv_has ls 4 [(0, .ref h), (1, .int (nI a)), (2, .int (nI b)), (3, .int (hc_b o))] := hl
  replace hP : va_P D vwCl [(h, .inr (1, [.ref a1, .ref a2, .ref a3, .ref a4, .ref a5, .int (nI n), .int nm])), (a1, .inl (cI, 6, .inl S)), (a2, .inl (cI, 6, .inl O))] s.heap := hP
  refine lv_iload_n hx hb dX1_addPair_0 rfl (lv_at hl 3 rfl) ?_
  refine hw_ifeq_b hx hb dX1_addPair_1 rfl (fun hc => ?_) (fun hc => ?_)
  · refine lv_aload_n hx hb dX1_addPair_19 rfl (lv_at hl 0 rfl) ?_
    refine va_get (D := D) (ci := 1) (v := .ref a1) (C := RX1) (T := TX1) (N := 7) hx hb htg hi_X1 hown hK hP 0 rfl rfl 0 (by decide) (htg _ hm_30) (fun _ h9 => h9) rfl dX1_addPair_20 ?_
    refine lv_iload_n hx hb dX1_addPair_23 rfl (lv_at hl 1 rfl) ?_
    refine lv_dup2_11 hx hb dX1_addPair_24 rfl rfl ?_
    refine hw_iald hx hb hK hP 1 0 rfl rfl (j := a) (by omega) (by first | decide | omega) (v := S a) (rfl) dX1_addPair_25 ?_
    refine lv_iconst (v := nI 1) hx hb dX1_addPair_26 (by decide) ?_
    refine lv_iload_n hx hb dX1_addPair_27 rfl (lv_at hl 2 rfl) ?_
    refine lv_ishl hx hb dX1_addPair_28 ?_
    refine lv_ior hx hb dX1_addPair_29 ?_
    refine hw_iast hx hb hK hP hD hS 1 0 rfl rfl (j := a) (by omega) (by first | decide | omega) dX1_addPair_30 (fun H locs hP hD hS => ?_)
    replace hP : va_P D vwCl [(h, .inr (1, [.ref a1, .ref a2, .ref a3, .ref a4, .ref a5, .int (nI n), .int nm])), (a1, .inl (cI, 6, .inl (upd S a ((S a) ||| ((nI 1) <<< ((nI b) &&& 31)))))), (a2, .inl (cI, 6, .inl O))] H := hP
    replace hD : va_D A [(h, .inr (1, [.ref a1, .ref a2, .ref a3, .ref a4, .ref a5, .int (nI n), .int nm])), (a1, .inl (cI, 6, .inl (upd S a ((S a) ||| ((nI 1) <<< ((nI b) &&& 31)))))), (a2, .inl (cI, 6, .inl O))] := hD
    refine lv_aload_n hx hb dX1_addPair_31 rfl (lv_at hl 0 rfl) ?_
    refine lv_dup hx hb dX1_addPair_32 rfl ?_
    refine va_get (D := D) (ci := 1) (v := .int nm) (C := RX1) (T := TX1) (N := 7) hx hb htg hi_X1 hown hK hP 0 rfl rfl 6 (by decide) (htg _ hm_45) (fun _ h9 => h9) rfl dX1_addPair_33 ?_
    refine lv_iconst (v := nI 1) hx hb dX1_addPair_36 (by decide) ?_
    refine lv_iload_n hx hb dX1_addPair_37 rfl (lv_at hl 1 rfl) ?_
    refine lv_ishl hx hb dX1_addPair_38 ?_
    refine lv_iconst (v := nI 1) hx hb dX1_addPair_39 (by decide) ?_
    refine lv_iload_n hx hb dX1_addPair_40 rfl (lv_at hl 2 rfl) ?_
    refine lv_ishl hx hb dX1_addPair_41 ?_
    refine lv_ior hx hb dX1_addPair_42 ?_
    refine lv_ior hx hb dX1_addPair_43 ?_
    refine va_put (D := D) (ci := 1) (v := .int (nm ||| (((nI 1) <<< ((nI a) &&& 31)) ||| ((nI 1) <<< ((nI b) &&& 31))))) (ty := .int) (C := RX1) (T := TX1) (N := 7) hx hb htg hi_X1 tyX1 tyX1_ok nmX1 hown hK hP hD hS 0 rfl rfl 6 (by decide) (htg _ hm_45) (fun _ h9 => h9) rfl (by decide +kernel) rfl rfl (Nat.le_of_ble_eq_true rfl) dX1_addPair_44 (fun H locs hP hD hS => ?_)
    replace hP : va_P D vwCl [(h, .inr (1, [.ref a1, .ref a2, .ref a3, .ref a4, .ref a5, .int (nI n), .int (nm ||| (((nI 1) <<< ((nI a) &&& 31)) ||| ((nI 1) <<< ((nI b) &&& 31))))])), (a1, .inl (cI, 6, .inl (upd S a ((S a) ||| ((nI 1) <<< ((nI b) &&& 31)))))), (a2, .inl (cI, 6, .inl O))] H := hP
    replace hD : va_D A [(h, .inr (1, [.ref a1, .ref a2, .ref a3, .ref a4, .ref a5, .int (nI n), .int (nm ||| (((nI 1) <<< ((nI a) &&& 31)) ||| ((nI 1) <<< ((nI b) &&& 31))))])), (a1, .inl (cI, 6, .inl (upd S a ((S a) ||| ((nI 1) <<< ((nI b) &&& 31)))))), (a2, .inl (cI, 6, .inl O))] := hD
    exact W.vret hx hb hr (fun t9 ht9 hW9 => ⟨⟨(upd S a ((S a) ||| ((nI 1) <<< ((nI b) &&& 31))), O, nm ||| (((nI 1) <<< ((nI a) &&& 31)) ||| ((nI 1) <<< ((nI b) &&& 31)))), rfl, by subst hc; exact ⟨rfl, rfl, rfl⟩, by show va_P D vwCl [(h, .inr (1, [.ref a1, .ref a2, .ref a3, .ref a4, .ref a5, .int (nI n), .int (nm ||| (((nI 1) <<< ((nI a) &&& 31)) ||| ((nI 1) <<< ((nI b) &&& 31))))])), (a1, .inl (cI, 6, .inl (upd S a ((S a) ||| ((nI 1) <<< ((nI b) &&& 31)))))), (a2, .inl (cI, 6, .inl O))] t9.heap; rw [ht9]; exact hP⟩, hS.F ht9⟩) hS.2.2 dX1_addPair_47
  · refine lv_aload_n hx hb dX1_addPair_4 rfl (lv_at hl 0 rfl) ?_
    refine va_get (D := D) (ci := 1) (v := .ref a2) (C := RX1) (T := TX1) (N := 7) hx hb htg hi_X1 hown hK hP 0 rfl rfl 1 (by decide) (htg _ hm_31) (fun _ h9 => h9) rfl dX1_addPair_5 ?_
    refine lv_iload_n hx hb dX1_addPair_8 rfl (lv_at hl 1 rfl) ?_
    refine lv_dup2_11 hx hb dX1_addPair_9 rfl rfl ?_
    refine hw_iald hx hb hK hP 2 0 rfl rfl (j := a) (by omega) (by first | decide | omega) (v := O a) (rfl) dX1_addPair_10 ?_
    refine lv_iconst (v := nI 1) hx hb dX1_addPair_11 (by decide) ?_
    refine lv_iload_n hx hb dX1_addPair_12 rfl (lv_at hl 2 rfl) ?_
    refine lv_ishl hx hb dX1_addPair_13 ?_
    refine lv_ior hx hb dX1_addPair_14 ?_
    refine hw_iast hx hb hK hP hD hS 2 0 rfl rfl (j := a) (by omega) (by first | decide | omega) dX1_addPair_15 (fun H locs hP hD hS => ?_)
    replace hP : va_P D vwCl [(h, .inr (1, [.ref a1, .ref a2, .ref a3, .ref a4, .ref a5, .int (nI n), .int nm])), (a1, .inl (cI, 6, .inl S)), (a2, .inl (cI, 6, .inl (upd O a ((O a) ||| ((nI 1) <<< ((nI b) &&& 31))))))] H := hP
    replace hD : va_D A [(h, .inr (1, [.ref a1, .ref a2, .ref a3, .ref a4, .ref a5, .int (nI n), .int nm])), (a1, .inl (cI, 6, .inl S)), (a2, .inl (cI, 6, .inl (upd O a ((O a) ||| ((nI 1) <<< ((nI b) &&& 31))))))] := hD
    refine lv_goto hx hb dX1_addPair_16 rfl ?_
    refine lv_aload_n hx hb dX1_addPair_31 rfl (lv_at hl 0 rfl) ?_
    refine lv_dup hx hb dX1_addPair_32 rfl ?_
    refine va_get (D := D) (ci := 1) (v := .int nm) (C := RX1) (T := TX1) (N := 7) hx hb htg hi_X1 hown hK hP 0 rfl rfl 6 (by decide) (htg _ hm_45) (fun _ h9 => h9) rfl dX1_addPair_33 ?_
    refine lv_iconst (v := nI 1) hx hb dX1_addPair_36 (by decide) ?_
    refine lv_iload_n hx hb dX1_addPair_37 rfl (lv_at hl 1 rfl) ?_
    refine lv_ishl hx hb dX1_addPair_38 ?_
    refine lv_iconst (v := nI 1) hx hb dX1_addPair_39 (by decide) ?_
    refine lv_iload_n hx hb dX1_addPair_40 rfl (lv_at hl 2 rfl) ?_
    refine lv_ishl hx hb dX1_addPair_41 ?_
    refine lv_ior hx hb dX1_addPair_42 ?_
    refine lv_ior hx hb dX1_addPair_43 ?_
    refine va_put (D := D) (ci := 1) (v := .int (nm ||| (((nI 1) <<< ((nI a) &&& 31)) ||| ((nI 1) <<< ((nI b) &&& 31))))) (ty := .int) (C := RX1) (T := TX1) (N := 7) hx hb htg hi_X1 tyX1 tyX1_ok nmX1 hown hK hP hD hS 0 rfl rfl 6 (by decide) (htg _ hm_45) (fun _ h9 => h9) rfl (by decide +kernel) rfl rfl (Nat.le_of_ble_eq_true rfl) dX1_addPair_44 (fun H locs hP hD hS => ?_)
    replace hP : va_P D vwCl [(h, .inr (1, [.ref a1, .ref a2, .ref a3, .ref a4, .ref a5, .int (nI n), .int (nm ||| (((nI 1) <<< ((nI a) &&& 31)) ||| ((nI 1) <<< ((nI b) &&& 31))))])), (a1, .inl (cI, 6, .inl S)), (a2, .inl (cI, 6, .inl (upd O a ((O a) ||| ((nI 1) <<< ((nI b) &&& 31))))))] H := hP
    replace hD : va_D A [(h, .inr (1, [.ref a1, .ref a2, .ref a3, .ref a4, .ref a5, .int (nI n), .int (nm ||| (((nI 1) <<< ((nI a) &&& 31)) ||| ((nI 1) <<< ((nI b) &&& 31))))])), (a1, .inl (cI, 6, .inl S)), (a2, .inl (cI, 6, .inl (upd O a ((O a) ||| ((nI 1) <<< ((nI b) &&& 31))))))] := hD
    exact W.vret hx hb hr (fun t9 ht9 hW9 => ⟨⟨(S, upd O a ((O a) ||| ((nI 1) <<< ((nI b) &&& 31))), nm ||| (((nI 1) <<< ((nI a) &&& 31)) ||| ((nI 1) <<< ((nI b) &&& 31)))), rfl, by subst hc; exact ⟨rfl, rfl, rfl⟩, by show va_P D vwCl [(h, .inr (1, [.ref a1, .ref a2, .ref a3, .ref a4, .ref a5, .int (nI n), .int (nm ||| (((nI 1) <<< ((nI a) &&& 31)) ||| ((nI 1) <<< ((nI b) &&& 31))))])), (a1, .inl (cI, 6, .inl S)), (a2, .inl (cI, 6, .inl (upd O a ((O a) ||| ((nI 1) <<< ((nI b) &&& 31))))))] t9.heap; rw [ht9]; exact hP⟩, hS.F ht9⟩) hS.2.2 dX1_addPair_47

set_option maxHeartbeats 4000000 in
set_option maxRecDepth 100000 in
/-- a piece more -/
theorem k_X1_addPiece (l : Launch) (D : va_G) (cI cZ cJ : ClassId) (sz : Nat) (x y : Nat) (o : Bool) (n : Nat) (Fr To Li : Nat → Int32) (nm : Int32) (h a1 a2 a3 a4 a5 : Nat) (hn : n < 5) : Met l yX1_addPiece (Cond.code yX1_addPiece cX1_addPiece 4 none :: hwG) { frames := 0, cells := 0, slots := 0, locals := 0 } (hp_M [.ref h, .int (nI x), .int (nI y), .int (hc_b o)] D cI cZ cJ [(h, .inr (1, [.ref a1, .ref a2, .ref a3, .ref a4, .ref a5, .int (nI n), .int nm])), (a3, .inl (cI, 5, .inl Fr)), (a4, .inl (cI, 5, .inl To)), (a5, .inl (cZ, 5, .inl Li))] sz) (va_Qv (S := (Nat → Int32) × (Nat → Int32) × (Nat → Int32) × Int32 × Int32) (fun u => u.1 = upd Fr n (nI x) ∧ u.2.1 = upd To n (nI y) ∧ u.2.2.1 = upd Li n (hc_b o) ∧ u.2.2.2.1 = nI (n + 1) ∧ u.2.2.2.2 = nm ||| ((nI 1 <<< (nI x &&& 31)) ||| (nI 1 <<< (nI y &&& 31)))) (fun u t => va_P D vwCl ([(h, .inr (1, [.ref a1, .ref a2, .ref a3, .ref a4, .ref a5, .int u.2.2.2.1, .int u.2.2.2.2])), (a3, .inl (cI, 5, .inl u.1)), (a4, .inl (cI, 5, .inl u.2.1)), (a5, .inl (cZ, 5, .inl u.2.2.1))]) t.heap) (va_A [(h, .inr (1, [.ref a1, .ref a2, .ref a3, .ref a4, .ref a5, .int (nI n), .int nm])), (a3, .inl (cI, 5, .inl Fr)), (a4, .inl (cI, 5, .inl To)), (a5, .inl (cZ, 5, .inl Li))] sz)) 0 0 (va_A [(h, .inr (1, [.ref a1, .ref a2, .ref a3, .ref a4, .ref a5, .int (nI n), .int nm])), (a3, .inl (cI, 5, .inl Fr)), (a4, .inl (cI, 5, .inl To)), (a5, .inl (cZ, 5, .inl Li))] sz) := by
  refine Met.ofW (cc := cX1_addPiece) (maxL := 4) (ret := none) (by decide) rfl ?_
  intro p e s m args below meth c s₁ B hml hv
  obtain ⟨rfl, hsz, hP, hz, hD0⟩ := hv
  have hx := B.exec
  have hb := B.bytes
  have hr := B.returns
  have hts := atoms_spec (ws := (Cond.code yX1_addPiece cX1_addPiece 4 none :: hwG)) B.pre
  have htg := fun w h => hts w (List.mem_cons_of_mem _ h)
  have hown : s.vm.findClass RX1 = some m.cls := findClass_of_methodNamed B.named
  have hlocks := B.notSynchronized
  have hK := hz.1
  subst hsz
  have hD := hD0.self (sz := s.heap.size)
  generalize hAe : va_A [(h, .inr (1, [.ref a1, .ref a2, .ref a3, .ref a4, .ref a5, .int (nI n), .int nm])), (a3, .inl (cI, 5, .inl Fr)), (a4, .inl (cI, 5, .inl To)), (a5, .inl (cZ, 5, .inl Li))] s.heap.size = A at hD ⊢
  have hA : ∀ q : Nat, s.heap.size ≤ q → A q := fun q h => by rw [← hAe]; exact Or.inr h
  have hS : va_S A s.heap s.heap [] := va_S.rf
  have hl := lv_entry ([.ref h, .int (nI x), .int (nI y), .int (hc_b o)]) (n := 4) (Nat.le_of_ble_eq_true rfl)
  rw [lg_entry_eq]
  generalize (lg_sl ([.ref h, .int (nI x), .int (nI y), .int (hc_b o)]) ++ List.replicate (4 - (lg_sl ([.ref h, .int (nI x), .int (nI y), .int (hc_b o)])).length) Slot.unset).toArray = ls at hl ⊢
  replace hl : lv_has ls 4 [(0, .ref h), (1, .int (nI x)), (2, .int (nI y)), (3, .int (hc_b o))] := hl
  replace hP : va_P D vwCl [(h, .inr (1, [.ref a1, .ref a2, .ref a3, .ref a4, .ref a5, .int (nI n), .int nm])), (a3, .inl (cI, 5, .inl Fr)), (a4, .inl (cI, 5, .inl To)), (a5, .inl (cZ, 5, .inl Li))] s.heap := hP
  refine lv_aload_n hx hb dX1_addPiece_0 rfl (lv_at hl 0 rfl) ?_
  refine va_get (D := D) (ci := 1) (v := .ref a3) (C := RX1) (T := TX1) (N := 7) hx hb htg hi_X1 hown hK hP 0 rfl rfl 2 (by decide) (htg _ hm_32) (fun _ h9 => h9) rfl dX1_addPiece_1 ?_
  refine lv_aload_n hx hb dX1_addPiece_4 rfl (lv_at hl 0 rfl) ?_
  refine va_get (D := D) (ci := 1) (v := .int (nI n)) (C := RX1) (T := TX1) (N := 7) hx hb htg hi_X1 hown hK hP 0 rfl rfl 5 (by decide) (htg _ hm_41) (fun _ h9 => h9) rfl dX1_addPiece_5 ?_
  refine lv_iload_n hx hb dX1_addPiece_8 rfl (lv_at hl 1 rfl) ?_
  refine hw_iast hx hb hK hP hD hS 1 0 rfl rfl (j := n) (by omega) (by first | decide | omega) dX1_addPiece_9 (fun H locs hP hD hS => ?_)
  replace hP : va_P D vwCl [(h, .inr (1, [.ref a1, .ref a2, .ref a3, .ref a4, .ref a5, .int (nI n), .int nm])), (a3, .inl (cI, 5, .inl (upd Fr n (nI x)))), (a4, .inl (cI, 5, .inl To)), (a5, .inl (cZ, 5, .inl Li))] H := hP
  replace hD : va_D A [(h, .inr (1, [.ref a1, .ref a2, .ref a3, .ref a4, .ref a5, .int (nI n), .int nm])), (a3, .inl (cI, 5, .inl (upd Fr n (nI x)))), (a4, .inl (cI, 5, .inl To)), (a5, .inl (cZ, 5, .inl Li))] := hD
  refine lv_aload_n hx hb dX1_addPiece_10 rfl (lv_at hl 0 rfl) ?_
  refine va_get (D := D) (ci := 1) (v := .ref a4) (C := RX1) (T := TX1) (N := 7) hx hb htg hi_X1 hown hK hP 0 rfl rfl 3 (by decide) (htg _ hm_35) (fun _ h9 => h9) rfl dX1_addPiece_11 ?_
  refine lv_aload_n hx hb dX1_addPiece_14 rfl (lv_at hl 0 rfl) ?_
  refine va_get (D := D) (ci := 1) (v := .int (nI n)) (C := RX1) (T := TX1) (N := 7) hx hb htg hi_X1 hown hK hP 0 rfl rfl 5 (by decide) (htg _ hm_41) (fun _ h9 => h9) rfl dX1_addPiece_15 ?_
  refine lv_iload_n hx hb dX1_addPiece_18 rfl (lv_at hl 2 rfl) ?_
  refine hw_iast hx hb hK hP hD hS 2 0 rfl rfl (j := n) (by omega) (by first | decide | omega) dX1_addPiece_19 (fun H locs hP hD hS => ?_)
  replace hP : va_P D vwCl [(h, .inr (1, [.ref a1, .ref a2, .ref a3, .ref a4, .ref a5, .int (nI n), .int nm])), (a3, .inl (cI, 5, .inl (upd Fr n (nI x)))), (a4, .inl (cI, 5, .inl (upd To n (nI y)))), (a5, .inl (cZ, 5, .inl Li))] H := hP
  replace hD : va_D A [(h, .inr (1, [.ref a1, .ref a2, .ref a3, .ref a4, .ref a5, .int (nI n), .int nm])), (a3, .inl (cI, 5, .inl (upd Fr n (nI x)))), (a4, .inl (cI, 5, .inl (upd To n (nI y)))), (a5, .inl (cZ, 5, .inl Li))] := hD
  refine lv_aload_n hx hb dX1_addPiece_20 rfl (lv_at hl 0 rfl) ?_
  refine va_get (D := D) (ci := 1) (v := .ref a5) (C := RX1) (T := TX1) (N := 7) hx hb htg hi_X1 hown hK hP 0 rfl rfl 4 (by decide) (htg _ hm_38) (fun _ h9 => h9) rfl dX1_addPiece_21 ?_
  refine lv_aload_n hx hb dX1_addPiece_24 rfl (lv_at hl 0 rfl) ?_
  refine va_get (D := D) (ci := 1) (v := .int (nI n)) (C := RX1) (T := TX1) (N := 7) hx hb htg hi_X1 hown hK hP 0 rfl rfl 5 (by decide) (htg _ hm_41) (fun _ h9 => h9) rfl dX1_addPiece_25 ?_
  refine lv_iload_n hx hb dX1_addPiece_28 rfl (lv_at hl 3 rfl) ?_
  refine hw_zast hx hb hK hP hD hS 3 1 rfl rfl (j := n) (by omega) (by first | decide | omega) dX1_addPiece_29 (fun H locs hP hD hS => ?_)
  replace hP : va_P D vwCl [(h, .inr (1, [.ref a1, .ref a2, .ref a3, .ref a4, .ref a5, .int (nI n), .int nm])), (a3, .inl (cI, 5, .inl (upd Fr n (nI x)))), (a4, .inl (cI, 5, .inl (upd To n (nI y)))), (a5, .inl (cZ, 5, .inl (upd Li n (vp_nar .boolean (hc_b o)))))] H := hP
  replace hD : va_D A [(h, .inr (1, [.ref a1, .ref a2, .ref a3, .ref a4, .ref a5, .int (nI n), .int nm])), (a3, .inl (cI, 5, .inl (upd Fr n (nI x)))), (a4, .inl (cI, 5, .inl (upd To n (nI y)))), (a5, .inl (cZ, 5, .inl (upd Li n (vp_nar .boolean (hc_b o)))))] := hD
  refine lv_aload_n hx hb dX1_addPiece_30 rfl (lv_at hl 0 rfl) ?_
  refine lv_dup hx hb dX1_addPiece_31 rfl ?_
  refine va_get (D := D) (ci := 1) (v := .int (nI n)) (C := RX1) (T := TX1) (N := 7) hx hb htg hi_X1 hown hK hP 0 rfl rfl 5 (by decide) (htg _ hm_41) (fun _ h9 => h9) rfl dX1_addPiece_32 ?_
  refine lv_iconst (v := nI 1) hx hb dX1_addPiece_35 (by decide) ?_
  refine hw_iadd hx hb dX1_addPiece_36 ?_
  refine va_put (D := D) (ci := 1) (v := .int (nI (n + 1))) (ty := .int) (C := RX1) (T := TX1) (N := 7) hx hb htg hi_X1 tyX1 tyX1_ok nmX1 hown hK hP hD hS 0 rfl rfl 5 (by decide) (htg _ hm_41) (fun _ h9 => h9) rfl (by decide +kernel) rfl rfl (Nat.le_of_ble_eq_true rfl) dX1_addPiece_37 (fun H locs hP hD hS => ?_)
  replace hP : va_P D vwCl [(h, .inr (1, [.ref a1, .ref a2, .ref a3, .ref a4, .ref a5, .int (nI (n + 1)), .int nm])), (a3, .inl (cI, 5, .inl (upd Fr n (nI x)))), (a4, .inl (cI, 5, .inl (upd To n (nI y)))), (a5, .inl (cZ, 5, .inl (upd Li n (vp_nar .boolean (hc_b o)))))] H := hP
  replace hD : va_D A [(h, .inr (1, [.ref a1, .ref a2, .ref a3, .ref a4, .ref a5, .int (nI (n + 1)), .int nm])), (a3, .inl (cI, 5, .inl (upd Fr n (nI x)))), (a4, .inl (cI, 5, .inl (upd To n (nI y)))), (a5, .inl (cZ, 5, .inl (upd Li n (vp_nar .boolean (hc_b o)))))] := hD
  refine lv_aload_n hx hb dX1_addPiece_40 rfl (lv_at hl 0 rfl) ?_
  refine lv_dup hx hb dX1_addPiece_41 rfl ?_
  refine va_get (D := D) (ci := 1) (v := .int nm) (C := RX1) (T := TX1) (N := 7) hx hb htg hi_X1 hown hK hP 0 rfl rfl 6 (by decide) (htg _ hm_45) (fun _ h9 => h9) rfl dX1_addPiece_42 ?_
  refine lv_iconst (v := nI 1) hx hb dX1_addPiece_45 (by decide) ?_
  refine lv_iload_n hx hb dX1_addPiece_46 rfl (lv_at hl 1 rfl) ?_
  refine lv_ishl hx hb dX1_addPiece_47 ?_
  refine lv_iconst (v := nI 1) hx hb dX1_addPiece_48 (by decide) ?_
  refine lv_iload_n hx hb dX1_addPiece_49 rfl (lv_at hl 2 rfl) ?_
  refine lv_ishl hx hb dX1_addPiece_50 ?_
  refine lv_ior hx hb dX1_addPiece_51 ?_
  refine lv_ior hx hb dX1_addPiece_52 ?_
  refine va_put (D := D) (ci := 1) (v := .int (nm ||| (((nI 1) <<< ((nI x) &&& 31)) ||| ((nI 1) <<< ((nI y) &&& 31))))) (ty := .int) (C := RX1) (T := TX1) (N := 7) hx hb htg hi_X1 tyX1 tyX1_ok nmX1 hown hK hP hD hS 0 rfl rfl 6 (by decide) (htg _ hm_45) (fun _ h9 => h9) rfl (by decide +kernel) rfl rfl (Nat.le_of_ble_eq_true rfl) dX1_addPiece_53 (fun H locs hP hD hS => ?_)
  replace hP : va_P D vwCl [(h, .inr (1, [.ref a1, .ref a2, .ref a3, .ref a4, .ref a5, .int (nI (n + 1)), .int (nm ||| (((nI 1) <<< ((nI x) &&& 31)) ||| ((nI 1) <<< ((nI y) &&& 31))))])), (a3, .inl (cI, 5, .inl (upd Fr n (nI x)))), (a4, .inl (cI, 5, .inl (upd To n (nI y)))), (a5, .inl (cZ, 5, .inl (upd Li n (vp_nar .boolean (hc_b o)))))] H := hP
  replace hD : va_D A [(h, .inr (1, [.ref a1, .ref a2, .ref a3, .ref a4, .ref a5, .int (nI (n + 1)), .int (nm ||| (((nI 1) <<< ((nI x) &&& 31)) ||| ((nI 1) <<< ((nI y) &&& 31))))])), (a3, .inl (cI, 5, .inl (upd Fr n (nI x)))), (a4, .inl (cI, 5, .inl (upd To n (nI y)))), (a5, .inl (cZ, 5, .inl (upd Li n (vp_nar .boolean (hc_b o)))))] := hD
  exact W.vret hx hb hr (fun t9 ht9 hW9 => ⟨⟨(upd Fr n (nI x), upd To n (nI y), upd Li n (vp_nar .boolean (hc_b o)), nI (n + 1), nm ||| (((nI 1) <<< ((nI x) &&& 31)) ||| ((nI 1) <<< ((nI y) &&& 31)))), rfl, ⟨rfl, rfl, by rw [hw_narb], rfl, rfl⟩, by show va_P D vwCl [(h, .inr (1, [.ref a1, .ref a2, .ref a3, .ref a4, .ref a5, .int (nI (n + 1)), .int (nm ||| (((nI 1) <<< ((nI x) &&& 31)) ||| ((nI 1) <<< ((nI y) &&& 31))))])), (a3, .inl (cI, 5, .inl (upd Fr n (nI x)))), (a4, .inl (cI, 5, .inl (upd To n (nI y)))), (a5, .inl (cZ, 5, .inl (upd Li n (vp_nar .boolean (hc_b o)))))] t9.heap; rw [ht9]; exact hP⟩, hS.F ht9⟩) hS.2.2 dX1_addPiece_56

set_option maxHeartbeats 4000000 in
set_option maxRecDepth 100000 in
/-- no pairs, no pieces -/
theorem k_X1_forgetAll (l : Launch) (D : va_G) (cI cZ cJ : ClassId) (sz : Nat) (n : Nat) (S O : Nat → Int32) (nm : Int32) (h a1 a2 a3 a4 a5 : Nat) : Met l yX1_forgetAll (Cond.code yX1_forgetAll cX1_forgetAll 1 none :: hwG) { frames := 1, cells := 0, slots := 0, locals := 23 } (hp_M [.ref h] D cI cZ cJ [(h, .inr (1, [.ref a1, .ref a2, .ref a3, .ref a4, .ref a5, .int (nI n), .int nm])), (a1, .inl (cI, 6, .inl S)), (a2, .inl (cI, 6, .inl O))] sz) (va_Qv (S := (Nat → Int32) × (Nat → Int32)) (fun u => (∀ j, j < 6 → u.1 j = nI 0) ∧ ∀ j, j < 6 → u.2 j = nI 0) (fun u t => va_P D vwCl ([(h, .inr (1, [.ref a1, .ref a2, .ref a3, .ref a4, .ref a5, .int (nI 0), .int (nI 0)])), (a1, .inl (cI, 6, .inl u.1)), (a2, .inl (cI, 6, .inl u.2))]) t.heap) (va_A [(h, .inr (1, [.ref a1, .ref a2, .ref a3, .ref a4, .ref a5, .int (nI n), .int nm])), (a1, .inl (cI, 6, .inl S)), (a2, .inl (cI, 6, .inl O))] sz)) 0 0 (va_A [(h, .inr (1, [.ref a1, .ref a2, .ref a3, .ref a4, .ref a5, .int (nI n), .int nm])), (a1, .inl (cI, 6, .inl S)), (a2, .inl (cI, 6, .inl O))] sz) := by
  refine Met.ofW (cc := cX1_forgetAll) (maxL := 1) (ret := none) (by decide) rfl ?_
  intro p e s m args below meth c s₁ B hml hv
  obtain ⟨rfl, hsz, hP, hz, hD0⟩ := hv
  have hx := B.exec
  have hb := B.bytes
  have hr := B.returns
  have hts := atoms_spec (ws := (Cond.code yX1_forgetAll cX1_forgetAll 1 none :: hwG)) B.pre
  have htg := fun w h => hts w (List.mem_cons_of_mem _ h)
  have hown : s.vm.findClass RX1 = some m.cls := findClass_of_methodNamed B.named
  have hlocks := B.notSynchronized
  have hK := hz.1
  subst hsz
  have hD := hD0.self (sz := s.heap.size)
  generalize hAe : va_A [(h, .inr (1, [.ref a1, .ref a2, .ref a3, .ref a4, .ref a5, .int (nI n), .int nm])), (a1, .inl (cI, 6, .inl S)), (a2, .inl (cI, 6, .inl O))] s.heap.size = A at hD ⊢
  have hA : ∀ q : Nat, s.heap.size ≤ q → A q := fun q h => by rw [← hAe]; exact Or.inr h
  have hS : va_S A s.heap s.heap [] := va_S.rf
  have hl := lv_entry ([.ref h]) (n := 1) (Nat.le_of_ble_eq_true rfl)
  rw [lg_entry_eq]
  generalize (lg_sl ([.ref h]) ++ List.replicate (1 - (lg_sl ([.ref h])).length) Slot.unset).toArray = ls at hl ⊢
  replace hl : lv_has ls 1 [(0, .ref h)] := hl
  replace hP : va_P D vwCl [(h, .inr (1, [.ref a1, .ref a2, .ref a3, .ref a4, .ref a5, .int (nI n), .int nm])), (a1, .inl (cI, 6, .inl S)), (a2, .inl (cI, 6, .inl O))] s.heap := hP
  refine lv_aload_n hx hb dX1_forgetAll_0 rfl (lv_at hl 0 rfl) ?_
  refine va_get (D := D) (ci := 1) (v := .ref a1) (C := RX1) (T := TX1) (N := 7) hx hb htg hi_X1 hown hK hP 0 rfl rfl 0 (by decide) (htg _ hm_30) (fun _ h9 => h9) rfl dX1_forgetAll_1 ?_
  refine lv_iconst (v := nI 0) hx hb dX1_forgetAll_4 (by decide) ?_
  refine hv_callv (w1 := fun u => [(a1, .inl (cI, 6, .inl u))]) (va_runS (As := [.ref a1, .int (nI 0)]) (rest := []) ⟨hx, hb, hml, hown, htg⟩ (k_J7_fill l D cI cZ cJ _ S 6 a1 (nI 0) (by decide)) (va_cwS 2 htg (hg_S hm_338 hm_71 hm_4 hm_72) rfl rfl rfl (by decide +kernel) ⟨Nat.le_of_ble_eq_true rfl, Nat.le_of_ble_eq_true rfl⟩) ⟨hp_M_blind, hp_M_pre (hP.sub (ws' := [(a1, .inl (cI, 6, .inl S))]) [1] rfl) (hD.sub (ws' := [(a1, .inl (cI, 6, .inl S))]) [1] (by decide) rfl) hz⟩ rfl rfl hl.1 rfl (lv_room (Nat.le_of_ble_eq_true rfl)) dX1_forgetAll_5 ⟨Nat.zero_le _, Nat.zero_le _⟩) hP hD hS hA [1] rfl (fun _ => rfl) (fun S1 H locs h1 hP hD hS => ?_)
  replace hP : va_P D vwCl [(h, .inr (1, [.ref a1, .ref a2, .ref a3, .ref a4, .ref a5, .int (nI n), .int nm])), (a1, .inl (cI, 6, .inl S1)), (a2, .inl (cI, 6, .inl O))] H := hP
  replace hD : va_D A [(h, .inr (1, [.ref a1, .ref a2, .ref a3, .ref a4, .ref a5, .int (nI n), .int nm])), (a1, .inl (cI, 6, .inl S1)), (a2, .inl (cI, 6, .inl O))] := hD
  refine lv_aload_n hx hb dX1_forgetAll_8 rfl (lv_at hl 0 rfl) ?_
  refine va_get (D := D) (ci := 1) (v := .ref a2) (C := RX1) (T := TX1) (N := 7) hx hb htg hi_X1 hown hK hP 0 rfl rfl 1 (by decide) (htg _ hm_31) (fun _ h9 => h9) rfl dX1_forgetAll_9 ?_
  refine lv_iconst (v := nI 0) hx hb dX1_forgetAll_12 (by decide) ?_
  refine hv_callv (w1 := fun u => [(a2, .inl (cI, 6, .inl u))]) (va_runS (As := [.ref a2, .int (nI 0)]) (rest := []) ⟨hx, hb, hml, hown, htg⟩ (k_J7_fill l D cI cZ cJ _ O 6 a2 (nI 0) (by decide)) (va_cwS 2 htg (hg_S hm_338 hm_71 hm_4 hm_72) rfl rfl rfl (by decide +kernel) ⟨Nat.le_of_ble_eq_true rfl, Nat.le_of_ble_eq_true rfl⟩) ⟨hp_M_blind, hp_M_pre (hP.sub (ws' := [(a2, .inl (cI, 6, .inl O))]) [2] rfl) (hD.sub (ws' := [(a2, .inl (cI, 6, .inl O))]) [2] (by decide) rfl) hz⟩ rfl rfl hl.1 rfl (lv_room (Nat.le_of_ble_eq_true rfl)) dX1_forgetAll_13 ⟨Nat.zero_le _, Nat.zero_le _⟩) hP hD hS hA [2] rfl (fun _ => rfl) (fun O1 H locs h2 hP hD hS => ?_)
  replace hP : va_P D vwCl [(h, .inr (1, [.ref a1, .ref a2, .ref a3, .ref a4, .ref a5, .int (nI n), .int nm])), (a1, .inl (cI, 6, .inl S1)), (a2, .inl (cI, 6, .inl O1))] H := hP
  replace hD : va_D A [(h, .inr (1, [.ref a1, .ref a2, .ref a3, .ref a4, .ref a5, .int (nI n), .int nm])), (a1, .inl (cI, 6, .inl S1)), (a2, .inl (cI, 6, .inl O1))] := hD
  refine lv_aload_n hx hb dX1_forgetAll_16 rfl (lv_at hl 0 rfl) ?_
  refine lv_iconst (v := nI 0) hx hb dX1_forgetAll_17 (by decide) ?_
  refine va_put (D := D) (ci := 1) (v := .int (nI 0)) (ty := .int) (C := RX1) (T := TX1) (N := 7) hx hb htg hi_X1 tyX1 tyX1_ok nmX1 hown hK hP hD hS 0 rfl rfl 5 (by decide) (htg _ hm_41) (fun _ h9 => h9) rfl (by decide +kernel) rfl rfl (Nat.le_of_ble_eq_true rfl) dX1_forgetAll_18 (fun H locs hP hD hS => ?_)
  replace hP : va_P D vwCl [(h, .inr (1, [.ref a1, .ref a2, .ref a3, .ref a4, .ref a5, .int (nI 0), .int nm])), (a1, .inl (cI, 6, .inl S1)), (a2, .inl (cI, 6, .inl O1))] H := hP
  replace hD : va_D A [(h, .inr (1, [.ref a1, .ref a2, .ref a3, .ref a4, .ref a5, .int (nI 0), .int nm])), (a1, .inl (cI, 6, .inl S1)), (a2, .inl (cI, 6, .inl O1))] := hD
  refine lv_aload_n hx hb dX1_forgetAll_21 rfl (lv_at hl 0 rfl) ?_
  refine lv_iconst (v := nI 0) hx hb dX1_forgetAll_22 (by decide) ?_
  refine va_put (D := D) (ci := 1) (v := .int (nI 0)) (ty := .int) (C := RX1) (T := TX1) (N := 7) hx hb htg hi_X1 tyX1 tyX1_ok nmX1 hown hK hP hD hS 0 rfl rfl 6 (by decide) (htg _ hm_45) (fun _ h9 => h9) rfl (by decide +kernel) rfl rfl (Nat.le_of_ble_eq_true rfl) dX1_forgetAll_23 (fun H locs hP hD hS => ?_)
  replace hP : va_P D vwCl [(h, .inr (1, [.ref a1, .ref a2, .ref a3, .ref a4, .ref a5, .int (nI 0), .int (nI 0)])), (a1, .inl (cI, 6, .inl S1)), (a2, .inl (cI, 6, .inl O1))] H := hP
  replace hD : va_D A [(h, .inr (1, [.ref a1, .ref a2, .ref a3, .ref a4, .ref a5, .int (nI 0), .int (nI 0)])), (a1, .inl (cI, 6, .inl S1)), (a2, .inl (cI, 6, .inl O1))] := hD
  exact W.vret hx hb hr (fun t9 ht9 hW9 => ⟨⟨(S1, O1), rfl, ⟨h1, h2⟩, by show va_P D vwCl [(h, .inr (1, [.ref a1, .ref a2, .ref a3, .ref a4, .ref a5, .int (nI 0), .int (nI 0)])), (a1, .inl (cI, 6, .inl S1)), (a2, .inl (cI, 6, .inl O1))] t9.heap; rw [ht9]; exact hP⟩, hS.F ht9⟩) hS.2.2 dX1_forgetAll_26
