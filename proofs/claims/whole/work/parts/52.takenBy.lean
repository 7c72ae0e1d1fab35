set_option maxHeartbeats 4000000 in
set_option maxRecDepth 100000 in
/-- what a claim takes of a heap -/
theorem k_X2_takenBy (l : Launch) (D : va_G) (cI cZ cJ : ClassId) (v : Nat → Nat) (V : Nat → Int32) (sm ot : Nat → Nat → Bool) (n : Nat) (fr to : Nat → Nat) (li : Nat → Bool) (S O Fr To Li : Nat → Int32) (nm : Int32) (h a1 a2 a3 a4 a5 : Nat) (G : Nat) (EN LG BI : Nat → Int32) (nx : Nat → Option Nat) (lg : Nat → Bool) (bi : Nat → Nat) (fl : Int32) (g q0 q1 q2 q3 : Nat) (hV : ∀ t, t < 6 → V t = nI (v t)) (hvG : ∀ t, t < 6 → v t ≤ G) (hC : hs_cl S O Fr To Li sm ot n fr to li) (hG : G < 2 ^ 30) (hH : hs_hp G EN LG BI nx lg bi) (hbi : ∀ a b, nx a ≠ none → nx b ≠ none → bi a = bi b → a = b) : Met l yX2_takenBy (Cond.code yX2_takenBy cX2_takenBy 7 (some .int) :: hwG) { frames := 2, cells := 0, slots := 0, locals := 47 } (hp_R [.ref g, .ref h] D cI cZ cJ [(g, .inr (2, [.ref q0, .int (nI G), .ref q1, .ref q2, .ref q3, .int fl])), (q0, .inl (cI, 6, .inl V)), (q1, .inl (cI, G + 1, .inl EN)), (q2, .inl (cZ, G + 1, .inl LG)), (q3, .inl (cI, G + 1, .inl BI)), (h, .inr (1, [.ref a1, .ref a2, .ref a3, .ref a4, .ref a5, .int (nI n), .int nm])), (a1, .inl (cI, 6, .inl S)), (a2, .inl (cI, 6, .inl O)), (a3, .inl (cI, 5, .inl Fr)), (a4, .inl (cI, 5, .inl To)), (a5, .inl (cZ, 5, .inl Li))]) (vp_Si (fun r => hs_tb nx lg bi v sm ot n fr to li r)) 0 0 (fun _ => False) := by
  refine Met.ofW (cc := cX2_takenBy) (maxL := 7) (ret := (some .int)) (by decide) rfl ?_
  intro p e s m args below meth c s₁ B hml hv
  obtain ⟨rfl, hP, hz⟩ := hv
  have hx := B.exec
  have hb := B.bytes
  have hr := B.returns
  have hts := atoms_spec (ws := (Cond.code yX2_takenBy cX2_takenBy 7 (some .int) :: hwG)) B.pre
  have htg := fun w h => hts w (List.mem_cons_of_mem _ h)
  have hown : s.vm.findClass RX2 = some m.cls := findClass_of_methodNamed B.named
  have hlocks := B.notSynchronized
  have hK := hz.1
  have hl := lv_entry ([.ref g, .ref h]) (n := 7) (Nat.le_of_ble_eq_true rfl)
  rw [lg_entry_eq]
  generalize (lg_sl ([.ref g, .ref h]) ++ List.replicate (7 - (lg_sl ([.ref g, .ref h])).length) Slot.unset).toArray = ls at hl ⊢
  replace hl : lv_has ls 7 [(0, .ref g), (1, .ref h)] := hl
  refine lv_aload_n hx hb dX2_takenBy_0 rfl (lv_at hl 1 rfl) ?_
  refine lv_aload_n hx hb dX2_takenBy_1 rfl (lv_at hl 0 rfl) ?_
  refine va_get (D := D) (ci := 2) (v := .ref q0) (C := RX2) (T := TX2) (N := 6) hx hb htg hi_X2 hown hK hP 0 rfl rfl 0 (by decide) (htg _ hm_73) (fun _ h9 => h9) rfl dX2_takenBy_2 ?_
  refine hw_csi (va_runV (C := RX1) (b := h) (As := [.ref q0]) (rest := []) ⟨hx, hb, hml, hown, htg⟩ (k_X1_pairsFit l D cI cZ cJ v V q0 sm ot n fr to li S O Fr To Li nm h a1 a2 a3 a4 a5 hV (fun t ht => by have := hvG t ht; omega) hC) (cwV 1 htg (hg_V hm_169 hm_147 hm_148 hm_2 hm_149) rfl rfl rfl (by decide +kernel) ⟨Nat.le_of_ble_eq_true rfl, Nat.le_of_ble_eq_true rfl⟩) ⟨hp_R_blind, va_recv (q := (RX1, TX1, 7)) (q0 := 5) (ci := 1) hK hP rfl rfl, hp_R_pre (hP.sub (ws' := [(h, .inr (1, [.ref a1, .ref a2, .ref a3, .ref a4, .ref a5, .int (nI n), .int nm])), (a1, .inl (cI, 6, .inl S)), (a2, .inl (cI, 6, .inl O)), (q0, .inl (cI, 6, .inl V))]) [5, 6, 7, 1] rfl) hz⟩ rfl rfl hl.1 rfl (lv_room (Nat.le_of_ble_eq_true rfl)) dX2_takenBy_5 ⟨Nat.zero_le _, Nat.zero_le _⟩) (fun r hq => ?_)
  rcases hq with ⟨rfl, hq⟩ | ⟨rfl, hq⟩
  · refine lv_if_ne hx hb dX2_takenBy_8 rfl (fun hc => ?_) (fun hc => absurd hc (by decide))
    refine lv_iconst (v := nI 0) hx hb dX2_takenBy_13 (by decide) ?_
    refine lv_istore_n hx hb dX2_takenBy_14 rfl hl (by decide) rfl (fun ls hl => ?_)
    replace hl : lv_has ls 7 [(2, .int (nI 0)), (0, .ref g), (1, .ref h)] := hl
    refine lv_iconst (v := nI 0) hx hb dX2_takenBy_15 (by decide) ?_
    refine lv_istore_n hx hb dX2_takenBy_16 rfl hl (by decide) rfl (fun ls hl => ?_)
    replace hl : lv_has ls 7 [(3, .int (nI 0)), (2, .int (nI 0)), (0, .ref g), (1, .ref h)] := hl
    have hb31 := hs_b31 hH
    have hn5 := hC.1
    obtain ⟨p9, e_p9⟩ : ∃ z : Nat, z = 0 := ⟨_, rfl⟩
    obtain ⟨T, e_T⟩ : ∃ z : Int32, z = nI 0 := ⟨_, rfl⟩
    obtain ⟨c9, e_c9⟩ : ∃ z : Nat → List Nat, z = (fun _ => []) := ⟨_, rfl⟩
    replace hl : lv_has ls 7 [(3, .int (nI p9)), (2, .int T), (0, .ref g), (1, .ref h)] := by subst e_p9 e_T e_c9; exact hl
    have hT : hs_TB nx lg bi (fun p => v (fr p)) (fun p => v (to p)) li p9 T c9 := by subst e_p9 e_T e_c9; exact hs_TB_0
    have hp9 : p9 ≤ n := by subst e_p9 e_T e_c9; exact Nat.zero_le _
    clear e_p9 e_T e_c9
    obtain ⟨k, hk⟩ : ∃ k : Nat, k = n - p9 := ⟨_, rfl⟩
    induction k generalizing p9 T c9 ls  with
    | zero =>
      refine lv_iload_n hx hb dX2_takenBy_17 rfl (lv_at hl 0 rfl) ?_
      refine lv_aload_n hx hb dX2_takenBy_18 rfl (lv_at hl 3 rfl) ?_
      refine va_getN (D := D) (ci := 1) (v := .int (nI n)) (C := RX1) (T := TX1) (N := 7) hx hb htg hi_X1 hown hK hP 5 rfl rfl 5 (by decide) (hz_useF hz hn_44) (fun _ h9 => h9) rfl dX2_takenBy_19 ?_
      refine hw_icmp_ge hx hb (by omega) (by omega) dX2_takenBy_22 rfl (fun hc => ?_) (fun hc => absurd hc (by omega))
      refine lv_iload_n hx hb dX2_takenBy_107 rfl (lv_at hl 1 rfl) ?_
      have hpn : p9 = n := by omega
      subst hpn
      exact W.iret (v := T) hx hb hr (fun t9 ht9 hW9 => ⟨_, rfl, Or.inr ⟨hs_TB_m1 hb31 hT, hq, c9, hT⟩, ht9⟩) (fun _ h => nomatch h) dX2_takenBy_108
    | succ k ih =>
      refine lv_iload_n hx hb dX2_takenBy_17 rfl (lv_at hl 0 rfl) ?_
      refine lv_aload_n hx hb dX2_takenBy_18 rfl (lv_at hl 3 rfl) ?_
      refine va_getN (D := D) (ci := 1) (v := .int (nI n)) (C := RX1) (T := TX1) (N := 7) hx hb htg hi_X1 hown hK hP 5 rfl rfl 5 (by decide) (hz_useF hz hn_44) (fun _ h9 => h9) rfl dX2_takenBy_19 ?_
      refine hw_icmp_ge hx hb (by omega) (by omega) dX2_takenBy_22 rfl (fun hc => absurd hc (by omega)) (fun hc => ?_)
      obtain ⟨f1, f2, f3, f4, f5⟩ := hC.2.2 p9 (by omega)
      refine lv_aload_n hx hb dX2_takenBy_25 rfl (lv_at hl 2 rfl) ?_
      refine va_get (D := D) (ci := 2) (v := .ref q0) (C := RX2) (T := TX2) (N := 6) hx hb htg hi_X2 hown hK hP 0 rfl rfl 0 (by decide) (htg _ hm_73) (fun _ h9 => h9) rfl dX2_takenBy_26 ?_
      refine lv_aload_n hx hb dX2_takenBy_29 rfl (lv_at hl 3 rfl) ?_
      refine va_getN (D := D) (ci := 1) (v := .ref a3) (C := RX1) (T := TX1) (N := 7) hx hb htg hi_X1 hown hK hP 5 rfl rfl 2 (by decide) (hz_useF hz hn_34) (fun _ h9 => h9) rfl dX2_takenBy_30 ?_
      refine lv_iload_n hx hb dX2_takenBy_33 rfl (lv_at hl 0 rfl) ?_
      refine hw_iald hx hb hK hP 8 0 rfl rfl (j := p9) (by omega) (by first | decide | omega) (v := nI (fr p9)) ((hC.2.2 p9 (by omega)).1) dX2_takenBy_34 ?_
      refine hw_iald hx hb hK hP 1 0 rfl rfl (j := (fr p9)) (by omega) (by first | decide | omega) (v := nI (v (fr p9))) (hV (fr p9) (by first | assumption | omega)) dX2_takenBy_35 ?_
      refine lv_istore hx hb dX2_takenBy_36 hl (by decide) rfl (fun ls hl => ?_)
      replace hl : lv_has ls 7 [(4, .int (nI (v (fr p9)))), (3, .int (nI p9)), (2, .int T), (0, .ref g), (1, .ref h)] := hl
      refine lv_aload_n hx hb dX2_takenBy_38 rfl (lv_at hl 3 rfl) ?_
      refine va_get (D := D) (ci := 2) (v := .ref q0) (C := RX2) (T := TX2) (N := 6) hx hb htg hi_X2 hown hK hP 0 rfl rfl 0 (by decide) (htg _ hm_73) (fun _ h9 => h9) rfl dX2_takenBy_39 ?_
      refine lv_aload_n hx hb dX2_takenBy_42 rfl (lv_at hl 4 rfl) ?_
      refine va_getN (D := D) (ci := 1) (v := .ref a4) (C := RX1) (T := TX1) (N := 7) hx hb htg hi_X1 hown hK hP 5 rfl rfl 3 (by decide) (hz_useF hz hn_37) (fun _ h9 => h9) rfl dX2_takenBy_43 ?_
      refine lv_iload_n hx hb dX2_takenBy_46 rfl (lv_at hl 1 rfl) ?_
      refine hw_iald hx hb hK hP 9 0 rfl rfl (j := p9) (by omega) (by first | decide | omega) (v := nI (to p9)) ((hC.2.2 p9 (by omega)).2.2.1) dX2_takenBy_47 ?_
      refine hw_iald hx hb hK hP 1 0 rfl rfl (j := (to p9)) (by omega) (by first | decide | omega) (v := nI (v (to p9))) (hV (to p9) (by first | assumption | omega)) dX2_takenBy_48 ?_
      refine lv_istore hx hb dX2_takenBy_49 hl (by decide) rfl (fun ls hl => ?_)
      replace hl : lv_has ls 7 [(5, .int (nI (v (to p9)))), (4, .int (nI (v (fr p9)))), (3, .int (nI p9)), (2, .int T), (0, .ref g), (1, .ref h)] := hl
      refine lv_aload_n hx hb dX2_takenBy_51 rfl (lv_at hl 5 rfl) ?_
      refine va_getN (D := D) (ci := 1) (v := .ref a5) (C := RX1) (T := TX1) (N := 7) hx hb htg hi_X1 hown hK hP 5 rfl rfl 4 (by decide) (hz_useF hz hn_40) (fun _ h9 => h9) rfl dX2_takenBy_52 ?_
      refine lv_iload_n hx hb dX2_takenBy_55 rfl (lv_at hl 2 rfl) ?_
      refine hw_zald hx hb hK hP 10 1 rfl rfl (j := p9) (by omega) (by first | decide | omega) (v := hc_b (li p9)) ((hC.2.2 p9 (by omega)).2.2.2.2) dX2_takenBy_56 ?_
      refine hw_ifeq_b hx hb dX2_takenBy_57 rfl (fun hli => ?_) (fun hli => ?_)
      · refine lv_aload_n hx hb dX2_takenBy_71 rfl (lv_at hl 4 rfl) ?_
        refine lv_iload hx hb dX2_takenBy_72 (lv_at hl 1 rfl) ?_
        refine lv_iload hx hb dX2_takenBy_74 (lv_at hl 0 rfl) ?_
        refine hw_csi (va_runV (C := RX2) (b := g) (As := [.int (nI (v (fr p9))), .int (nI (v (to p9)))]) (rest := []) ⟨hx, hb, hml, hown, htg⟩ (k_X2_takenByCell l D cI cZ cJ (v (fr p9)) (v (to p9)) G EN LG BI nx lg bi fl g q0 q1 q2 q3 (hvG _ f2) (hvG _ f4) hG hH) (cwV 2 htg (hg_V hm_175 hm_177 hs_yX2_takenByCell hm_3 hm_178) rfl rfl rfl (by decide +kernel) ⟨Nat.le_of_ble_eq_true rfl, Nat.le_of_ble_eq_true rfl⟩) ⟨hp_R_blind, va_recv (q := (RX2, TX2, 6)) (q0 := 0) (ci := 2) hK hP rfl rfl, hp_R_pre (hP.sub (ws' := [(g, .inr (2, [.ref q0, .int (nI G), .ref q1, .ref q2, .ref q3, .int fl])), (q1, .inl (cI, G + 1, .inl EN)), (q2, .inl (cZ, G + 1, .inl LG)), (q3, .inl (cI, G + 1, .inl BI))]) [0, 2, 3, 4] rfl) hz⟩ rfl rfl hl.1 rfl (lv_room (Nat.le_of_ble_eq_true rfl)) dX2_takenBy_76 ⟨Nat.zero_le _, Nat.zero_le _⟩) (fun r9 htk => ?_)
        rw [← hli] at htk
        refine lv_istore hx hb dX2_takenBy_79 hl (by decide) rfl (fun ls hl => ?_)
        replace hl : lv_has ls 7 [(6, .int r9), (5, .int (nI (v (to p9)))), (4, .int (nI (v (fr p9)))), (3, .int (nI p9)), (2, .int T), (0, .ref g), (1, .ref h)] := hl
        refine lv_iload hx hb dX2_takenBy_81 (lv_at hl 0 rfl) ?_
        refine lv_iconst (v := (-1)) hx hb dX2_takenBy_83 (by decide) ?_
        rcases htk with ⟨rfl, htk⟩ | ⟨hne, l9, htk, hbt⟩
        · refine lv_icmp_eq hx hb dX2_takenBy_84 rfl (fun hc => ?_) (fun hc => absurd rfl hc)
          refine lv_iconst (v := (-1)) hx hb dX2_takenBy_94 (by decide) ?_
          exact W.iret (v := -1) hx hb hr (fun t9 ht9 hW9 => ⟨_, rfl, Or.inl ⟨rfl, fun h9 => hs_TB_none (S := fun p => v (fr p)) (E := fun p => v (to p)) (I := li) (n := n) (p := p9) (by omega) htk h9.2⟩, ht9⟩) (fun _ h => nomatch h) dX2_takenBy_95
        · refine lv_icmp_eq hx hb dX2_takenBy_84 rfl (fun hc => absurd hc hne) (fun hc => ?_)
          refine lv_iload hx hb dX2_takenBy_87 (lv_at hl 0 rfl) ?_
          refine lv_iload_n hx hb dX2_takenBy_89 rfl (lv_at hl 4 rfl) ?_
          refine lv_iand hx hb dX2_takenBy_90 ?_
          refine lv_if_eq hx hb dX2_takenBy_91 rfl (fun hov => ?_) (fun hov => ?_)
          · refine lv_iload_n hx hb dX2_takenBy_96 rfl (lv_at hl 4 rfl) ?_
            refine lv_iload hx hb dX2_takenBy_97 (lv_at hl 0 rfl) ?_
            refine lv_ior hx hb dX2_takenBy_99 ?_
            refine lv_istore_n hx hb dX2_takenBy_100 rfl hl (by decide) rfl (fun ls hl => ?_)
            replace hl : lv_has ls 7 [(2, .int (T ||| r9)), (6, .int r9), (5, .int (nI (v (to p9)))), (4, .int (nI (v (fr p9)))), (3, .int (nI p9)), (0, .ref g), (1, .ref h)] := hl
            refine lv_iinc (v := nI (p9 + 1)) (k := 4) hx hb dX2_takenBy_101 hl rfl (hw_inc _) (by decide) rfl (fun ls hl => ?_)
            replace hl : lv_has ls 7 [(3, .int (nI (p9 + 1))), (2, .int (T ||| r9)), (6, .int r9), (5, .int (nI (v (to p9)))), (4, .int (nI (v (fr p9)))), (0, .ref g), (1, .ref h)] := hl
            refine lv_goto hx hb dX2_takenBy_104 rfl ?_
            replace hl : lv_has ls 7 [(3, .int (nI (p9 + 1))), (2, .int (T ||| r9)), (0, .ref g), (1, .ref h)] := lv_sub hl [0, 1, 5, 6] rfl
            refine ih (hl := hl) (hT := (hs_TB_step hbi hb31 hT htk hbt hov)) (hp9 := (by omega)) (hk := (by omega))
          · refine lv_iconst (v := (-1)) hx hb dX2_takenBy_94 (by decide) ?_
            exact W.iret (v := -1) hx hb hr (fun t9 ht9 hW9 => ⟨_, rfl, Or.inl ⟨rfl, fun h9 => hs_TB_over hbi (S := fun p => v (fr p)) (E := fun p => v (to p)) (I := li) (n := n) (p := p9) (by omega) hT htk hbt hov h9.2⟩, ht9⟩) (fun _ h => nomatch h) dX2_takenBy_95
      · refine lv_aload_n hx hb dX2_takenBy_60 rfl (lv_at hl 4 rfl) ?_
        refine lv_iload hx hb dX2_takenBy_61 (lv_at hl 1 rfl) ?_
        refine lv_iload hx hb dX2_takenBy_63 (lv_at hl 0 rfl) ?_
        refine hw_csi (va_runV (C := RX2) (b := g) (As := [.int (nI (v (fr p9))), .int (nI (v (to p9)))]) (rest := []) ⟨hx, hb, hml, hown, htg⟩ (k_X2_takenByList l D cI cZ cJ (v (fr p9)) (v (to p9)) G EN LG BI nx lg bi fl g q0 q1 q2 q3 (hvG _ f2) (hvG _ f4) hG hH) (cwV 2 htg (hg_V hm_170 hm_172 hs_yX2_takenByList hm_3 hm_173) rfl rfl rfl (by decide +kernel) ⟨Nat.le_of_ble_eq_true rfl, Nat.le_of_ble_eq_true rfl⟩) ⟨hp_R_blind, va_recv (q := (RX2, TX2, 6)) (q0 := 0) (ci := 2) hK hP rfl rfl, hp_R_pre (hP.sub (ws' := [(g, .inr (2, [.ref q0, .int (nI G), .ref q1, .ref q2, .ref q3, .int fl])), (q1, .inl (cI, G + 1, .inl EN)), (q2, .inl (cZ, G + 1, .inl LG)), (q3, .inl (cI, G + 1, .inl BI))]) [0, 2, 3, 4] rfl) hz⟩ rfl rfl hl.1 rfl (lv_room (Nat.le_of_ble_eq_true rfl)) dX2_takenBy_65 ⟨Nat.zero_le _, Nat.zero_le _⟩) (fun r9 htk => ?_)
        rw [← hli] at htk
        refine lv_goto hx hb dX2_takenBy_68 rfl ?_
        refine lv_istore hx hb dX2_takenBy_79 hl (by decide) rfl (fun ls hl => ?_)
        replace hl : lv_has ls 7 [(6, .int r9), (5, .int (nI (v (to p9)))), (4, .int (nI (v (fr p9)))), (3, .int (nI p9)), (2, .int T), (0, .ref g), (1, .ref h)] := hl
        refine lv_iload hx hb dX2_takenBy_81 (lv_at hl 0 rfl) ?_
        refine lv_iconst (v := (-1)) hx hb dX2_takenBy_83 (by decide) ?_
        rcases htk with ⟨rfl, htk⟩ | ⟨hne, l9, htk, hbt⟩
        · refine lv_icmp_eq hx hb dX2_takenBy_84 rfl (fun hc => ?_) (fun hc => absurd rfl hc)
          refine lv_iconst (v := (-1)) hx hb dX2_takenBy_94 (by decide) ?_
          exact W.iret (v := -1) hx hb hr (fun t9 ht9 hW9 => ⟨_, rfl, Or.inl ⟨rfl, fun h9 => hs_TB_none (S := fun p => v (fr p)) (E := fun p => v (to p)) (I := li) (n := n) (p := p9) (by omega) htk h9.2⟩, ht9⟩) (fun _ h => nomatch h) dX2_takenBy_95
        · refine lv_icmp_eq hx hb dX2_takenBy_84 rfl (fun hc => absurd hc hne) (fun hc => ?_)
          refine lv_iload hx hb dX2_takenBy_87 (lv_at hl 0 rfl) ?_
          refine lv_iload_n hx hb dX2_takenBy_89 rfl (lv_at hl 4 rfl) ?_
          refine lv_iand hx hb dX2_takenBy_90 ?_
          refine lv_if_eq hx hb dX2_takenBy_91 rfl (fun hov => ?_) (fun hov => ?_)
          · refine lv_iload_n hx hb dX2_takenBy_96 rfl (lv_at hl 4 rfl) ?_
            refine lv_iload hx hb dX2_takenBy_97 (lv_at hl 0 rfl) ?_
            refine lv_ior hx hb dX2_takenBy_99 ?_
            refine lv_istore_n hx hb dX2_takenBy_100 rfl hl (by decide) rfl (fun ls hl => ?_)
            replace hl : lv_has ls 7 [(2, .int (T ||| r9)), (6, .int r9), (5, .int (nI (v (to p9)))), (4, .int (nI (v (fr p9)))), (3, .int (nI p9)), (0, .ref g), (1, .ref h)] := hl
            refine lv_iinc (v := nI (p9 + 1)) (k := 4) hx hb dX2_takenBy_101 hl rfl (hw_inc _) (by decide) rfl (fun ls hl => ?_)
            replace hl : lv_has ls 7 [(3, .int (nI (p9 + 1))), (2, .int (T ||| r9)), (6, .int r9), (5, .int (nI (v (to p9)))), (4, .int (nI (v (fr p9)))), (0, .ref g), (1, .ref h)] := hl
            refine lv_goto hx hb dX2_takenBy_104 rfl ?_
            replace hl : lv_has ls 7 [(3, .int (nI (p9 + 1))), (2, .int (T ||| r9)), (0, .ref g), (1, .ref h)] := lv_sub hl [0, 1, 5, 6] rfl
            refine ih (hl := hl) (hT := (hs_TB_step hbi hb31 hT htk hbt hov)) (hp9 := (by omega)) (hk := (by omega))
          · refine lv_iconst (v := (-1)) hx hb dX2_takenBy_94 (by decide) ?_
            exact W.iret (v := -1) hx hb hr (fun t9 ht9 hW9 => ⟨_, rfl, Or.inl ⟨rfl, fun h9 => hs_TB_over hbi (S := fun p => v (fr p)) (E := fun p => v (to p)) (I := li) (n := n) (p := p9) (by omega) hT htk hbt hov h9.2⟩, ht9⟩) (fun _ h => nomatch h) dX2_takenBy_95
  · refine lv_if_ne hx hb dX2_takenBy_8 rfl (fun hc => absurd rfl hc) (fun hc => ?_)
    refine lv_iconst (v := (-1)) hx hb dX2_takenBy_11 (by decide) ?_
    exact W.iret (v := -1) hx hb hr (fun t9 ht9 hW9 => ⟨_, rfl, Or.inl ⟨rfl, fun h9 => hq h9.1⟩, ht9⟩) (fun _ h => nomatch h) dX2_takenBy_12
