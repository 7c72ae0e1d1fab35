set_option maxHeartbeats 4000000 in
set_option maxRecDepth 100000 in
/-- pair -/
theorem k_X4_pair (l : Launch) (D : va_G) (cI cZ cJ : ClassId) (sz : Nat) (Sa Oa : Nat → Int32) (cx a b : Nat) (ob9 : Bool) (cd md o1 o2 mo : Int32) (y0 y1 y2 y3 y4 y5 y6 y7 y8 y9 ya yb yc yd ye yf yg yh : Nat) (hcx : cx < 2 ^ 32) (ha : a < 2 ^ 32) (hb9 : b < 2 ^ 32) : Met l yX4_pair (Cond.code yX4_pair cX4_pair 6 none :: hwG) { frames := 1, cells := 0, slots := 0, locals := 20 } (hp_M [.ref y0, .int (nI cx), .int (nI a), .int (nI b), .int (hc_b ob9)] D cI cZ cJ [(y0, .inr (4, [.int cd, .ref y1, .ref y2, .ref y3, .ref y4, .ref y5, .ref y6, .ref y7, .ref y8, .ref y9, .ref ya, .ref yb, .ref yc, .ref yd, .ref ye, .int md, .int o1, .int o2, .int mo, .ref yf, .ref yg, .ref yh])), (y1, .inl (cZ, 72, .inl Sa)), (y2, .inl (cZ, 72, .inl Oa))] sz) (va_Qv (S := Int32 × (Nat → Int32) × (Nat → Int32)) (fun u => (¬ (cx < 2 ∧ a < 6 ∧ b < 6) ∧ u = (nI 1, Sa, Oa)) ∨ ((cx < 2 ∧ a < 6 ∧ b < 6) ∧ u.1 = nI 0 ∧ ((ob9 = true ∧ u.2.1 = Sa ∧ u.2.2 = upd Oa (36 * cx + 6 * a + b) (hc_b true)) ∨ (ob9 = false ∧ u.2.1 = upd Sa (36 * cx + 6 * a + b) (hc_b true) ∧ u.2.2 = Oa)))) (fun u t => va_P D vwCl ([(y0, .inr (4, [.int u.1, .ref y1, .ref y2, .ref y3, .ref y4, .ref y5, .ref y6, .ref y7, .ref y8, .ref y9, .ref ya, .ref yb, .ref yc, .ref yd, .ref ye, .int md, .int o1, .int o2, .int mo, .ref yf, .ref yg, .ref yh])), (y1, .inl (cZ, 72, .inl u.2.1)), (y2, .inl (cZ, 72, .inl u.2.2))]) t.heap) (va_A [(y0, .inr (4, [.int cd, .ref y1, .ref y2, .ref y3, .ref y4, .ref y5, .ref y6, .ref y7, .ref y8, .ref y9, .ref ya, .ref yb, .ref yc, .ref yd, .ref ye, .int md, .int o1, .int o2, .int mo, .ref yf, .ref yg, .ref yh])), (y1, .inl (cZ, 72, .inl Sa)), (y2, .inl (cZ, 72, .inl Oa))] sz)) 0 0 (va_A [(y0, .inr (4, [.int cd, .ref y1, .ref y2, .ref y3, .ref y4, .ref y5, .ref y6, .ref y7, .ref y8, .ref y9, .ref ya, .ref yb, .ref yc, .ref yd, .ref ye, .int md, .int o1, .int o2, .int mo, .ref yf, .ref yg, .ref yh])), (y1, .inl (cZ, 72, .inl Sa)), (y2, .inl (cZ, 72, .inl Oa))] sz) := by
  refine Met.ofW (cc := cX4_pair) (maxL := 6) (ret := none) (by decide) rfl ?_
  intro p e s m args below meth c s₁ B hml hv
  obtain ⟨rfl, hsz, hP, hz, hD0⟩ := hv
  have hx := B.exec
  have hb := B.bytes
  have hr := B.returns
  have hts := atoms_spec (ws := (Cond.code yX4_pair cX4_pair 6 none :: hwG)) B.pre
  have htg := fun w h => hts w (List.mem_cons_of_mem _ h)
  have hown : s.vm.findClass RX4 = some m.cls := findClass_of_methodNamed B.named
  have hlocks := B.notSynchronized
  have hK := hz.1
  subst hsz
  have hD := hD0.self (sz := s.heap.size)
  generalize hAe : va_A [(y0, .inr (4, [.int cd, .ref y1, .ref y2, .ref y3, .ref y4, .ref y5, .ref y6, .ref y7, .ref y8, .ref y9, .ref ya, .ref yb, .ref yc, .ref yd, .ref ye, .int md, .int o1, .int o2, .int mo, .ref yf, .ref yg, .ref yh])), (y1, .inl (cZ, 72, .inl Sa)), (y2, .inl (cZ, 72, .inl Oa))] s.heap.size = A at hD ⊢
  have hA : ∀ q : Nat, s.heap.size ≤ q → A q := fun q h => by rw [← hAe]; exact Or.inr h
  have hS : va_S A s.heap s.heap [] := va_S.rf
  have hl := lv_entry ([.ref y0, .int (nI cx), .int (nI a), .int (nI b), .int (hc_b ob9)]) (n := 6) (Nat.le_of_ble_eq_true rfl)
  rw [lg_entry_eq]
  generalize (lg_sl ([.ref y0, .int (nI cx), .int (nI a), .int (nI b), .int (hc_b ob9)]) ++ List.replicate (6 - (lg_sl ([.ref y0, .int (nI cx), .int (nI a), .int (nI b), .int (hc_b ob9)])).length) Slot.unset).toArray = ls at hl ⊢
  replace hl : lv_has ls 6 [(0, .ref y0), (1, .int (nI cx)), (2, .int (nI a)), (3, .int (nI b)), (4, .int (hc_b ob9))] := hl
  replace hP : va_P D vwCl [(y0, .inr (4, [.int cd, .ref y1, .ref y2, .ref y3, .ref y4, .ref y5, .ref y6, .ref y7, .ref y8, .ref y9, .ref ya, .ref yb, .ref yc, .ref yd, .ref ye, .int md, .int o1, .int o2, .int mo, .ref yf, .ref yg, .ref yh])), (y1, .inl (cZ, 72, .inl Sa)), (y2, .inl (cZ, 72, .inl Oa))] s.heap := hP
  refine lv_aload_n hx hb dX4_pair_0 rfl (lv_at hl 0 rfl) ?_
  refine lv_iload_n hx hb dX4_pair_1 rfl (lv_at hl 1 rfl) ?_
  refine hw_csi (va_runS (As := [.int (nI cx)]) (rest := [.ref y0]) ⟨hx, hb, hml, hown, htg⟩ (k_X4_noClaim l D cI cZ cJ cx hcx) (va_cwS 1 htg (hg_S hm_571 hm_572 hm_6 hm_573) rfl rfl rfl (by decide +kernel) ⟨Nat.le_of_ble_eq_true rfl, Nat.le_of_ble_eq_true rfl⟩) ⟨hp_R_blind, hp_R_pre (hP.sub (ws' := []) [] rfl) hz⟩ rfl rfl hl.1 rfl (lv_room (Nat.le_of_ble_eq_true rfl)) dX4_pair_2 ⟨Nat.zero_le _, Nat.zero_le _⟩) (fun r hq1 => ?_)
  rcases hq1 with ⟨rfl, hq1⟩ | ⟨rfl, hq1⟩
  · refine lv_if_ne hx hb dX4_pair_5 rfl (fun hc => ?_) (fun hc => absurd hc (by decide))
    refine lv_iconst (v := nI 1) hx hb dX4_pair_22 (by decide) ?_
    refine lv_goto hx hb dX4_pair_23 rfl ?_
    refine va_put (D := D) (ci := 4) (v := .int (nI 1)) (ty := .int) (C := RX4) (T := TX4) (N := 22) hx hb htg hi_X4 tyX4 tyX4_ok nmX4 hown hK hP hD hS 0 rfl rfl 0 (by decide) (htg _ hm_496) (fun _ h9 => h9) rfl (by decide +kernel) rfl rfl (Nat.le_of_ble_eq_true rfl) dX4_pair_27 (fun H locs hP hD hS => ?_)
    replace hP : va_P D vwCl [(y0, .inr (4, [.int (nI 1), .ref y1, .ref y2, .ref y3, .ref y4, .ref y5, .ref y6, .ref y7, .ref y8, .ref y9, .ref ya, .ref yb, .ref yc, .ref yd, .ref ye, .int md, .int o1, .int o2, .int mo, .ref yf, .ref yg, .ref yh])), (y1, .inl (cZ, 72, .inl Sa)), (y2, .inl (cZ, 72, .inl Oa))] H := hP
    replace hD : va_D A [(y0, .inr (4, [.int (nI 1), .ref y1, .ref y2, .ref y3, .ref y4, .ref y5, .ref y6, .ref y7, .ref y8, .ref y9, .ref ya, .ref yb, .ref yc, .ref yd, .ref ye, .int md, .int o1, .int o2, .int mo, .ref yf, .ref yg, .ref yh])), (y1, .inl (cZ, 72, .inl Sa)), (y2, .inl (cZ, 72, .inl Oa))] := hD
    refine lv_aload_n hx hb dX4_pair_30 rfl (lv_at hl 0 rfl) ?_
    refine va_get (D := D) (ci := 4) (v := .int (nI 1)) (C := RX4) (T := TX4) (N := 22) hx hb htg hi_X4 hown hK hP 0 rfl rfl 0 (by decide) (htg _ hm_496) (fun _ h9 => h9) rfl dX4_pair_31 ?_
    refine lv_if_le hx hb dX4_pair_34 rfl (fun hc => absurd hc (by decide)) (fun hc => ?_)
    exact W.vret hx hb hr (fun t9 ht9 hW9 => ⟨⟨(nI 1, Sa, Oa), rfl, Or.inl ⟨fun h => hq1 h.1, rfl⟩, by show va_P D vwCl [(y0, .inr (4, [.int (nI 1), .ref y1, .ref y2, .ref y3, .ref y4, .ref y5, .ref y6, .ref y7, .ref y8, .ref y9, .ref ya, .ref yb, .ref yc, .ref yd, .ref ye, .int md, .int o1, .int o2, .int mo, .ref yf, .ref yg, .ref yh])), (y1, .inl (cZ, 72, .inl Sa)), (y2, .inl (cZ, 72, .inl Oa))] t9.heap; rw [ht9]; exact hP⟩, hS.F ht9⟩) hS.2.2 dX4_pair_37
  · refine lv_if_ne hx hb dX4_pair_5 rfl (fun hc => absurd rfl hc) (fun hc => ?_)
    refine lv_iload_n hx hb dX4_pair_8 rfl (lv_at hl 2 rfl) ?_
    refine hw_csi (va_runS (As := [.int (nI a)]) (rest := [.ref y0]) ⟨hx, hb, hml, hown, htg⟩ (k_X4_noTerm l D cI cZ cJ a ha) (va_cwS 1 htg (hg_S hm_574 hm_575 hm_6 hm_576) rfl rfl rfl (by decide +kernel) ⟨Nat.le_of_ble_eq_true rfl, Nat.le_of_ble_eq_true rfl⟩) ⟨hp_R_blind, hp_R_pre (hP.sub (ws' := []) [] rfl) hz⟩ rfl rfl hl.1 rfl (lv_room (Nat.le_of_ble_eq_true rfl)) dX4_pair_9 ⟨Nat.zero_le _, Nat.zero_le _⟩) (fun r hq2 => ?_)
    rcases hq2 with ⟨rfl, hq2⟩ | ⟨rfl, hq2⟩
    · refine lv_if_ne hx hb dX4_pair_12 rfl (fun hc => ?_) (fun hc => absurd hc (by decide))
      refine lv_iconst (v := nI 1) hx hb dX4_pair_22 (by decide) ?_
      refine lv_goto hx hb dX4_pair_23 rfl ?_
      refine va_put (D := D) (ci := 4) (v := .int (nI 1)) (ty := .int) (C := RX4) (T := TX4) (N := 22) hx hb htg hi_X4 tyX4 tyX4_ok nmX4 hown hK hP hD hS 0 rfl rfl 0 (by decide) (htg _ hm_496) (fun _ h9 => h9) rfl (by decide +kernel) rfl rfl (Nat.le_of_ble_eq_true rfl) dX4_pair_27 (fun H locs hP hD hS => ?_)
      replace hP : va_P D vwCl [(y0, .inr (4, [.int (nI 1), .ref y1, .ref y2, .ref y3, .ref y4, .ref y5, .ref y6, .ref y7, .ref y8, .ref y9, .ref ya, .ref yb, .ref yc, .ref yd, .ref ye, .int md, .int o1, .int o2, .int mo, .ref yf, .ref yg, .ref yh])), (y1, .inl (cZ, 72, .inl Sa)), (y2, .inl (cZ, 72, .inl Oa))] H := hP
      replace hD : va_D A [(y0, .inr (4, [.int (nI 1), .ref y1, .ref y2, .ref y3, .ref y4, .ref y5, .ref y6, .ref y7, .ref y8, .ref y9, .ref ya, .ref yb, .ref yc, .ref yd, .ref ye, .int md, .int o1, .int o2, .int mo, .ref yf, .ref yg, .ref yh])), (y1, .inl (cZ, 72, .inl Sa)), (y2, .inl (cZ, 72, .inl Oa))] := hD
      refine lv_aload_n hx hb dX4_pair_30 rfl (lv_at hl 0 rfl) ?_
      refine va_get (D := D) (ci := 4) (v := .int (nI 1)) (C := RX4) (T := TX4) (N := 22) hx hb htg hi_X4 hown hK hP 0 rfl rfl 0 (by decide) (htg _ hm_496) (fun _ h9 => h9) rfl dX4_pair_31 ?_
      refine lv_if_le hx hb dX4_pair_34 rfl (fun hc => absurd hc (by decide)) (fun hc => ?_)
      exact W.vret hx hb hr (fun t9 ht9 hW9 => ⟨⟨(nI 1, Sa, Oa), rfl, Or.inl ⟨fun h => hq2 h.2.1, rfl⟩, by show va_P D vwCl [(y0, .inr (4, [.int (nI 1), .ref y1, .ref y2, .ref y3, .ref y4, .ref y5, .ref y6, .ref y7, .ref y8, .ref y9, .ref ya, .ref yb, .ref yc, .ref yd, .ref ye, .int md, .int o1, .int o2, .int mo, .ref yf, .ref yg, .ref yh])), (y1, .inl (cZ, 72, .inl Sa)), (y2, .inl (cZ, 72, .inl Oa))] t9.heap; rw [ht9]; exact hP⟩, hS.F ht9⟩) hS.2.2 dX4_pair_37
    · refine lv_if_ne hx hb dX4_pair_12 rfl (fun hc => absurd rfl hc) (fun hc => ?_)
      refine lv_iload_n hx hb dX4_pair_15 rfl (lv_at hl 3 rfl) ?_
      refine hw_csi (va_runS (As := [.int (nI b)]) (rest := [.ref y0]) ⟨hx, hb, hml, hown, htg⟩ (k_X4_noTerm l D cI cZ cJ b hb9) (va_cwS 1 htg (hg_S hm_574 hm_575 hm_6 hm_576) rfl rfl rfl (by decide +kernel) ⟨Nat.le_of_ble_eq_true rfl, Nat.le_of_ble_eq_true rfl⟩) ⟨hp_R_blind, hp_R_pre (hP.sub (ws' := []) [] rfl) hz⟩ rfl rfl hl.1 rfl (lv_room (Nat.le_of_ble_eq_true rfl)) dX4_pair_16 ⟨Nat.zero_le _, Nat.zero_le _⟩) (fun r hq3 => ?_)
      rcases hq3 with ⟨rfl, hq3⟩ | ⟨rfl, hq3⟩
      · refine lv_if_eq hx hb dX4_pair_19 rfl (fun hc => absurd hc (by decide)) (fun hc => ?_)
        refine lv_iconst (v := nI 1) hx hb dX4_pair_22 (by decide) ?_
        refine lv_goto hx hb dX4_pair_23 rfl ?_
        refine va_put (D := D) (ci := 4) (v := .int (nI 1)) (ty := .int) (C := RX4) (T := TX4) (N := 22) hx hb htg hi_X4 tyX4 tyX4_ok nmX4 hown hK hP hD hS 0 rfl rfl 0 (by decide) (htg _ hm_496) (fun _ h9 => h9) rfl (by decide +kernel) rfl rfl (Nat.le_of_ble_eq_true rfl) dX4_pair_27 (fun H locs hP hD hS => ?_)
        replace hP : va_P D vwCl [(y0, .inr (4, [.int (nI 1), .ref y1, .ref y2, .ref y3, .ref y4, .ref y5, .ref y6, .ref y7, .ref y8, .ref y9, .ref ya, .ref yb, .ref yc, .ref yd, .ref ye, .int md, .int o1, .int o2, .int mo, .ref yf, .ref yg, .ref yh])), (y1, .inl (cZ, 72, .inl Sa)), (y2, .inl (cZ, 72, .inl Oa))] H := hP
        replace hD : va_D A [(y0, .inr (4, [.int (nI 1), .ref y1, .ref y2, .ref y3, .ref y4, .ref y5, .ref y6, .ref y7, .ref y8, .ref y9, .ref ya, .ref yb, .ref yc, .ref yd, .ref ye, .int md, .int o1, .int o2, .int mo, .ref yf, .ref yg, .ref yh])), (y1, .inl (cZ, 72, .inl Sa)), (y2, .inl (cZ, 72, .inl Oa))] := hD
        refine lv_aload_n hx hb dX4_pair_30 rfl (lv_at hl 0 rfl) ?_
        refine va_get (D := D) (ci := 4) (v := .int (nI 1)) (C := RX4) (T := TX4) (N := 22) hx hb htg hi_X4 hown hK hP 0 rfl rfl 0 (by decide) (htg _ hm_496) (fun _ h9 => h9) rfl dX4_pair_31 ?_
        refine lv_if_le hx hb dX4_pair_34 rfl (fun hc => absurd hc (by decide)) (fun hc => ?_)
        exact W.vret hx hb hr (fun t9 ht9 hW9 => ⟨⟨(nI 1, Sa, Oa), rfl, Or.inl ⟨fun h => hq3 h.2.2, rfl⟩, by show va_P D vwCl [(y0, .inr (4, [.int (nI 1), .ref y1, .ref y2, .ref y3, .ref y4, .ref y5, .ref y6, .ref y7, .ref y8, .ref y9, .ref ya, .ref yb, .ref yc, .ref yd, .ref ye, .int md, .int o1, .int o2, .int mo, .ref yf, .ref yg, .ref yh])), (y1, .inl (cZ, 72, .inl Sa)), (y2, .inl (cZ, 72, .inl Oa))] t9.heap; rw [ht9]; exact hP⟩, hS.F ht9⟩) hS.2.2 dX4_pair_37
      · refine lv_if_eq hx hb dX4_pair_19 rfl (fun hc => ?_) (fun hc => absurd rfl hc)
        have hq1 := Classical.not_not.mp hq1
        have hq2 := Classical.not_not.mp hq2
        have hq3 := Classical.not_not.mp hq3
        refine lv_iconst (v := nI 0) hx hb dX4_pair_26 (by decide) ?_
        refine va_put (D := D) (ci := 4) (v := .int (nI 0)) (ty := .int) (C := RX4) (T := TX4) (N := 22) hx hb htg hi_X4 tyX4 tyX4_ok nmX4 hown hK hP hD hS 0 rfl rfl 0 (by decide) (htg _ hm_496) (fun _ h9 => h9) rfl (by decide +kernel) rfl rfl (Nat.le_of_ble_eq_true rfl) dX4_pair_27 (fun H locs hP hD hS => ?_)
        replace hP : va_P D vwCl [(y0, .inr (4, [.int (nI 0), .ref y1, .ref y2, .ref y3, .ref y4, .ref y5, .ref y6, .ref y7, .ref y8, .ref y9, .ref ya, .ref yb, .ref yc, .ref yd, .ref ye, .int md, .int o1, .int o2, .int mo, .ref yf, .ref yg, .ref yh])), (y1, .inl (cZ, 72, .inl Sa)), (y2, .inl (cZ, 72, .inl Oa))] H := hP
        replace hD : va_D A [(y0, .inr (4, [.int (nI 0), .ref y1, .ref y2, .ref y3, .ref y4, .ref y5, .ref y6, .ref y7, .ref y8, .ref y9, .ref ya, .ref yb, .ref yc, .ref yd, .ref ye, .int md, .int o1, .int o2, .int mo, .ref yf, .ref yg, .ref yh])), (y1, .inl (cZ, 72, .inl Sa)), (y2, .inl (cZ, 72, .inl Oa))] := hD
        refine lv_aload_n hx hb dX4_pair_30 rfl (lv_at hl 0 rfl) ?_
        refine va_get (D := D) (ci := 4) (v := .int (nI 0)) (C := RX4) (T := TX4) (N := 22) hx hb htg hi_X4 hown hK hP 0 rfl rfl 0 (by decide) (htg _ hm_496) (fun _ h9 => h9) rfl dX4_pair_31 ?_
        refine lv_if_le hx hb dX4_pair_34 rfl (fun hc => ?_) (fun hc => absurd (by decide) hc)
        refine lv_bipush (v := nI 36) hx hb dX4_pair_38 (by decide) ?_
        refine lv_iload_n hx hb dX4_pair_40 rfl (lv_at hl 1 rfl) ?_
        refine hw_imul hx hb dX4_pair_41 ?_
        refine lv_bipush (v := nI 6) hx hb dX4_pair_42 (by decide) ?_
        refine lv_iload_n hx hb dX4_pair_44 rfl (lv_at hl 2 rfl) ?_
        refine hw_imul hx hb dX4_pair_45 ?_
        refine hw_iadd hx hb dX4_pair_46 ?_
        refine lv_iload_n hx hb dX4_pair_47 rfl (lv_at hl 3 rfl) ?_
        refine hw_iadd hx hb dX4_pair_48 ?_
        refine lv_istore hx hb dX4_pair_49 hl (by decide) rfl (fun ls hl => ?_)
        replace hl : lv_has ls 6 [(5, .int (nI (36 * cx + 6 * a + b))), (0, .ref y0), (1, .int (nI cx)), (2, .int (nI a)), (3, .int (nI b)), (4, .int (hc_b ob9))] := hl
        refine lv_iload hx hb dX4_pair_51 (lv_at hl 5 rfl) ?_
        refine hw_ifeq_b hx hb dX4_pair_53 rfl (fun ho => ?_) (fun ho => ?_)
        · refine lv_aload_n hx hb dX4_pair_67 rfl (lv_at hl 1 rfl) ?_
          refine va_get (D := D) (ci := 4) (v := .ref y1) (C := RX4) (T := TX4) (N := 22) hx hb htg hi_X4 hown hK hP 0 rfl rfl 1 (by decide) (htg _ hm_497) (fun _ h9 => h9) rfl dX4_pair_68 ?_
          refine lv_iload hx hb dX4_pair_71 (lv_at hl 0 rfl) ?_
          refine lv_iconst (v := nI 1) hx hb dX4_pair_73 (by decide) ?_
          refine hw_zast hx hb hK hP hD hS 1 1 rfl rfl (j := (36 * cx + 6 * a + b)) (by omega) (by first | decide | omega) dX4_pair_74 (fun H locs hP hD hS => ?_)
          rw [hw_nar1] at hP hD
          replace hP : va_P D vwCl [(y0, .inr (4, [.int (nI 0), .ref y1, .ref y2, .ref y3, .ref y4, .ref y5, .ref y6, .ref y7, .ref y8, .ref y9, .ref ya, .ref yb, .ref yc, .ref yd, .ref ye, .int md, .int o1, .int o2, .int mo, .ref yf, .ref yg, .ref yh])), (y1, .inl (cZ, 72, .inl (upd Sa (36 * cx + 6 * a + b) (hc_b true)))), (y2, .inl (cZ, 72, .inl Oa))] H := hP
          replace hD : va_D A [(y0, .inr (4, [.int (nI 0), .ref y1, .ref y2, .ref y3, .ref y4, .ref y5, .ref y6, .ref y7, .ref y8, .ref y9, .ref ya, .ref yb, .ref yc, .ref yd, .ref ye, .int md, .int o1, .int o2, .int mo, .ref yf, .ref yg, .ref yh])), (y1, .inl (cZ, 72, .inl (upd Sa (36 * cx + 6 * a + b) (hc_b true)))), (y2, .inl (cZ, 72, .inl Oa))] := hD
          exact W.vret hx hb hr (fun t9 ht9 hW9 => ⟨⟨(nI 0, upd Sa (36 * cx + 6 * a + b) (hc_b true), Oa), rfl, Or.inr ⟨⟨hq1, hq2, hq3⟩, rfl, Or.inr ⟨ho, rfl, rfl⟩⟩, by show va_P D vwCl [(y0, .inr (4, [.int (nI 0), .ref y1, .ref y2, .ref y3, .ref y4, .ref y5, .ref y6, .ref y7, .ref y8, .ref y9, .ref ya, .ref yb, .ref yc, .ref yd, .ref ye, .int md, .int o1, .int o2, .int mo, .ref yf, .ref yg, .ref yh])), (y1, .inl (cZ, 72, .inl (upd Sa (36 * cx + 6 * a + b) (hc_b true)))), (y2, .inl (cZ, 72, .inl Oa))] t9.heap; rw [ht9]; exact hP⟩, hS.F ht9⟩) hS.2.2 dX4_pair_75
        · refine lv_aload_n hx hb dX4_pair_56 rfl (lv_at hl 1 rfl) ?_
          refine va_get (D := D) (ci := 4) (v := .ref y2) (C := RX4) (T := TX4) (N := 22) hx hb htg hi_X4 hown hK hP 0 rfl rfl 2 (by decide) (htg _ hm_498) (fun _ h9 => h9) rfl dX4_pair_57 ?_
          refine lv_iload hx hb dX4_pair_60 (lv_at hl 0 rfl) ?_
          refine lv_iconst (v := nI 1) hx hb dX4_pair_62 (by decide) ?_
          refine hw_zast hx hb hK hP hD hS 2 1 rfl rfl (j := (36 * cx + 6 * a + b)) (by omega) (by first | decide | omega) dX4_pair_63 (fun H locs hP hD hS => ?_)
          rw [hw_nar1] at hP hD
          replace hP : va_P D vwCl [(y0, .inr (4, [.int (nI 0), .ref y1, .ref y2, .ref y3, .ref y4, .ref y5, .ref y6, .ref y7, .ref y8, .ref y9, .ref ya, .ref yb, .ref yc, .ref yd, .ref ye, .int md, .int o1, .int o2, .int mo, .ref yf, .ref yg, .ref yh])), (y1, .inl (cZ, 72, .inl Sa)), (y2, .inl (cZ, 72, .inl (upd Oa (36 * cx + 6 * a + b) (hc_b true))))] H := hP
          replace hD : va_D A [(y0, .inr (4, [.int (nI 0), .ref y1, .ref y2, .ref y3, .ref y4, .ref y5, .ref y6, .ref y7, .ref y8, .ref y9, .ref ya, .ref yb, .ref yc, .ref yd, .ref ye, .int md, .int o1, .int o2, .int mo, .ref yf, .ref yg, .ref yh])), (y1, .inl (cZ, 72, .inl Sa)), (y2, .inl (cZ, 72, .inl (upd Oa (36 * cx + 6 * a + b) (hc_b true))))] := hD
          refine lv_goto hx hb dX4_pair_64 rfl ?_
          exact W.vret hx hb hr (fun t9 ht9 hW9 => ⟨⟨(nI 0, Sa, upd Oa (36 * cx + 6 * a + b) (hc_b true)), rfl, Or.inr ⟨⟨hq1, hq2, hq3⟩, rfl, Or.inl ⟨ho, rfl, rfl⟩⟩, by show va_P D vwCl [(y0, .inr (4, [.int (nI 0), .ref y1, .ref y2, .ref y3, .ref y4, .ref y5, .ref y6, .ref y7, .ref y8, .ref y9, .ref ya, .ref yb, .ref yc, .ref yd, .ref ye, .int md, .int o1, .int o2, .int mo, .ref yf, .ref yg, .ref yh])), (y1, .inl (cZ, 72, .inl Sa)), (y2, .inl (cZ, 72, .inl (upd Oa (36 * cx + 6 * a + b) (hc_b true))))] t9.heap; rw [ht9]; exact hP⟩, hS.F ht9⟩) hS.2.2 dX4_pair_75

set_option maxHeartbeats 4000000 in
set_option maxRecDepth 100000 in
/-- piece -/
theorem k_X4_piece (l : Launch) (D : va_G) (cI cZ cJ : ClassId) (sz : Nat) (Sa Oa My Fa Ta La : Nat → Int32) (SA OA : Nat → Bool) (MA FA TA : Nat → Nat) (LA : Nat → Bool) (cx a b : Nat) (ob9 : Bool) (cd md o1 o2 mo : Int32) (y0 y1 y2 y3 y4 y5 y6 y7 y8 y9 ya yb yc yd ye yf yg yh : Nat) (hM : hr_m Sa Oa My Fa Ta La SA OA MA FA TA LA) (hcx : cx < 2 ^ 32) (ha : a < 2 ^ 32) (hb9 : b < 2 ^ 32) : Met l yX4_piece (Cond.code yX4_piece cX4_piece 6 (some .int) :: hwG) { frames := 1, cells := 0, slots := 0, locals := 20 } (hp_M [.ref y0, .int (nI cx), .int (nI a), .int (nI b), .int (hc_b ob9)] D cI cZ cJ [(y0, .inr (4, [.int cd, .ref y1, .ref y2, .ref y3, .ref y4, .ref y5, .ref y6, .ref y7, .ref y8, .ref y9, .ref ya, .ref yb, .ref yc, .ref yd, .ref ye, .int md, .int o1, .int o2, .int mo, .ref yf, .ref yg, .ref yh])), (y3, .inl (cI, 2, .inl My)), (y4, .inl (cI, 10, .inl Fa)), (y5, .inl (cI, 10, .inl Ta)), (y6, .inl (cZ, 10, .inl La))] sz) (va_Qi (S := Int32 × (Nat → Int32) × (Nat → Int32) × (Nat → Int32) × (Nat → Int32)) (fun r u => (¬ (cx < 2 ∧ a < 6 ∧ b < 6) ∧ r = nI 0 ∧ u = (nI 1, My, Fa, Ta, La)) ∨ ((cx < 2 ∧ a < 6 ∧ b < 6) ∧ MA cx = 5 ∧ r = nI 0 ∧ u = (nI 2, My, Fa, Ta, La)) ∨ ((cx < 2 ∧ a < 6 ∧ b < 6) ∧ MA cx < 5 ∧ r = nI (MA cx) ∧ u = (nI 0, upd My cx (nI (MA cx + 1)), upd Fa (5 * cx + MA cx) (nI a), upd Ta (5 * cx + MA cx) (nI b), upd La (5 * cx + MA cx) (hc_b ob9)))) (fun u t => va_P D vwCl ([(y0, .inr (4, [.int u.1, .ref y1, .ref y2, .ref y3, .ref y4, .ref y5, .ref y6, .ref y7, .ref y8, .ref y9, .ref ya, .ref yb, .ref yc, .ref yd, .ref ye, .int md, .int o1, .int o2, .int mo, .ref yf, .ref yg, .ref yh])), (y3, .inl (cI, 2, .inl u.2.1)), (y4, .inl (cI, 10, .inl u.2.2.1)), (y5, .inl (cI, 10, .inl u.2.2.2.1)), (y6, .inl (cZ, 10, .inl u.2.2.2.2))]) t.heap) (va_A [(y0, .inr (4, [.int cd, .ref y1, .ref y2, .ref y3, .ref y4, .ref y5, .ref y6, .ref y7, .ref y8, .ref y9, .ref ya, .ref yb, .ref yc, .ref yd, .ref ye, .int md, .int o1, .int o2, .int mo, .ref yf, .ref yg, .ref yh])), (y3, .inl (cI, 2, .inl My)), (y4, .inl (cI, 10, .inl Fa)), (y5, .inl (cI, 10, .inl Ta)), (y6, .inl (cZ, 10, .inl La))] sz)) 0 0 (va_A [(y0, .inr (4, [.int cd, .ref y1, .ref y2, .ref y3, .ref y4, .ref y5, .ref y6, .ref y7, .ref y8, .ref y9, .ref ya, .ref yb, .ref yc, .ref yd, .ref ye, .int md, .int o1, .int o2, .int mo, .ref yf, .ref yg, .ref yh])), (y3, .inl (cI, 2, .inl My)), (y4, .inl (cI, 10, .inl Fa)), (y5, .inl (cI, 10, .inl Ta)), (y6, .inl (cZ, 10, .inl La))] sz) := by
  refine Met.ofW (cc := cX4_piece) (maxL := 6) (ret := (some .int)) (by decide) rfl ?_
  intro p e s m args below meth c s₁ B hml hv
  obtain ⟨rfl, hsz, hP, hz, hD0⟩ := hv
  have hx := B.exec
  have hb := B.bytes
  have hr := B.returns
  have hts := atoms_spec (ws := (Cond.code yX4_piece cX4_piece 6 (some .int) :: hwG)) B.pre
  have htg := fun w h => hts w (List.mem_cons_of_mem _ h)
  have hown : s.vm.findClass RX4 = some m.cls := findClass_of_methodNamed B.named
  have hlocks := B.notSynchronized
  have hK := hz.1
  subst hsz
  have hD := hD0.self (sz := s.heap.size)
  generalize hAe : va_A [(y0, .inr (4, [.int cd, .ref y1, .ref y2, .ref y3, .ref y4, .ref y5, .ref y6, .ref y7, .ref y8, .ref y9, .ref ya, .ref yb, .ref yc, .ref yd, .ref ye, .int md, .int o1, .int o2, .int mo, .ref yf, .ref yg, .ref yh])), (y3, .inl (cI, 2, .inl My)), (y4, .inl (cI, 10, .inl Fa)), (y5, .inl (cI, 10, .inl Ta)), (y6, .inl (cZ, 10, .inl La))] s.heap.size = A at hD ⊢
  have hA : ∀ q : Nat, s.heap.size ≤ q → A q := fun q h => by rw [← hAe]; exact Or.inr h
  have hS : va_S A s.heap s.heap [] := va_S.rf
  have hl := lv_entry ([.ref y0, .int (nI cx), .int (nI a), .int (nI b), .int (hc_b ob9)]) (n := 6) (Nat.le_of_ble_eq_true rfl)
  rw [lg_entry_eq]
  generalize (lg_sl ([.ref y0, .int (nI cx), .int (nI a), .int (nI b), .int (hc_b ob9)]) ++ List.replicate (6 - (lg_sl ([.ref y0, .int (nI cx), .int (nI a), .int (nI b), .int (hc_b ob9)])).length) Slot.unset).toArray = ls at hl ⊢
  replace hl : lv_has ls 6 [(0, .ref y0), (1, .int (nI cx)), (2, .int (nI a)), (3, .int (nI b)), (4, .int (hc_b ob9))] := hl
  replace hP : va_P D vwCl [(y0, .inr (4, [.int cd, .ref y1, .ref y2, .ref y3, .ref y4, .ref y5, .ref y6, .ref y7, .ref y8, .ref y9, .ref ya, .ref yb, .ref yc, .ref yd, .ref ye, .int md, .int o1, .int o2, .int mo, .ref yf, .ref yg, .ref yh])), (y3, .inl (cI, 2, .inl My)), (y4, .inl (cI, 10, .inl Fa)), (y5, .inl (cI, 10, .inl Ta)), (y6, .inl (cZ, 10, .inl La))] s.heap := hP
  refine lv_aload_n hx hb dX4_piece_0 rfl (lv_at hl 0 rfl) ?_
  refine lv_iload_n hx hb dX4_piece_1 rfl (lv_at hl 1 rfl) ?_
  refine hw_csi (va_runS (As := [.int (nI cx)]) (rest := [.ref y0]) ⟨hx, hb, hml, hown, htg⟩ (k_X4_noClaim l D cI cZ cJ cx hcx) (va_cwS 1 htg (hg_S hm_571 hm_572 hm_6 hm_573) rfl rfl rfl (by decide +kernel) ⟨Nat.le_of_ble_eq_true rfl, Nat.le_of_ble_eq_true rfl⟩) ⟨hp_R_blind, hp_R_pre (hP.sub (ws' := []) [] rfl) hz⟩ rfl rfl hl.1 rfl (lv_room (Nat.le_of_ble_eq_true rfl)) dX4_piece_2 ⟨Nat.zero_le _, Nat.zero_le _⟩) (fun r hq1 => ?_)
  rcases hq1 with ⟨rfl, hq1⟩ | ⟨rfl, hq1⟩
  · refine lv_if_ne hx hb dX4_piece_5 rfl (fun hc => ?_) (fun hc => absurd hc (by decide))
    refine lv_iconst (v := nI 1) hx hb dX4_piece_22 (by decide) ?_
    refine lv_goto hx hb dX4_piece_23 rfl ?_
    refine va_put (D := D) (ci := 4) (v := .int (nI 1)) (ty := .int) (C := RX4) (T := TX4) (N := 22) hx hb htg hi_X4 tyX4 tyX4_ok nmX4 hown hK hP hD hS 0 rfl rfl 0 (by decide) (htg _ hm_496) (fun _ h9 => h9) rfl (by decide +kernel) rfl rfl (Nat.le_of_ble_eq_true rfl) dX4_piece_41 (fun H locs hP hD hS => ?_)
    replace hP : va_P D vwCl [(y0, .inr (4, [.int (nI 1), .ref y1, .ref y2, .ref y3, .ref y4, .ref y5, .ref y6, .ref y7, .ref y8, .ref y9, .ref ya, .ref yb, .ref yc, .ref yd, .ref ye, .int md, .int o1, .int o2, .int mo, .ref yf, .ref yg, .ref yh])), (y3, .inl (cI, 2, .inl My)), (y4, .inl (cI, 10, .inl Fa)), (y5, .inl (cI, 10, .inl Ta)), (y6, .inl (cZ, 10, .inl La))] H := hP
    replace hD : va_D A [(y0, .inr (4, [.int (nI 1), .ref y1, .ref y2, .ref y3, .ref y4, .ref y5, .ref y6, .ref y7, .ref y8, .ref y9, .ref ya, .ref yb, .ref yc, .ref yd, .ref ye, .int md, .int o1, .int o2, .int mo, .ref yf, .ref yg, .ref yh])), (y3, .inl (cI, 2, .inl My)), (y4, .inl (cI, 10, .inl Fa)), (y5, .inl (cI, 10, .inl Ta)), (y6, .inl (cZ, 10, .inl La))] := hD
    refine lv_aload_n hx hb dX4_piece_44 rfl (lv_at hl 0 rfl) ?_
    refine va_get (D := D) (ci := 4) (v := .int (nI 1)) (C := RX4) (T := TX4) (N := 22) hx hb htg hi_X4 hown hK hP 0 rfl rfl 0 (by decide) (htg _ hm_496) (fun _ h9 => h9) rfl dX4_piece_45 ?_
    refine lv_if_le hx hb dX4_piece_48 rfl (fun hc => absurd hc (by decide)) (fun hc => ?_)
    refine lv_iconst (v := nI 0) hx hb dX4_piece_51 (by decide) ?_
    exact W.iret (v := nI 0) hx hb hr (fun t9 ht9 hW9 => ⟨⟨_, (nI 1, My, Fa, Ta, La), rfl, Or.inl ⟨fun h => hq1 h.1, rfl, rfl⟩, by show va_P D vwCl [(y0, .inr (4, [.int (nI 1), .ref y1, .ref y2, .ref y3, .ref y4, .ref y5, .ref y6, .ref y7, .ref y8, .ref y9, .ref ya, .ref yb, .ref yc, .ref yd, .ref ye, .int md, .int o1, .int o2, .int mo, .ref yf, .ref yg, .ref yh])), (y3, .inl (cI, 2, .inl My)), (y4, .inl (cI, 10, .inl Fa)), (y5, .inl (cI, 10, .inl Ta)), (y6, .inl (cZ, 10, .inl La))] t9.heap; rw [ht9]; exact hP⟩, hS.F ht9⟩) hS.2.2 dX4_piece_52
  · refine lv_if_ne hx hb dX4_piece_5 rfl (fun hc => absurd rfl hc) (fun hc => ?_)
    refine lv_iload_n hx hb dX4_piece_8 rfl (lv_at hl 2 rfl) ?_
    refine hw_csi (va_runS (As := [.int (nI a)]) (rest := [.ref y0]) ⟨hx, hb, hml, hown, htg⟩ (k_X4_noTerm l D cI cZ cJ a ha) (va_cwS 1 htg (hg_S hm_574 hm_575 hm_6 hm_576) rfl rfl rfl (by decide +kernel) ⟨Nat.le_of_ble_eq_true rfl, Nat.le_of_ble_eq_true rfl⟩) ⟨hp_R_blind, hp_R_pre (hP.sub (ws' := []) [] rfl) hz⟩ rfl rfl hl.1 rfl (lv_room (Nat.le_of_ble_eq_true rfl)) dX4_piece_9 ⟨Nat.zero_le _, Nat.zero_le _⟩) (fun r hq2 => ?_)
    rcases hq2 with ⟨rfl, hq2⟩ | ⟨rfl, hq2⟩
    · refine lv_if_ne hx hb dX4_piece_12 rfl (fun hc => ?_) (fun hc => absurd hc (by decide))
      refine lv_iconst (v := nI 1) hx hb dX4_piece_22 (by decide) ?_
      refine lv_goto hx hb dX4_piece_23 rfl ?_
      refine va_put (D := D) (ci := 4) (v := .int (nI 1)) (ty := .int) (C := RX4) (T := TX4) (N := 22) hx hb htg hi_X4 tyX4 tyX4_ok nmX4 hown hK hP hD hS 0 rfl rfl 0 (by decide) (htg _ hm_496) (fun _ h9 => h9) rfl (by decide +kernel) rfl rfl (Nat.le_of_ble_eq_true rfl) dX4_piece_41 (fun H locs hP hD hS => ?_)
      replace hP : va_P D vwCl [(y0, .inr (4, [.int (nI 1), .ref y1, .ref y2, .ref y3, .ref y4, .ref y5, .ref y6, .ref y7, .ref y8, .ref y9, .ref ya, .ref yb, .ref yc, .ref yd, .ref ye, .int md, .int o1, .int o2, .int mo, .ref yf, .ref yg, .ref yh])), (y3, .inl (cI, 2, .inl My)), (y4, .inl (cI, 10, .inl Fa)), (y5, .inl (cI, 10, .inl Ta)), (y6, .inl (cZ, 10, .inl La))] H := hP
      replace hD : va_D A [(y0, .inr (4, [.int (nI 1), .ref y1, .ref y2, .ref y3, .ref y4, .ref y5, .ref y6, .ref y7, .ref y8, .ref y9, .ref ya, .ref yb, .ref yc, .ref yd, .ref ye, .int md, .int o1, .int o2, .int mo, .ref yf, .ref yg, .ref yh])), (y3, .inl (cI, 2, .inl My)), (y4, .inl (cI, 10, .inl Fa)), (y5, .inl (cI, 10, .inl Ta)), (y6, .inl (cZ, 10, .inl La))] := hD
      refine lv_aload_n hx hb dX4_piece_44 rfl (lv_at hl 0 rfl) ?_
      refine va_get (D := D) (ci := 4) (v := .int (nI 1)) (C := RX4) (T := TX4) (N := 22) hx hb htg hi_X4 hown hK hP 0 rfl rfl 0 (by decide) (htg _ hm_496) (fun _ h9 => h9) rfl dX4_piece_45 ?_
      refine lv_if_le hx hb dX4_piece_48 rfl (fun hc => absurd hc (by decide)) (fun hc => ?_)
      refine lv_iconst (v := nI 0) hx hb dX4_piece_51 (by decide) ?_
      exact W.iret (v := nI 0) hx hb hr (fun t9 ht9 hW9 => ⟨⟨_, (nI 1, My, Fa, Ta, La), rfl, Or.inl ⟨fun h => hq2 h.2.1, rfl, rfl⟩, by show va_P D vwCl [(y0, .inr (4, [.int (nI 1), .ref y1, .ref y2, .ref y3, .ref y4, .ref y5, .ref y6, .ref y7, .ref y8, .ref y9, .ref ya, .ref yb, .ref yc, .ref yd, .ref ye, .int md, .int o1, .int o2, .int mo, .ref yf, .ref yg, .ref yh])), (y3, .inl (cI, 2, .inl My)), (y4, .inl (cI, 10, .inl Fa)), (y5, .inl (cI, 10, .inl Ta)), (y6, .inl (cZ, 10, .inl La))] t9.heap; rw [ht9]; exact hP⟩, hS.F ht9⟩) hS.2.2 dX4_piece_52
    · refine lv_if_ne hx hb dX4_piece_12 rfl (fun hc => absurd rfl hc) (fun hc => ?_)
      refine lv_iload_n hx hb dX4_piece_15 rfl (lv_at hl 3 rfl) ?_
      refine hw_csi (va_runS (As := [.int (nI b)]) (rest := [.ref y0]) ⟨hx, hb, hml, hown, htg⟩ (k_X4_noTerm l D cI cZ cJ b hb9) (va_cwS 1 htg (hg_S hm_574 hm_575 hm_6 hm_576) rfl rfl rfl (by decide +kernel) ⟨Nat.le_of_ble_eq_true rfl, Nat.le_of_ble_eq_true rfl⟩) ⟨hp_R_blind, hp_R_pre (hP.sub (ws' := []) [] rfl) hz⟩ rfl rfl hl.1 rfl (lv_room (Nat.le_of_ble_eq_true rfl)) dX4_piece_16 ⟨Nat.zero_le _, Nat.zero_le _⟩) (fun r hq3 => ?_)
      rcases hq3 with ⟨rfl, hq3⟩ | ⟨rfl, hq3⟩
      · refine lv_if_eq hx hb dX4_piece_19 rfl (fun hc => absurd hc (by decide)) (fun hc => ?_)
        refine lv_iconst (v := nI 1) hx hb dX4_piece_22 (by decide) ?_
        refine lv_goto hx hb dX4_piece_23 rfl ?_
        refine va_put (D := D) (ci := 4) (v := .int (nI 1)) (ty := .int) (C := RX4) (T := TX4) (N := 22) hx hb htg hi_X4 tyX4 tyX4_ok nmX4 hown hK hP hD hS 0 rfl rfl 0 (by decide) (htg _ hm_496) (fun _ h9 => h9) rfl (by decide +kernel) rfl rfl (Nat.le_of_ble_eq_true rfl) dX4_piece_41 (fun H locs hP hD hS => ?_)
        replace hP : va_P D vwCl [(y0, .inr (4, [.int (nI 1), .ref y1, .ref y2, .ref y3, .ref y4, .ref y5, .ref y6, .ref y7, .ref y8, .ref y9, .ref ya, .ref yb, .ref yc, .ref yd, .ref ye, .int md, .int o1, .int o2, .int mo, .ref yf, .ref yg, .ref yh])), (y3, .inl (cI, 2, .inl My)), (y4, .inl (cI, 10, .inl Fa)), (y5, .inl (cI, 10, .inl Ta)), (y6, .inl (cZ, 10, .inl La))] H := hP
        replace hD : va_D A [(y0, .inr (4, [.int (nI 1), .ref y1, .ref y2, .ref y3, .ref y4, .ref y5, .ref y6, .ref y7, .ref y8, .ref y9, .ref ya, .ref yb, .ref yc, .ref yd, .ref ye, .int md, .int o1, .int o2, .int mo, .ref yf, .ref yg, .ref yh])), (y3, .inl (cI, 2, .inl My)), (y4, .inl (cI, 10, .inl Fa)), (y5, .inl (cI, 10, .inl Ta)), (y6, .inl (cZ, 10, .inl La))] := hD
        refine lv_aload_n hx hb dX4_piece_44 rfl (lv_at hl 0 rfl) ?_
        refine va_get (D := D) (ci := 4) (v := .int (nI 1)) (C := RX4) (T := TX4) (N := 22) hx hb htg hi_X4 hown hK hP 0 rfl rfl 0 (by decide) (htg _ hm_496) (fun _ h9 => h9) rfl dX4_piece_45 ?_
        refine lv_if_le hx hb dX4_piece_48 rfl (fun hc => absurd hc (by decide)) (fun hc => ?_)
        refine lv_iconst (v := nI 0) hx hb dX4_piece_51 (by decide) ?_
        exact W.iret (v := nI 0) hx hb hr (fun t9 ht9 hW9 => ⟨⟨_, (nI 1, My, Fa, Ta, La), rfl, Or.inl ⟨fun h => hq3 h.2.2, rfl, rfl⟩, by show va_P D vwCl [(y0, .inr (4, [.int (nI 1), .ref y1, .ref y2, .ref y3, .ref y4, .ref y5, .ref y6, .ref y7, .ref y8, .ref y9, .ref ya, .ref yb, .ref yc, .ref yd, .ref ye, .int md, .int o1, .int o2, .int mo, .ref yf, .ref yg, .ref yh])), (y3, .inl (cI, 2, .inl My)), (y4, .inl (cI, 10, .inl Fa)), (y5, .inl (cI, 10, .inl Ta)), (y6, .inl (cZ, 10, .inl La))] t9.heap; rw [ht9]; exact hP⟩, hS.F ht9⟩) hS.2.2 dX4_piece_52
      · refine lv_if_eq hx hb dX4_piece_19 rfl (fun hc => ?_) (fun hc => absurd rfl hc)
        have hq1 := Classical.not_not.mp hq1
        have hq2 := Classical.not_not.mp hq2
        have hq3 := Classical.not_not.mp hq3
        have hm5 := (hM.2.1 cx hq1).2
        refine lv_aload_n hx hb dX4_piece_26 rfl (lv_at hl 0 rfl) ?_
        refine va_get (D := D) (ci := 4) (v := .ref y3) (C := RX4) (T := TX4) (N := 22) hx hb htg hi_X4 hown hK hP 0 rfl rfl 3 (by decide) (htg _ hm_499) (fun _ h9 => h9) rfl dX4_piece_27 ?_
        refine lv_iload_n hx hb dX4_piece_30 rfl (lv_at hl 1 rfl) ?_
        refine hw_iald hx hb hK hP 1 0 rfl rfl (j := cx) (by omega) (by first | decide | omega) (v := nI (MA cx)) ((hM.2.1 cx (by omega)).1) dX4_piece_31 ?_
        refine lv_iconst (v := nI 5) hx hb dX4_piece_32 (by decide) ?_
        refine hw_icmp_ne hx hb (by omega) (by omega) dX4_piece_33 rfl (fun hn5 => ?_) (fun hn5 => ?_)
        · refine lv_iconst (v := nI 0) hx hb dX4_piece_40 (by decide) ?_
          refine va_put (D := D) (ci := 4) (v := .int (nI 0)) (ty := .int) (C := RX4) (T := TX4) (N := 22) hx hb htg hi_X4 tyX4 tyX4_ok nmX4 hown hK hP hD hS 0 rfl rfl 0 (by decide) (htg _ hm_496) (fun _ h9 => h9) rfl (by decide +kernel) rfl rfl (Nat.le_of_ble_eq_true rfl) dX4_piece_41 (fun H locs hP hD hS => ?_)
          replace hP : va_P D vwCl [(y0, .inr (4, [.int (nI 0), .ref y1, .ref y2, .ref y3, .ref y4, .ref y5, .ref y6, .ref y7, .ref y8, .ref y9, .ref ya, .ref yb, .ref yc, .ref yd, .ref ye, .int md, .int o1, .int o2, .int mo, .ref yf, .ref yg, .ref yh])), (y3, .inl (cI, 2, .inl My)), (y4, .inl (cI, 10, .inl Fa)), (y5, .inl (cI, 10, .inl Ta)), (y6, .inl (cZ, 10, .inl La))] H := hP
          replace hD : va_D A [(y0, .inr (4, [.int (nI 0), .ref y1, .ref y2, .ref y3, .ref y4, .ref y5, .ref y6, .ref y7, .ref y8, .ref y9, .ref ya, .ref yb, .ref yc, .ref yd, .ref ye, .int md, .int o1, .int o2, .int mo, .ref yf, .ref yg, .ref yh])), (y3, .inl (cI, 2, .inl My)), (y4, .inl (cI, 10, .inl Fa)), (y5, .inl (cI, 10, .inl Ta)), (y6, .inl (cZ, 10, .inl La))] := hD
          refine lv_aload_n hx hb dX4_piece_44 rfl (lv_at hl 0 rfl) ?_
          refine va_get (D := D) (ci := 4) (v := .int (nI 0)) (C := RX4) (T := TX4) (N := 22) hx hb htg hi_X4 hown hK hP 0 rfl rfl 0 (by decide) (htg _ hm_496) (fun _ h9 => h9) rfl dX4_piece_45 ?_
          refine lv_if_le hx hb dX4_piece_48 rfl (fun hc => ?_) (fun hc => absurd (by decide) hc)
          refine lv_iconst (v := nI 5) hx hb dX4_piece_53 (by decide) ?_
          refine lv_iload_n hx hb dX4_piece_54 rfl (lv_at hl 1 rfl) ?_
          refine hw_imul hx hb dX4_piece_55 ?_
          refine lv_aload_n hx hb dX4_piece_56 rfl (lv_at hl 0 rfl) ?_
          refine va_get (D := D) (ci := 4) (v := .ref y3) (C := RX4) (T := TX4) (N := 22) hx hb htg hi_X4 hown hK hP 0 rfl rfl 3 (by decide) (htg _ hm_499) (fun _ h9 => h9) rfl dX4_piece_57 ?_
          refine lv_iload_n hx hb dX4_piece_60 rfl (lv_at hl 1 rfl) ?_
          refine hw_iald hx hb hK hP 1 0 rfl rfl (j := cx) (by omega) (by first | decide | omega) (v := nI (MA cx)) ((hM.2.1 cx (by omega)).1) dX4_piece_61 ?_
          refine hw_iadd hx hb dX4_piece_62 ?_
          refine lv_istore hx hb dX4_piece_63 hl (by decide) rfl (fun ls hl => ?_)
          replace hl : lv_has ls 6 [(5, .int (nI (5 * cx + MA cx))), (0, .ref y0), (1, .int (nI cx)), (2, .int (nI a)), (3, .int (nI b)), (4, .int (hc_b ob9))] := hl
          refine lv_aload_n hx hb dX4_piece_65 rfl (lv_at hl 1 rfl) ?_
          refine va_get (D := D) (ci := 4) (v := .ref y4) (C := RX4) (T := TX4) (N := 22) hx hb htg hi_X4 hown hK hP 0 rfl rfl 4 (by decide) (htg _ hm_500) (fun _ h9 => h9) rfl dX4_piece_66 ?_
          refine lv_iload hx hb dX4_piece_69 (lv_at hl 0 rfl) ?_
          refine lv_iload_n hx hb dX4_piece_71 rfl (lv_at hl 3 rfl) ?_
          refine hw_iast hx hb hK hP hD hS 2 0 rfl rfl (j := (5 * cx + MA cx)) (by omega) (by first | decide | omega) dX4_piece_72 (fun H locs hP hD hS => ?_)
          replace hP : va_P D vwCl [(y0, .inr (4, [.int (nI 0), .ref y1, .ref y2, .ref y3, .ref y4, .ref y5, .ref y6, .ref y7, .ref y8, .ref y9, .ref ya, .ref yb, .ref yc, .ref yd, .ref ye, .int md, .int o1, .int o2, .int mo, .ref yf, .ref yg, .ref yh])), (y3, .inl (cI, 2, .inl My)), (y4, .inl (cI, 10, .inl (upd Fa (5 * cx + MA cx) (nI a)))), (y5, .inl (cI, 10, .inl Ta)), (y6, .inl (cZ, 10, .inl La))] H := hP
          replace hD : va_D A [(y0, .inr (4, [.int (nI 0), .ref y1, .ref y2, .ref y3, .ref y4, .ref y5, .ref y6, .ref y7, .ref y8, .ref y9, .ref ya, .ref yb, .ref yc, .ref yd, .ref ye, .int md, .int o1, .int o2, .int mo, .ref yf, .ref yg, .ref yh])), (y3, .inl (cI, 2, .inl My)), (y4, .inl (cI, 10, .inl (upd Fa (5 * cx + MA cx) (nI a)))), (y5, .inl (cI, 10, .inl Ta)), (y6, .inl (cZ, 10, .inl La))] := hD
          refine lv_aload_n hx hb dX4_piece_73 rfl (lv_at hl 1 rfl) ?_
          refine va_get (D := D) (ci := 4) (v := .ref y5) (C := RX4) (T := TX4) (N := 22) hx hb htg hi_X4 hown hK hP 0 rfl rfl 5 (by decide) (htg _ hm_501) (fun _ h9 => h9) rfl dX4_piece_74 ?_
          refine lv_iload hx hb dX4_piece_77 (lv_at hl 0 rfl) ?_
          refine lv_iload_n hx hb dX4_piece_79 rfl (lv_at hl 4 rfl) ?_
          refine hw_iast hx hb hK hP hD hS 3 0 rfl rfl (j := (5 * cx + MA cx)) (by omega) (by first | decide | omega) dX4_piece_80 (fun H locs hP hD hS => ?_)
          replace hP : va_P D vwCl [(y0, .inr (4, [.int (nI 0), .ref y1, .ref y2, .ref y3, .ref y4, .ref y5, .ref y6, .ref y7, .ref y8, .ref y9, .ref ya, .ref yb, .ref yc, .ref yd, .ref ye, .int md, .int o1, .int o2, .int mo, .ref yf, .ref yg, .ref yh])), (y3, .inl (cI, 2, .inl My)), (y4, .inl (cI, 10, .inl (upd Fa (5 * cx + MA cx) (nI a)))), (y5, .inl (cI, 10, .inl (upd Ta (5 * cx + MA cx) (nI b)))), (y6, .inl (cZ, 10, .inl La))] H := hP
          replace hD : va_D A [(y0, .inr (4, [.int (nI 0), .ref y1, .ref y2, .ref y3, .ref y4, .ref y5, .ref y6, .ref y7, .ref y8, .ref y9, .ref ya, .ref yb, .ref yc, .ref yd, .ref ye, .int md, .int o1, .int o2, .int mo, .ref yf, .ref yg, .ref yh])), (y3, .inl (cI, 2, .inl My)), (y4, .inl (cI, 10, .inl (upd Fa (5 * cx + MA cx) (nI a)))), (y5, .inl (cI, 10, .inl (upd Ta (5 * cx + MA cx) (nI b)))), (y6, .inl (cZ, 10, .inl La))] := hD
          refine lv_aload_n hx hb dX4_piece_81 rfl (lv_at hl 1 rfl) ?_
          refine va_get (D := D) (ci := 4) (v := .ref y6) (C := RX4) (T := TX4) (N := 22) hx hb htg hi_X4 hown hK hP 0 rfl rfl 6 (by decide) (htg _ hm_502) (fun _ h9 => h9) rfl dX4_piece_82 ?_
          refine lv_iload hx hb dX4_piece_85 (lv_at hl 0 rfl) ?_
          refine lv_iload hx hb dX4_piece_87 (lv_at hl 5 rfl) ?_
          refine hw_zast hx hb hK hP hD hS 4 1 rfl rfl (j := (5 * cx + MA cx)) (by omega) (by first | decide | omega) dX4_piece_89 (fun H locs hP hD hS => ?_)
          rw [hw_narb] at hP hD
          replace hP : va_P D vwCl [(y0, .inr (4, [.int (nI 0), .ref y1, .ref y2, .ref y3, .ref y4, .ref y5, .ref y6, .ref y7, .ref y8, .ref y9, .ref ya, .ref yb, .ref yc, .ref yd, .ref ye, .int md, .int o1, .int o2, .int mo, .ref yf, .ref yg, .ref yh])), (y3, .inl (cI, 2, .inl My)), (y4, .inl (cI, 10, .inl (upd Fa (5 * cx + MA cx) (nI a)))), (y5, .inl (cI, 10, .inl (upd Ta (5 * cx + MA cx) (nI b)))), (y6, .inl (cZ, 10, .inl (upd La (5 * cx + MA cx) (hc_b ob9))))] H := hP
          replace hD : va_D A [(y0, .inr (4, [.int (nI 0), .ref y1, .ref y2, .ref y3, .ref y4, .ref y5, .ref y6, .ref y7, .ref y8, .ref y9, .ref ya, .ref yb, .ref yc, .ref yd, .ref ye, .int md, .int o1, .int o2, .int mo, .ref yf, .ref yg, .ref yh])), (y3, .inl (cI, 2, .inl My)), (y4, .inl (cI, 10, .inl (upd Fa (5 * cx + MA cx) (nI a)))), (y5, .inl (cI, 10, .inl (upd Ta (5 * cx + MA cx) (nI b)))), (y6, .inl (cZ, 10, .inl (upd La (5 * cx + MA cx) (hc_b ob9))))] := hD
          refine lv_aload_n hx hb dX4_piece_90 rfl (lv_at hl 1 rfl) ?_
          refine va_get (D := D) (ci := 4) (v := .ref y3) (C := RX4) (T := TX4) (N := 22) hx hb htg hi_X4 hown hK hP 0 rfl rfl 3 (by decide) (htg _ hm_499) (fun _ h9 => h9) rfl dX4_piece_91 ?_
          refine lv_iload_n hx hb dX4_piece_94 rfl (lv_at hl 2 rfl) ?_
          refine lv_dup2_11 hx hb dX4_piece_95 rfl rfl ?_
          refine hw_iald hx hb hK hP 1 0 rfl rfl (j := cx) (by omega) (by first | decide | omega) (v := nI (MA cx)) ((hM.2.1 cx (by omega)).1) dX4_piece_96 ?_
          refine lv_iconst (v := nI 1) hx hb dX4_piece_97 (by decide) ?_
          refine hw_iadd hx hb dX4_piece_98 ?_
          refine hw_iast hx hb hK hP hD hS 1 0 rfl rfl (j := cx) (by omega) (by first | decide | omega) dX4_piece_99 (fun H locs hP hD hS => ?_)
          replace hP : va_P D vwCl [(y0, .inr (4, [.int (nI 0), .ref y1, .ref y2, .ref y3, .ref y4, .ref y5, .ref y6, .ref y7, .ref y8, .ref y9, .ref ya, .ref yb, .ref yc, .ref yd, .ref ye, .int md, .int o1, .int o2, .int mo, .ref yf, .ref yg, .ref yh])), (y3, .inl (cI, 2, .inl (upd My cx (nI (MA cx + 1))))), (y4, .inl (cI, 10, .inl (upd Fa (5 * cx + MA cx) (nI a)))), (y5, .inl (cI, 10, .inl (upd Ta (5 * cx + MA cx) (nI b)))), (y6, .inl (cZ, 10, .inl (upd La (5 * cx + MA cx) (hc_b ob9))))] H := hP
          replace hD : va_D A [(y0, .inr (4, [.int (nI 0), .ref y1, .ref y2, .ref y3, .ref y4, .ref y5, .ref y6, .ref y7, .ref y8, .ref y9, .ref ya, .ref yb, .ref yc, .ref yd, .ref ye, .int md, .int o1, .int o2, .int mo, .ref yf, .ref yg, .ref yh])), (y3, .inl (cI, 2, .inl (upd My cx (nI (MA cx + 1))))), (y4, .inl (cI, 10, .inl (upd Fa (5 * cx + MA cx) (nI a)))), (y5, .inl (cI, 10, .inl (upd Ta (5 * cx + MA cx) (nI b)))), (y6, .inl (cZ, 10, .inl (upd La (5 * cx + MA cx) (hc_b ob9))))] := hD
          refine lv_aload_n hx hb dX4_piece_100 rfl (lv_at hl 1 rfl) ?_
          refine va_get (D := D) (ci := 4) (v := .ref y3) (C := RX4) (T := TX4) (N := 22) hx hb htg hi_X4 hown hK hP 0 rfl rfl 3 (by decide) (htg _ hm_499) (fun _ h9 => h9) rfl dX4_piece_101 ?_
          refine lv_iload_n hx hb dX4_piece_104 rfl (lv_at hl 2 rfl) ?_
          refine hw_iald hx hb hK hP 1 0 rfl rfl (j := cx) (by omega) (by first | decide | omega) (v := nI (MA cx + 1)) (hy_up_s _ _ _) dX4_piece_105 ?_
          refine lv_iconst (v := nI 1) hx hb dX4_piece_106 (by decide) ?_
          refine hw_isub hx hb (by omega) dX4_piece_107 ?_
          exact W.iret (v := nI (MA cx + 1 - 1)) hx hb hr (fun t9 ht9 hW9 => ⟨⟨_, (nI 0, upd My cx (nI (MA cx + 1)), upd Fa (5 * cx + MA cx) (nI a), upd Ta (5 * cx + MA cx) (nI b), upd La (5 * cx + MA cx) (hc_b ob9)), rfl, Or.inr (Or.inr ⟨⟨hq1, hq2, hq3⟩, by omega, rfl, rfl⟩), by show va_P D vwCl [(y0, .inr (4, [.int (nI 0), .ref y1, .ref y2, .ref y3, .ref y4, .ref y5, .ref y6, .ref y7, .ref y8, .ref y9, .ref ya, .ref yb, .ref yc, .ref yd, .ref ye, .int md, .int o1, .int o2, .int mo, .ref yf, .ref yg, .ref yh])), (y3, .inl (cI, 2, .inl (upd My cx (nI (MA cx + 1))))), (y4, .inl (cI, 10, .inl (upd Fa (5 * cx + MA cx) (nI a)))), (y5, .inl (cI, 10, .inl (upd Ta (5 * cx + MA cx) (nI b)))), (y6, .inl (cZ, 10, .inl (upd La (5 * cx + MA cx) (hc_b ob9))))] t9.heap; rw [ht9]; exact hP⟩, hS.F ht9⟩) hS.2.2 dX4_piece_108
        · refine lv_iconst (v := nI 2) hx hb dX4_piece_36 (by decide) ?_
          refine lv_goto hx hb dX4_piece_37 rfl ?_
          refine va_put (D := D) (ci := 4) (v := .int (nI 2)) (ty := .int) (C := RX4) (T := TX4) (N := 22) hx hb htg hi_X4 tyX4 tyX4_ok nmX4 hown hK hP hD hS 0 rfl rfl 0 (by decide) (htg _ hm_496) (fun _ h9 => h9) rfl (by decide +kernel) rfl rfl (Nat.le_of_ble_eq_true rfl) dX4_piece_41 (fun H locs hP hD hS => ?_)
          replace hP : va_P D vwCl [(y0, .inr (4, [.int (nI 2), .ref y1, .ref y2, .ref y3, .ref y4, .ref y5, .ref y6, .ref y7, .ref y8, .ref y9, .ref ya, .ref yb, .ref yc, .ref yd, .ref ye, .int md, .int o1, .int o2, .int mo, .ref yf, .ref yg, .ref yh])), (y3, .inl (cI, 2, .inl My)), (y4, .inl (cI, 10, .inl Fa)), (y5, .inl (cI, 10, .inl Ta)), (y6, .inl (cZ, 10, .inl La))] H := hP
          replace hD : va_D A [(y0, .inr (4, [.int (nI 2), .ref y1, .ref y2, .ref y3, .ref y4, .ref y5, .ref y6, .ref y7, .ref y8, .ref y9, .ref ya, .ref yb, .ref yc, .ref yd, .ref ye, .int md, .int o1, .int o2, .int mo, .ref yf, .ref yg, .ref yh])), (y3, .inl (cI, 2, .inl My)), (y4, .inl (cI, 10, .inl Fa)), (y5, .inl (cI, 10, .inl Ta)), (y6, .inl (cZ, 10, .inl La))] := hD
          refine lv_aload_n hx hb dX4_piece_44 rfl (lv_at hl 0 rfl) ?_
          refine va_get (D := D) (ci := 4) (v := .int (nI 2)) (C := RX4) (T := TX4) (N := 22) hx hb htg hi_X4 hown hK hP 0 rfl rfl 0 (by decide) (htg _ hm_496) (fun _ h9 => h9) rfl dX4_piece_45 ?_
          refine lv_if_le hx hb dX4_piece_48 rfl (fun hc => absurd hc (by decide)) (fun hc => ?_)
          refine lv_iconst (v := nI 0) hx hb dX4_piece_51 (by decide) ?_
          exact W.iret (v := nI 0) hx hb hr (fun t9 ht9 hW9 => ⟨⟨_, (nI 2, My, Fa, Ta, La), rfl, Or.inr (Or.inl ⟨⟨hq1, hq2, hq3⟩, hn5, rfl, rfl⟩), by show va_P D vwCl [(y0, .inr (4, [.int (nI 2), .ref y1, .ref y2, .ref y3, .ref y4, .ref y5, .ref y6, .ref y7, .ref y8, .ref y9, .ref ya, .ref yb, .ref yc, .ref yd, .ref ye, .int md, .int o1, .int o2, .int mo, .ref yf, .ref yg, .ref yh])), (y3, .inl (cI, 2, .inl My)), (y4, .inl (cI, 10, .inl Fa)), (y5, .inl (cI, 10, .inl Ta)), (y6, .inl (cZ, 10, .inl La))] t9.heap; rw [ht9]; exact hP⟩, hS.F ht9⟩) hS.2.2 dX4_piece_52

set_option maxHeartbeats 4000000 in
set_option maxRecDepth 100000 in
/-- clear -/
theorem k_X4_clear (l : Launch) (D : va_G) (cI cZ cJ : ClassId) (sz : Nat) (My Sa Oa : Nat → Int32) (cx : Nat) (cd md o1 o2 mo : Int32) (y0 y1 y2 y3 y4 y5 y6 y7 y8 y9 ya yb yc yd ye yf yg yh : Nat) (hcx : cx < 2 ^ 32) : Met l yX4_clear (Cond.code yX4_clear cX4_clear 3 none :: hwG) { frames := 1, cells := 0, slots := 0, locals := 20 } (hp_M [.ref y0, .int (nI cx)] D cI cZ cJ [(y0, .inr (4, [.int cd, .ref y1, .ref y2, .ref y3, .ref y4, .ref y5, .ref y6, .ref y7, .ref y8, .ref y9, .ref ya, .ref yb, .ref yc, .ref yd, .ref ye, .int md, .int o1, .int o2, .int mo, .ref yf, .ref yg, .ref yh])), (y3, .inl (cI, 2, .inl My)), (y1, .inl (cZ, 72, .inl Sa)), (y2, .inl (cZ, 72, .inl Oa))] sz) (va_Qv (S := Int32 × (Nat → Int32) × (Nat → Int32) × (Nat → Int32)) (fun u => (¬ cx < 2 ∧ u = (nI 1, My, Sa, Oa)) ∨ (cx < 2 ∧ u.1 = nI 0 ∧ u.2.1 = upd My cx (nI 0) ∧ ∀ k, (u.2.2.1 k = if 36 * cx ≤ k ∧ k < 36 * cx + 36 then hc_b false else Sa k) ∧ (u.2.2.2 k = if 36 * cx ≤ k ∧ k < 36 * cx + 36 then hc_b false else Oa k))) (fun u t => va_P D vwCl ([(y0, .inr (4, [.int u.1, .ref y1, .ref y2, .ref y3, .ref y4, .ref y5, .ref y6, .ref y7, .ref y8, .ref y9, .ref ya, .ref yb, .ref yc, .ref yd, .ref ye, .int md, .int o1, .int o2, .int mo, .ref yf, .ref yg, .ref yh])), (y3, .inl (cI, 2, .inl u.2.1)), (y1, .inl (cZ, 72, .inl u.2.2.1)), (y2, .inl (cZ, 72, .inl u.2.2.2))]) t.heap) (va_A [(y0, .inr (4, [.int cd, .ref y1, .ref y2, .ref y3, .ref y4, .ref y5, .ref y6, .ref y7, .ref y8, .ref y9, .ref ya, .ref yb, .ref yc, .ref yd, .ref ye, .int md, .int o1, .int o2, .int mo, .ref yf, .ref yg, .ref yh])), (y3, .inl (cI, 2, .inl My)), (y1, .inl (cZ, 72, .inl Sa)), (y2, .inl (cZ, 72, .inl Oa))] sz)) 0 0 (va_A [(y0, .inr (4, [.int cd, .ref y1, .ref y2, .ref y3, .ref y4, .ref y5, .ref y6, .ref y7, .ref y8, .ref y9, .ref ya, .ref yb, .ref yc, .ref yd, .ref ye, .int md, .int o1, .int o2, .int mo, .ref yf, .ref yg, .ref yh])), (y3, .inl (cI, 2, .inl My)), (y1, .inl (cZ, 72, .inl Sa)), (y2, .inl (cZ, 72, .inl Oa))] sz) := by
  refine Met.ofW (cc := cX4_clear) (maxL := 3) (ret := none) (by decide) rfl ?_
  intro p e s m args below meth c s₁ B hml hv
  obtain ⟨rfl, hsz, hP, hz, hD0⟩ := hv
  have hx := B.exec
  have hb := B.bytes
  have hr := B.returns
  have hts := atoms_spec (ws := (Cond.code yX4_clear cX4_clear 3 none :: hwG)) B.pre
  have htg := fun w h => hts w (List.mem_cons_of_mem _ h)
  have hown : s.vm.findClass RX4 = some m.cls := findClass_of_methodNamed B.named
  have hlocks := B.notSynchronized
  have hK := hz.1
  subst hsz
  have hD := hD0.self (sz := s.heap.size)
  generalize hAe : va_A [(y0, .inr (4, [.int cd, .ref y1, .ref y2, .ref y3, .ref y4, .ref y5, .ref y6, .ref y7, .ref y8, .ref y9, .ref ya, .ref yb, .ref yc, .ref yd, .ref ye, .int md, .int o1, .int o2, .int mo, .ref yf, .ref yg, .ref yh])), (y3, .inl (cI, 2, .inl My)), (y1, .inl (cZ, 72, .inl Sa)), (y2, .inl (cZ, 72, .inl Oa))] s.heap.size = A at hD ⊢
  have hA : ∀ q : Nat, s.heap.size ≤ q → A q := fun q h => by rw [← hAe]; exact Or.inr h
  have hS : va_S A s.heap s.heap [] := va_S.rf
  have hl := lv_entry ([.ref y0, .int (nI cx)]) (n := 3) (Nat.le_of_ble_eq_true rfl)
  rw [lg_entry_eq]
  generalize (lg_sl ([.ref y0, .int (nI cx)]) ++ List.replicate (3 - (lg_sl ([.ref y0, .int (nI cx)])).length) Slot.unset).toArray = ls at hl ⊢
  replace hl : lv_has ls 3 [(0, .ref y0), (1, .int (nI cx))] := hl
  replace hP : va_P D vwCl [(y0, .inr (4, [.int cd, .ref y1, .ref y2, .ref y3, .ref y4, .ref y5, .ref y6, .ref y7, .ref y8, .ref y9, .ref ya, .ref yb, .ref yc, .ref yd, .ref ye, .int md, .int o1, .int o2, .int mo, .ref yf, .ref yg, .ref yh])), (y3, .inl (cI, 2, .inl My)), (y1, .inl (cZ, 72, .inl Sa)), (y2, .inl (cZ, 72, .inl Oa))] s.heap := hP
  refine lv_aload_n hx hb dX4_clear_0 rfl (lv_at hl 0 rfl) ?_
  refine lv_iload_n hx hb dX4_clear_1 rfl (lv_at hl 1 rfl) ?_
  refine hw_csi (va_runS (As := [.int (nI cx)]) (rest := [.ref y0]) ⟨hx, hb, hml, hown, htg⟩ (k_X4_noClaim l D cI cZ cJ cx hcx) (va_cwS 1 htg (hg_S hm_571 hm_572 hm_6 hm_573) rfl rfl rfl (by decide +kernel) ⟨Nat.le_of_ble_eq_true rfl, Nat.le_of_ble_eq_true rfl⟩) ⟨hp_R_blind, hp_R_pre (hP.sub (ws' := []) [] rfl) hz⟩ rfl rfl hl.1 rfl (lv_room (Nat.le_of_ble_eq_true rfl)) dX4_clear_2 ⟨Nat.zero_le _, Nat.zero_le _⟩) (fun r hq1 => ?_)
  rcases hq1 with ⟨rfl, hq1⟩ | ⟨rfl, hq1⟩
  · refine lv_if_eq hx hb dX4_clear_5 rfl (fun hc => absurd hc (by decide)) (fun hc => ?_)
    refine lv_iconst (v := nI 1) hx hb dX4_clear_8 (by decide) ?_
    refine lv_goto hx hb dX4_clear_9 rfl ?_
    refine va_put (D := D) (ci := 4) (v := .int (nI 1)) (ty := .int) (C := RX4) (T := TX4) (N := 22) hx hb htg hi_X4 tyX4 tyX4_ok nmX4 hown hK hP hD hS 0 rfl rfl 0 (by decide) (htg _ hm_496) (fun _ h9 => h9) rfl (by decide +kernel) rfl rfl (Nat.le_of_ble_eq_true rfl) dX4_clear_13 (fun H locs hP hD hS => ?_)
    replace hP : va_P D vwCl [(y0, .inr (4, [.int (nI 1), .ref y1, .ref y2, .ref y3, .ref y4, .ref y5, .ref y6, .ref y7, .ref y8, .ref y9, .ref ya, .ref yb, .ref yc, .ref yd, .ref ye, .int md, .int o1, .int o2, .int mo, .ref yf, .ref yg, .ref yh])), (y3, .inl (cI, 2, .inl My)), (y1, .inl (cZ, 72, .inl Sa)), (y2, .inl (cZ, 72, .inl Oa))] H := hP
    replace hD : va_D A [(y0, .inr (4, [.int (nI 1), .ref y1, .ref y2, .ref y3, .ref y4, .ref y5, .ref y6, .ref y7, .ref y8, .ref y9, .ref ya, .ref yb, .ref yc, .ref yd, .ref ye, .int md, .int o1, .int o2, .int mo, .ref yf, .ref yg, .ref yh])), (y3, .inl (cI, 2, .inl My)), (y1, .inl (cZ, 72, .inl Sa)), (y2, .inl (cZ, 72, .inl Oa))] := hD
    refine lv_aload_n hx hb dX4_clear_16 rfl (lv_at hl 0 rfl) ?_
    refine va_get (D := D) (ci := 4) (v := .int (nI 1)) (C := RX4) (T := TX4) (N := 22) hx hb htg hi_X4 hown hK hP 0 rfl rfl 0 (by decide) (htg _ hm_496) (fun _ h9 => h9) rfl dX4_clear_17 ?_
    refine lv_if_le hx hb dX4_clear_20 rfl (fun hc => absurd hc (by decide)) (fun hc => ?_)
    exact W.vret hx hb hr (fun t9 ht9 hW9 => ⟨⟨(nI 1, My, Sa, Oa), rfl, Or.inl ⟨hq1, rfl⟩, by show va_P D vwCl [(y0, .inr (4, [.int (nI 1), .ref y1, .ref y2, .ref y3, .ref y4, .ref y5, .ref y6, .ref y7, .ref y8, .ref y9, .ref ya, .ref yb, .ref yc, .ref yd, .ref ye, .int md, .int o1, .int o2, .int mo, .ref yf, .ref yg, .ref yh])), (y3, .inl (cI, 2, .inl My)), (y1, .inl (cZ, 72, .inl Sa)), (y2, .inl (cZ, 72, .inl Oa))] t9.heap; rw [ht9]; exact hP⟩, hS.F ht9⟩) hS.2.2 dX4_clear_23
  · refine lv_if_eq hx hb dX4_clear_5 rfl (fun hc => ?_) (fun hc => absurd rfl hc)
    have hq1 := Classical.not_not.mp hq1
    refine lv_iconst (v := nI 0) hx hb dX4_clear_12 (by decide) ?_
    refine va_put (D := D) (ci := 4) (v := .int (nI 0)) (ty := .int) (C := RX4) (T := TX4) (N := 22) hx hb htg hi_X4 tyX4 tyX4_ok nmX4 hown hK hP hD hS 0 rfl rfl 0 (by decide) (htg _ hm_496) (fun _ h9 => h9) rfl (by decide +kernel) rfl rfl (Nat.le_of_ble_eq_true rfl) dX4_clear_13 (fun H locs hP hD hS => ?_)
    replace hP : va_P D vwCl [(y0, .inr (4, [.int (nI 0), .ref y1, .ref y2, .ref y3, .ref y4, .ref y5, .ref y6, .ref y7, .ref y8, .ref y9, .ref ya, .ref yb, .ref yc, .ref yd, .ref ye, .int md, .int o1, .int o2, .int mo, .ref yf, .ref yg, .ref yh])), (y3, .inl (cI, 2, .inl My)), (y1, .inl (cZ, 72, .inl Sa)), (y2, .inl (cZ, 72, .inl Oa))] H := hP
    replace hD : va_D A [(y0, .inr (4, [.int (nI 0), .ref y1, .ref y2, .ref y3, .ref y4, .ref y5, .ref y6, .ref y7, .ref y8, .ref y9, .ref ya, .ref yb, .ref yc, .ref yd, .ref ye, .int md, .int o1, .int o2, .int mo, .ref yf, .ref yg, .ref yh])), (y3, .inl (cI, 2, .inl My)), (y1, .inl (cZ, 72, .inl Sa)), (y2, .inl (cZ, 72, .inl Oa))] := hD
    refine lv_aload_n hx hb dX4_clear_16 rfl (lv_at hl 0 rfl) ?_
    refine va_get (D := D) (ci := 4) (v := .int (nI 0)) (C := RX4) (T := TX4) (N := 22) hx hb htg hi_X4 hown hK hP 0 rfl rfl 0 (by decide) (htg _ hm_496) (fun _ h9 => h9) rfl dX4_clear_17 ?_
    refine lv_if_le hx hb dX4_clear_20 rfl (fun hc => ?_) (fun hc => absurd (by decide) hc)
    refine lv_aload_n hx hb dX4_clear_24 rfl (lv_at hl 0 rfl) ?_
    refine va_get (D := D) (ci := 4) (v := .ref y3) (C := RX4) (T := TX4) (N := 22) hx hb htg hi_X4 hown hK hP 0 rfl rfl 3 (by decide) (htg _ hm_499) (fun _ h9 => h9) rfl dX4_clear_25 ?_
    refine lv_iload_n hx hb dX4_clear_28 rfl (lv_at hl 1 rfl) ?_
    refine lv_iconst (v := nI 0) hx hb dX4_clear_29 (by decide) ?_
    refine hw_iast hx hb hK hP hD hS 1 0 rfl rfl (j := cx) (by omega) (by first | decide | omega) dX4_clear_30 (fun H locs hP hD hS => ?_)
    replace hP : va_P D vwCl [(y0, .inr (4, [.int (nI 0), .ref y1, .ref y2, .ref y3, .ref y4, .ref y5, .ref y6, .ref y7, .ref y8, .ref y9, .ref ya, .ref yb, .ref yc, .ref yd, .ref ye, .int md, .int o1, .int o2, .int mo, .ref yf, .ref yg, .ref yh])), (y3, .inl (cI, 2, .inl (upd My cx (nI 0)))), (y1, .inl (cZ, 72, .inl Sa)), (y2, .inl (cZ, 72, .inl Oa))] H := hP
    replace hD : va_D A [(y0, .inr (4, [.int (nI 0), .ref y1, .ref y2, .ref y3, .ref y4, .ref y5, .ref y6, .ref y7, .ref y8, .ref y9, .ref ya, .ref yb, .ref yc, .ref yd, .ref ye, .int md, .int o1, .int o2, .int mo, .ref yf, .ref yg, .ref yh])), (y3, .inl (cI, 2, .inl (upd My cx (nI 0)))), (y1, .inl (cZ, 72, .inl Sa)), (y2, .inl (cZ, 72, .inl Oa))] := hD
    refine lv_bipush (v := nI 36) hx hb dX4_clear_31 (by decide) ?_
    refine lv_iload_n hx hb dX4_clear_33 rfl (lv_at hl 1 rfl) ?_
    refine hw_imul hx hb dX4_clear_34 ?_
    refine lv_istore_n hx hb dX4_clear_35 rfl hl (by decide) rfl (fun ls hl => ?_)
    replace hl : lv_has ls 3 [(2, .int (nI (36 * cx))), (0, .ref y0), (1, .int (nI cx))] := hl
    obtain ⟨t, e_t⟩ : ∃ z : Nat, z = 0 := ⟨_, rfl⟩
    obtain ⟨S1, e_S1⟩ : ∃ z : Nat → Int32, z = Sa := ⟨_, rfl⟩
    obtain ⟨O1, e_O1⟩ : ∃ z : Nat → Int32, z = Oa := ⟨_, rfl⟩
    replace hl : lv_has ls 3 [(2, .int (nI (36 * cx + t))), (0, .ref y0), (1, .int (nI cx))] := by subst e_t e_S1 e_O1; exact hl
    replace hP : va_P D vwCl [(y0, .inr (4, [.int (nI 0), .ref y1, .ref y2, .ref y3, .ref y4, .ref y5, .ref y6, .ref y7, .ref y8, .ref y9, .ref ya, .ref yb, .ref yc, .ref yd, .ref ye, .int md, .int o1, .int o2, .int mo, .ref yf, .ref yg, .ref yh])), (y3, .inl (cI, 2, .inl (upd My cx (nI 0)))), (y1, .inl (cZ, 72, .inl S1)), (y2, .inl (cZ, 72, .inl O1))] H := by subst e_t e_S1 e_O1; exact hP
    replace hD : va_D A [(y0, .inr (4, [.int (nI 0), .ref y1, .ref y2, .ref y3, .ref y4, .ref y5, .ref y6, .ref y7, .ref y8, .ref y9, .ref ya, .ref yb, .ref yc, .ref yd, .ref ye, .int md, .int o1, .int o2, .int mo, .ref yf, .ref yg, .ref yh])), (y3, .inl (cI, 2, .inl (upd My cx (nI 0)))), (y1, .inl (cZ, 72, .inl S1)), (y2, .inl (cZ, 72, .inl O1))] := by subst e_t e_S1 e_O1; exact hD
    have hI : ∀ k, (S1 k = if 36 * cx ≤ k ∧ k < 36 * cx + t then hc_b false else Sa k) ∧ (O1 k = if 36 * cx ≤ k ∧ k < 36 * cx + t then hc_b false else Oa k) := by subst e_t e_S1 e_O1; (intro k; rw [if_neg (by omega), if_neg (by omega)]; exact ⟨rfl, rfl⟩)
    have ht : t ≤ 36 := by subst e_t e_S1 e_O1; omega
    clear e_t e_S1 e_O1
    obtain ⟨k, hk⟩ : ∃ k : Nat, k = 36 - t := ⟨_, rfl⟩
    induction k generalizing t S1 O1 ls H locs  with
    | zero =>
      refine lv_iload_n hx hb dX4_clear_36 rfl (lv_at hl 0 rfl) ?_
      refine lv_bipush (v := nI 36) hx hb dX4_clear_37 (by decide) ?_
      refine lv_iload_n hx hb dX4_clear_39 rfl (lv_at hl 2 rfl) ?_
      refine hw_imul hx hb dX4_clear_40 ?_
      refine lv_bipush (v := nI 36) hx hb dX4_clear_41 (by decide) ?_
      refine hw_iadd hx hb dX4_clear_43 ?_
      refine hw_icmp_ge hx hb (by omega) (by omega) dX4_clear_44 rfl (fun hc => ?_) (fun hc => absurd hc (by omega))
      have htt : t = 36 := by omega
      rw [htt] at hI
      exact W.vret hx hb hr (fun t9 ht9 hW9 => ⟨⟨(nI 0, upd My cx (nI 0), S1, O1), rfl, Or.inr ⟨hq1, rfl, rfl, fun k => hI k⟩, by show va_P D vwCl [(y0, .inr (4, [.int (nI 0), .ref y1, .ref y2, .ref y3, .ref y4, .ref y5, .ref y6, .ref y7, .ref y8, .ref y9, .ref ya, .ref yb, .ref yc, .ref yd, .ref ye, .int md, .int o1, .int o2, .int mo, .ref yf, .ref yg, .ref yh])), (y3, .inl (cI, 2, .inl (upd My cx (nI 0)))), (y1, .inl (cZ, 72, .inl S1)), (y2, .inl (cZ, 72, .inl O1))] t9.heap; rw [ht9]; exact hP⟩, hS.F ht9⟩) hS.2.2 dX4_clear_67
    | succ k ih =>
      refine lv_iload_n hx hb dX4_clear_36 rfl (lv_at hl 0 rfl) ?_
      refine lv_bipush (v := nI 36) hx hb dX4_clear_37 (by decide) ?_
      refine lv_iload_n hx hb dX4_clear_39 rfl (lv_at hl 2 rfl) ?_
      refine hw_imul hx hb dX4_clear_40 ?_
      refine lv_bipush (v := nI 36) hx hb dX4_clear_41 (by decide) ?_
      refine hw_iadd hx hb dX4_clear_43 ?_
      refine hw_icmp_ge hx hb (by omega) (by omega) dX4_clear_44 rfl (fun hc => absurd hc (by omega)) (fun hc => ?_)
      refine lv_aload_n hx hb dX4_clear_47 rfl (lv_at hl 1 rfl) ?_
      refine va_get (D := D) (ci := 4) (v := .ref y1) (C := RX4) (T := TX4) (N := 22) hx hb htg hi_X4 hown hK hP 0 rfl rfl 1 (by decide) (htg _ hm_497) (fun _ h9 => h9) rfl dX4_clear_48 ?_
      refine lv_iload_n hx hb dX4_clear_51 rfl (lv_at hl 0 rfl) ?_
      refine lv_iconst (v := nI 0) hx hb dX4_clear_52 (by decide) ?_
      refine hw_zast hx hb hK hP hD hS 2 1 rfl rfl (j := (36 * cx + t)) (by omega) (by first | decide | omega) dX4_clear_53 (fun H locs hP hD hS => ?_)
      rw [hw_nar0] at hP hD
      replace hP : va_P D vwCl [(y0, .inr (4, [.int (nI 0), .ref y1, .ref y2, .ref y3, .ref y4, .ref y5, .ref y6, .ref y7, .ref y8, .ref y9, .ref ya, .ref yb, .ref yc, .ref yd, .ref ye, .int md, .int o1, .int o2, .int mo, .ref yf, .ref yg, .ref yh])), (y3, .inl (cI, 2, .inl (upd My cx (nI 0)))), (y1, .inl (cZ, 72, .inl (upd S1 (36 * cx + t) (hc_b false)))), (y2, .inl (cZ, 72, .inl O1))] H := hP
      replace hD : va_D A [(y0, .inr (4, [.int (nI 0), .ref y1, .ref y2, .ref y3, .ref y4, .ref y5, .ref y6, .ref y7, .ref y8, .ref y9, .ref ya, .ref yb, .ref yc, .ref yd, .ref ye, .int md, .int o1, .int o2, .int mo, .ref yf, .ref yg, .ref yh])), (y3, .inl (cI, 2, .inl (upd My cx (nI 0)))), (y1, .inl (cZ, 72, .inl (upd S1 (36 * cx + t) (hc_b false)))), (y2, .inl (cZ, 72, .inl O1))] := hD
      refine lv_aload_n hx hb dX4_clear_54 rfl (lv_at hl 1 rfl) ?_
      refine va_get (D := D) (ci := 4) (v := .ref y2) (C := RX4) (T := TX4) (N := 22) hx hb htg hi_X4 hown hK hP 0 rfl rfl 2 (by decide) (htg _ hm_498) (fun _ h9 => h9) rfl dX4_clear_55 ?_
      refine lv_iload_n hx hb dX4_clear_58 rfl (lv_at hl 0 rfl) ?_
      refine lv_iconst (v := nI 0) hx hb dX4_clear_59 (by decide) ?_
      refine hw_zast hx hb hK hP hD hS 3 1 rfl rfl (j := (36 * cx + t)) (by omega) (by first | decide | omega) dX4_clear_60 (fun H locs hP hD hS => ?_)
      rw [hw_nar0] at hP hD
      replace hP : va_P D vwCl [(y0, .inr (4, [.int (nI 0), .ref y1, .ref y2, .ref y3, .ref y4, .ref y5, .ref y6, .ref y7, .ref y8, .ref y9, .ref ya, .ref yb, .ref yc, .ref yd, .ref ye, .int md, .int o1, .int o2, .int mo, .ref yf, .ref yg, .ref yh])), (y3, .inl (cI, 2, .inl (upd My cx (nI 0)))), (y1, .inl (cZ, 72, .inl (upd S1 (36 * cx + t) (hc_b false)))), (y2, .inl (cZ, 72, .inl (upd O1 (36 * cx + t) (hc_b false))))] H := hP
      replace hD : va_D A [(y0, .inr (4, [.int (nI 0), .ref y1, .ref y2, .ref y3, .ref y4, .ref y5, .ref y6, .ref y7, .ref y8, .ref y9, .ref ya, .ref yb, .ref yc, .ref yd, .ref ye, .int md, .int o1, .int o2, .int mo, .ref yf, .ref yg, .ref yh])), (y3, .inl (cI, 2, .inl (upd My cx (nI 0)))), (y1, .inl (cZ, 72, .inl (upd S1 (36 * cx + t) (hc_b false)))), (y2, .inl (cZ, 72, .inl (upd O1 (36 * cx + t) (hc_b false))))] := hD
      refine lv_iinc (v := nI (36 * cx + t + 1)) (k := 0) hx hb dX4_clear_61 hl rfl (hw_inc _) (by decide) rfl (fun ls hl => ?_)
      replace hl : lv_has ls 3 [(2, .int (nI (36 * cx + t + 1))), (0, .ref y0), (1, .int (nI cx))] := hl
      refine lv_goto hx hb dX4_clear_64 rfl ?_
      refine ih (t := (t + 1)) (hS := hS) (hl := hl) (hP := hP) (hD := hD) (hI := (fun k9 => ?_)) (ht := (by omega)) (hk := (by omega))
      obtain ⟨h1, h2⟩ := hI k9
      unfold upd
      by_cases hk9 : k9 = 36 * cx + t
      · rw [if_pos hk9, if_pos hk9, if_pos (by omega), if_pos (by omega)]; exact ⟨rfl, rfl⟩
      · rw [if_neg hk9, if_neg hk9, h1, h2]
        by_cases h3 : 36 * cx ≤ k9 ∧ k9 < 36 * cx + t
        · rw [if_pos h3, if_pos h3, if_pos (by omega), if_pos (by omega)]; exact ⟨rfl, rfl⟩
        · rw [if_neg h3, if_neg h3, if_neg (by omega), if_neg (by omega)]; exact ⟨rfl, rfl⟩

set_option maxHeartbeats 4000000 in
set_option maxRecDepth 100000 in
/-- pieces -/
theorem k_X4_pieces (l : Launch) (D : va_G) (cI cZ cJ : ClassId) (sz : Nat) (Sa Oa My Fa Ta La : Nat → Int32) (SA OA : Nat → Bool) (MA FA TA : Nat → Nat) (LA : Nat → Bool) (cx : Nat) (cd md o1 o2 mo : Int32) (y0 y1 y2 y3 y4 y5 y6 y7 y8 y9 ya yb yc yd ye yf yg yh : Nat) (hM : hr_m Sa Oa My Fa Ta La SA OA MA FA TA LA) (hcx : cx < 2 ^ 32) : Met l yX4_pieces (Cond.code yX4_pieces cX4_pieces 2 (some .int) :: hwG) { frames := 1, cells := 0, slots := 0, locals := 20 } (hp_M [.ref y0, .int (nI cx)] D cI cZ cJ [(y0, .inr (4, [.int cd, .ref y1, .ref y2, .ref y3, .ref y4, .ref y5, .ref y6, .ref y7, .ref y8, .ref y9, .ref ya, .ref yb, .ref yc, .ref yd, .ref ye, .int md, .int o1, .int o2, .int mo, .ref yf, .ref yg, .ref yh])), (y3, .inl (cI, 2, .inl My))] sz) (va_Qi (S := Int32) (fun r u => (¬ cx < 2 ∧ r = nI 0 ∧ u = nI 1) ∨ (cx < 2 ∧ r = nI (MA cx) ∧ u = nI 0)) (fun u t => va_P D vwCl ([(y0, .inr (4, [.int u, .ref y1, .ref y2, .ref y3, .ref y4, .ref y5, .ref y6, .ref y7, .ref y8, .ref y9, .ref ya, .ref yb, .ref yc, .ref yd, .ref ye, .int md, .int o1, .int o2, .int mo, .ref yf, .ref yg, .ref yh])), (y3, .inl (cI, 2, .inl My))]) t.heap) (va_A [(y0, .inr (4, [.int cd, .ref y1, .ref y2, .ref y3, .ref y4, .ref y5, .ref y6, .ref y7, .ref y8, .ref y9, .ref ya, .ref yb, .ref yc, .ref yd, .ref ye, .int md, .int o1, .int o2, .int mo, .ref yf, .ref yg, .ref yh])), (y3, .inl (cI, 2, .inl My))] sz)) 0 0 (va_A [(y0, .inr (4, [.int cd, .ref y1, .ref y2, .ref y3, .ref y4, .ref y5, .ref y6, .ref y7, .ref y8, .ref y9, .ref ya, .ref yb, .ref yc, .ref yd, .ref ye, .int md, .int o1, .int o2, .int mo, .ref yf, .ref yg, .ref yh])), (y3, .inl (cI, 2, .inl My))] sz) := by
  refine Met.ofW (cc := cX4_pieces) (maxL := 2) (ret := (some .int)) (by decide) rfl ?_
  intro p e s m args below meth c s₁ B hml hv
  obtain ⟨rfl, hsz, hP, hz, hD0⟩ := hv
  have hx := B.exec
  have hb := B.bytes
  have hr := B.returns
  have hts := atoms_spec (ws := (Cond.code yX4_pieces cX4_pieces 2 (some .int) :: hwG)) B.pre
  have htg := fun w h => hts w (List.mem_cons_of_mem _ h)
  have hown : s.vm.findClass RX4 = some m.cls := findClass_of_methodNamed B.named
  have hlocks := B.notSynchronized
  have hK := hz.1
  subst hsz
  have hD := hD0.self (sz := s.heap.size)
  generalize hAe : va_A [(y0, .inr (4, [.int cd, .ref y1, .ref y2, .ref y3, .ref y4, .ref y5, .ref y6, .ref y7, .ref y8, .ref y9, .ref ya, .ref yb, .ref yc, .ref yd, .ref ye, .int md, .int o1, .int o2, .int mo, .ref yf, .ref yg, .ref yh])), (y3, .inl (cI, 2, .inl My))] s.heap.size = A at hD ⊢
  have hA : ∀ q : Nat, s.heap.size ≤ q → A q := fun q h => by rw [← hAe]; exact Or.inr h
  have hS : va_S A s.heap s.heap [] := va_S.rf
  have hl := lv_entry ([.ref y0, .int (nI cx)]) (n := 2) (Nat.le_of_ble_eq_true rfl)
  rw [lg_entry_eq]
  generalize (lg_sl ([.ref y0, .int (nI cx)]) ++ List.replicate (2 - (lg_sl ([.ref y0, .int (nI cx)])).length) Slot.unset).toArray = ls at hl ⊢
  replace hl : lv_has ls 2 [(0, .ref y0), (1, .int (nI cx))] := hl
  replace hP : va_P D vwCl [(y0, .inr (4, [.int cd, .ref y1, .ref y2, .ref y3, .ref y4, .ref y5, .ref y6, .ref y7, .ref y8, .ref y9, .ref ya, .ref yb, .ref yc, .ref yd, .ref ye, .int md, .int o1, .int o2, .int mo, .ref yf, .ref yg, .ref yh])), (y3, .inl (cI, 2, .inl My))] s.heap := hP
  refine lv_aload_n hx hb dX4_pieces_0 rfl (lv_at hl 0 rfl) ?_
  refine lv_iload_n hx hb dX4_pieces_1 rfl (lv_at hl 1 rfl) ?_
  refine hw_csi (va_runS (As := [.int (nI cx)]) (rest := [.ref y0]) ⟨hx, hb, hml, hown, htg⟩ (k_X4_noClaim l D cI cZ cJ cx hcx) (va_cwS 1 htg (hg_S hm_571 hm_572 hm_6 hm_573) rfl rfl rfl (by decide +kernel) ⟨Nat.le_of_ble_eq_true rfl, Nat.le_of_ble_eq_true rfl⟩) ⟨hp_R_blind, hp_R_pre (hP.sub (ws' := []) [] rfl) hz⟩ rfl rfl hl.1 rfl (lv_room (Nat.le_of_ble_eq_true rfl)) dX4_pieces_2 ⟨Nat.zero_le _, Nat.zero_le _⟩) (fun r hq1 => ?_)
  rcases hq1 with ⟨rfl, hq1⟩ | ⟨rfl, hq1⟩
  · refine lv_if_eq hx hb dX4_pieces_5 rfl (fun hc => absurd hc (by decide)) (fun hc => ?_)
    refine lv_iconst (v := nI 1) hx hb dX4_pieces_8 (by decide) ?_
    refine lv_goto hx hb dX4_pieces_9 rfl ?_
    refine va_put (D := D) (ci := 4) (v := .int (nI 1)) (ty := .int) (C := RX4) (T := TX4) (N := 22) hx hb htg hi_X4 tyX4 tyX4_ok nmX4 hown hK hP hD hS 0 rfl rfl 0 (by decide) (htg _ hm_496) (fun _ h9 => h9) rfl (by decide +kernel) rfl rfl (Nat.le_of_ble_eq_true rfl) dX4_pieces_13 (fun H locs hP hD hS => ?_)
    replace hP : va_P D vwCl [(y0, .inr (4, [.int (nI 1), .ref y1, .ref y2, .ref y3, .ref y4, .ref y5, .ref y6, .ref y7, .ref y8, .ref y9, .ref ya, .ref yb, .ref yc, .ref yd, .ref ye, .int md, .int o1, .int o2, .int mo, .ref yf, .ref yg, .ref yh])), (y3, .inl (cI, 2, .inl My))] H := hP
    replace hD : va_D A [(y0, .inr (4, [.int (nI 1), .ref y1, .ref y2, .ref y3, .ref y4, .ref y5, .ref y6, .ref y7, .ref y8, .ref y9, .ref ya, .ref yb, .ref yc, .ref yd, .ref ye, .int md, .int o1, .int o2, .int mo, .ref yf, .ref yg, .ref yh])), (y3, .inl (cI, 2, .inl My))] := hD
    refine lv_aload_n hx hb dX4_pieces_16 rfl (lv_at hl 0 rfl) ?_
    refine va_get (D := D) (ci := 4) (v := .int (nI 1)) (C := RX4) (T := TX4) (N := 22) hx hb htg hi_X4 hown hK hP 0 rfl rfl 0 (by decide) (htg _ hm_496) (fun _ h9 => h9) rfl dX4_pieces_17 ?_
    refine lv_if_le hx hb dX4_pieces_20 rfl (fun hc => absurd hc (by decide)) (fun hc => ?_)
    refine lv_iconst (v := nI 0) hx hb dX4_pieces_23 (by decide) ?_
    refine lv_goto hx hb dX4_pieces_24 rfl ?_
    exact W.iret (v := nI 0) hx hb hr (fun t9 ht9 hW9 => ⟨⟨_, (nI 1), rfl, Or.inl ⟨hq1, rfl, rfl⟩, by show va_P D vwCl [(y0, .inr (4, [.int (nI 1), .ref y1, .ref y2, .ref y3, .ref y4, .ref y5, .ref y6, .ref y7, .ref y8, .ref y9, .ref ya, .ref yb, .ref yc, .ref yd, .ref ye, .int md, .int o1, .int o2, .int mo, .ref yf, .ref yg, .ref yh])), (y3, .inl (cI, 2, .inl My))] t9.heap; rw [ht9]; exact hP⟩, hS.F ht9⟩) hS.2.2 dX4_pieces_33
  · refine lv_if_eq hx hb dX4_pieces_5 rfl (fun hc => ?_) (fun hc => absurd rfl hc)
    have hq1 := Classical.not_not.mp hq1
    refine lv_iconst (v := nI 0) hx hb dX4_pieces_12 (by decide) ?_
    refine va_put (D := D) (ci := 4) (v := .int (nI 0)) (ty := .int) (C := RX4) (T := TX4) (N := 22) hx hb htg hi_X4 tyX4 tyX4_ok nmX4 hown hK hP hD hS 0 rfl rfl 0 (by decide) (htg _ hm_496) (fun _ h9 => h9) rfl (by decide +kernel) rfl rfl (Nat.le_of_ble_eq_true rfl) dX4_pieces_13 (fun H locs hP hD hS => ?_)
    replace hP : va_P D vwCl [(y0, .inr (4, [.int (nI 0), .ref y1, .ref y2, .ref y3, .ref y4, .ref y5, .ref y6, .ref y7, .ref y8, .ref y9, .ref ya, .ref yb, .ref yc, .ref yd, .ref ye, .int md, .int o1, .int o2, .int mo, .ref yf, .ref yg, .ref yh])), (y3, .inl (cI, 2, .inl My))] H := hP
    replace hD : va_D A [(y0, .inr (4, [.int (nI 0), .ref y1, .ref y2, .ref y3, .ref y4, .ref y5, .ref y6, .ref y7, .ref y8, .ref y9, .ref ya, .ref yb, .ref yc, .ref yd, .ref ye, .int md, .int o1, .int o2, .int mo, .ref yf, .ref yg, .ref yh])), (y3, .inl (cI, 2, .inl My))] := hD
    refine lv_aload_n hx hb dX4_pieces_16 rfl (lv_at hl 0 rfl) ?_
    refine va_get (D := D) (ci := 4) (v := .int (nI 0)) (C := RX4) (T := TX4) (N := 22) hx hb htg hi_X4 hown hK hP 0 rfl rfl 0 (by decide) (htg _ hm_496) (fun _ h9 => h9) rfl dX4_pieces_17 ?_
    refine lv_if_le hx hb dX4_pieces_20 rfl (fun hc => ?_) (fun hc => absurd (by decide) hc)
    refine lv_aload_n hx hb dX4_pieces_27 rfl (lv_at hl 0 rfl) ?_
    refine va_get (D := D) (ci := 4) (v := .ref y3) (C := RX4) (T := TX4) (N := 22) hx hb htg hi_X4 hown hK hP 0 rfl rfl 3 (by decide) (htg _ hm_499) (fun _ h9 => h9) rfl dX4_pieces_28 ?_
    refine lv_iload_n hx hb dX4_pieces_31 rfl (lv_at hl 1 rfl) ?_
    refine hw_iald hx hb hK hP 1 0 rfl rfl (j := cx) (by omega) (by first | decide | omega) (v := nI (MA cx)) ((hM.2.1 cx (by omega)).1) dX4_pieces_32 ?_
    exact W.iret (v := nI (MA cx)) hx hb hr (fun t9 ht9 hW9 => ⟨⟨_, (nI 0), rfl, Or.inr ⟨hq1, rfl, rfl⟩, by show va_P D vwCl [(y0, .inr (4, [.int (nI 0), .ref y1, .ref y2, .ref y3, .ref y4, .ref y5, .ref y6, .ref y7, .ref y8, .ref y9, .ref ya, .ref yb, .ref yc, .ref yd, .ref ye, .int md, .int o1, .int o2, .int mo, .ref yf, .ref yg, .ref yh])), (y3, .inl (cI, 2, .inl My))] t9.heap; rw [ht9]; exact hP⟩, hS.F ht9⟩) hS.2.2 dX4_pieces_33

set_option maxHeartbeats 4000000 in
set_option maxRecDepth 100000 in
/-- swap -/
theorem k_X4_swap (l : Launch) (D : va_G) (cI cZ cJ : ClassId) (sz : Nat) (Sa Oa My Fa Ta La : Nat → Int32) (SA OA : Nat → Bool) (MA FA TA : Nat → Nat) (LA : Nat → Bool) (cd md o1 o2 mo : Int32) (y0 y1 y2 y3 y4 y5 y6 y7 y8 y9 ya yb yc yd ye yf yg yh : Nat) (hM : hr_m Sa Oa My Fa Ta La SA OA MA FA TA LA) : Met l yX4_swap (Cond.code yX4_swap cX4_swap 5 none :: hwG) { frames := 0, cells := 0, slots := 0, locals := 0 } (hp_M [.ref y0] D cI cZ cJ [(y0, .inr (4, [.int cd, .ref y1, .ref y2, .ref y3, .ref y4, .ref y5, .ref y6, .ref y7, .ref y8, .ref y9, .ref ya, .ref yb, .ref yc, .ref yd, .ref ye, .int md, .int o1, .int o2, .int mo, .ref yf, .ref yg, .ref yh])), (y1, .inl (cZ, 72, .inl Sa)), (y2, .inl (cZ, 72, .inl Oa)), (y3, .inl (cI, 2, .inl My)), (y4, .inl (cI, 10, .inl Fa)), (y5, .inl (cI, 10, .inl Ta)), (y6, .inl (cZ, 10, .inl La))] sz) (va_Qv (S := (Nat → Int32) × (Nat → Int32) × (Nat → Int32) × (Nat → Int32) × (Nat → Int32) × (Nat → Int32)) (fun u => (∀ k, k < 36 → (u.1 k = hc_b (SA (36 + k)) ∧ u.1 (36 + k) = hc_b (SA k)) ∧ (u.2.1 k = hc_b (OA (36 + k)) ∧ u.2.1 (36 + k) = hc_b (OA k))) ∧ (u.2.2.1 0 = nI (MA 1) ∧ u.2.2.1 1 = nI (MA 0)) ∧ ∀ k, k < 5 → (u.2.2.2.1 k = nI (FA (5 + k)) ∧ u.2.2.2.1 (5 + k) = nI (FA k)) ∧ (u.2.2.2.2.1 k = nI (TA (5 + k)) ∧ u.2.2.2.2.1 (5 + k) = nI (TA k)) ∧ (u.2.2.2.2.2 k = hc_b (LA (5 + k)) ∧ u.2.2.2.2.2 (5 + k) = hc_b (LA k))) (fun u t => va_P D vwCl ([(y0, .inr (4, [.int (nI 0), .ref y1, .ref y2, .ref y3, .ref y4, .ref y5, .ref y6, .ref y7, .ref y8, .ref y9, .ref ya, .ref yb, .ref yc, .ref yd, .ref ye, .int md, .int o1, .int o2, .int mo, .ref yf, .ref yg, .ref yh])), (y1, .inl (cZ, 72, .inl u.1)), (y2, .inl (cZ, 72, .inl u.2.1)), (y3, .inl (cI, 2, .inl u.2.2.1)), (y4, .inl (cI, 10, .inl u.2.2.2.1)), (y5, .inl (cI, 10, .inl u.2.2.2.2.1)), (y6, .inl (cZ, 10, .inl u.2.2.2.2.2))]) t.heap) (va_A [(y0, .inr (4, [.int cd, .ref y1, .ref y2, .ref y3, .ref y4, .ref y5, .ref y6, .ref y7, .ref y8, .ref y9, .ref ya, .ref yb, .ref yc, .ref yd, .ref ye, .int md, .int o1, .int o2, .int mo, .ref yf, .ref yg, .ref yh])), (y1, .inl (cZ, 72, .inl Sa)), (y2, .inl (cZ, 72, .inl Oa)), (y3, .inl (cI, 2, .inl My)), (y4, .inl (cI, 10, .inl Fa)), (y5, .inl (cI, 10, .inl Ta)), (y6, .inl (cZ, 10, .inl La))] sz)) 0 0 (va_A [(y0, .inr (4, [.int cd, .ref y1, .ref y2, .ref y3, .ref y4, .ref y5, .ref y6, .ref y7, .ref y8, .ref y9, .ref ya, .ref yb, .ref yc, .ref yd, .ref ye, .int md, .int o1, .int o2, .int mo, .ref yf, .ref yg, .ref yh])), (y1, .inl (cZ, 72, .inl Sa)), (y2, .inl (cZ, 72, .inl Oa)), (y3, .inl (cI, 2, .inl My)), (y4, .inl (cI, 10, .inl Fa)), (y5, .inl (cI, 10, .inl Ta)), (y6, .inl (cZ, 10, .inl La))] sz) := by
  refine Met.ofW (cc := cX4_swap) (maxL := 5) (ret := none) (by decide) rfl ?_
  intro p e s m args below meth c s₁ B hml hv
  obtain ⟨rfl, hsz, hP, hz, hD0⟩ := hv
  have hx := B.exec
  have hb := B.bytes
  have hr := B.returns
  have hts := atoms_spec (ws := (Cond.code yX4_swap cX4_swap 5 none :: hwG)) B.pre
  have htg := fun w h => hts w (List.mem_cons_of_mem _ h)
  have hown : s.vm.findClass RX4 = some m.cls := findClass_of_methodNamed B.named
  have hlocks := B.notSynchronized
  have hK := hz.1
  subst hsz
  have hD := hD0.self (sz := s.heap.size)
  generalize hAe : va_A [(y0, .inr (4, [.int cd, .ref y1, .ref y2, .ref y3, .ref y4, .ref y5, .ref y6, .ref y7, .ref y8, .ref y9, .ref ya, .ref yb, .ref yc, .ref yd, .ref ye, .int md, .int o1, .int o2, .int mo, .ref yf, .ref yg, .ref yh])), (y1, .inl (cZ, 72, .inl Sa)), (y2, .inl (cZ, 72, .inl Oa)), (y3, .inl (cI, 2, .inl My)), (y4, .inl (cI, 10, .inl Fa)), (y5, .inl (cI, 10, .inl Ta)), (y6, .inl (cZ, 10, .inl La))] s.heap.size = A at hD ⊢
  have hA : ∀ q : Nat, s.heap.size ≤ q → A q := fun q h => by rw [← hAe]; exact Or.inr h
  have hS : va_S A s.heap s.heap [] := va_S.rf
  have hl := lv_entry ([.ref y0]) (n := 5) (Nat.le_of_ble_eq_true rfl)
  rw [lg_entry_eq]
  generalize (lg_sl ([.ref y0]) ++ List.replicate (5 - (lg_sl ([.ref y0])).length) Slot.unset).toArray = ls at hl ⊢
  replace hl : lv_has ls 5 [(0, .ref y0)] := hl
  replace hP : va_P D vwCl [(y0, .inr (4, [.int cd, .ref y1, .ref y2, .ref y3, .ref y4, .ref y5, .ref y6, .ref y7, .ref y8, .ref y9, .ref ya, .ref yb, .ref yc, .ref yd, .ref ye, .int md, .int o1, .int o2, .int mo, .ref yf, .ref yg, .ref yh])), (y1, .inl (cZ, 72, .inl Sa)), (y2, .inl (cZ, 72, .inl Oa)), (y3, .inl (cI, 2, .inl My)), (y4, .inl (cI, 10, .inl Fa)), (y5, .inl (cI, 10, .inl Ta)), (y6, .inl (cZ, 10, .inl La))] s.heap := hP
  refine lv_aload_n hx hb dX4_swap_0 rfl (lv_at hl 0 rfl) ?_
  refine lv_iconst (v := nI 0) hx hb dX4_swap_1 (by decide) ?_
  refine va_put (D := D) (ci := 4) (v := .int (nI 0)) (ty := .int) (C := RX4) (T := TX4) (N := 22) hx hb htg hi_X4 tyX4 tyX4_ok nmX4 hown hK hP hD hS 0 rfl rfl 0 (by decide) (htg _ hm_496) (fun _ h9 => h9) rfl (by decide +kernel) rfl rfl (Nat.le_of_ble_eq_true rfl) dX4_swap_2 (fun H locs hP hD hS => ?_)
  replace hP : va_P D vwCl [(y0, .inr (4, [.int (nI 0), .ref y1, .ref y2, .ref y3, .ref y4, .ref y5, .ref y6, .ref y7, .ref y8, .ref y9, .ref ya, .ref yb, .ref yc, .ref yd, .ref ye, .int md, .int o1, .int o2, .int mo, .ref yf, .ref yg, .ref yh])), (y1, .inl (cZ, 72, .inl Sa)), (y2, .inl (cZ, 72, .inl Oa)), (y3, .inl (cI, 2, .inl My)), (y4, .inl (cI, 10, .inl Fa)), (y5, .inl (cI, 10, .inl Ta)), (y6, .inl (cZ, 10, .inl La))] H := hP
  replace hD : va_D A [(y0, .inr (4, [.int (nI 0), .ref y1, .ref y2, .ref y3, .ref y4, .ref y5, .ref y6, .ref y7, .ref y8, .ref y9, .ref ya, .ref yb, .ref yc, .ref yd, .ref ye, .int md, .int o1, .int o2, .int mo, .ref yf, .ref yg, .ref yh])), (y1, .inl (cZ, 72, .inl Sa)), (y2, .inl (cZ, 72, .inl Oa)), (y3, .inl (cI, 2, .inl My)), (y4, .inl (cI, 10, .inl Fa)), (y5, .inl (cI, 10, .inl Ta)), (y6, .inl (cZ, 10, .inl La))] := hD
  refine lv_iconst (v := nI 0) hx hb dX4_swap_5 (by decide) ?_
  refine lv_istore_n hx hb dX4_swap_6 rfl hl (by decide) rfl (fun ls hl => ?_)
  replace hl : lv_has ls 5 [(1, .int (nI 0)), (0, .ref y0)] := hl
  obtain ⟨t, e_t⟩ : ∃ z : Nat, z = 0 := ⟨_, rfl⟩
  obtain ⟨S1, e_S1⟩ : ∃ z : Nat → Int32, z = Sa := ⟨_, rfl⟩
  obtain ⟨O1, e_O1⟩ : ∃ z : Nat → Int32, z = Oa := ⟨_, rfl⟩
  replace hl : lv_has ls 5 [(1, .int (nI t)), (0, .ref y0)] := by subst e_t e_S1 e_O1; exact hl
  replace hP : va_P D vwCl [(y0, .inr (4, [.int (nI 0), .ref y1, .ref y2, .ref y3, .ref y4, .ref y5, .ref y6, .ref y7, .ref y8, .ref y9, .ref ya, .ref yb, .ref yc, .ref yd, .ref ye, .int md, .int o1, .int o2, .int mo, .ref yf, .ref yg, .ref yh])), (y1, .inl (cZ, 72, .inl S1)), (y2, .inl (cZ, 72, .inl O1)), (y3, .inl (cI, 2, .inl My)), (y4, .inl (cI, 10, .inl Fa)), (y5, .inl (cI, 10, .inl Ta)), (y6, .inl (cZ, 10, .inl La))] H := by subst e_t e_S1 e_O1; exact hP
  replace hD : va_D A [(y0, .inr (4, [.int (nI 0), .ref y1, .ref y2, .ref y3, .ref y4, .ref y5, .ref y6, .ref y7, .ref y8, .ref y9, .ref ya, .ref yb, .ref yc, .ref yd, .ref ye, .int md, .int o1, .int o2, .int mo, .ref yf, .ref yg, .ref yh])), (y1, .inl (cZ, 72, .inl S1)), (y2, .inl (cZ, 72, .inl O1)), (y3, .inl (cI, 2, .inl My)), (y4, .inl (cI, 10, .inl Fa)), (y5, .inl (cI, 10, .inl Ta)), (y6, .inl (cZ, 10, .inl La))] := by subst e_t e_S1 e_O1; exact hD
  have hS1 : (∀ k, k < 36 → (k < t → S1 k = hc_b (SA (36 + k)) ∧ S1 (36 + k) = hc_b (SA k)) ∧ (¬ k < t → S1 k = hc_b (SA k) ∧ S1 (36 + k) = hc_b (SA (36 + k)))) := by subst e_t e_S1 e_O1; exact fun k hk => ⟨fun h => absurd h (Nat.not_lt_zero _), fun _ => ⟨(hM.1 k (by omega)).1, (hM.1 (36 + k) (by omega)).1⟩⟩
  have hO1 : (∀ k, k < 36 → (k < t → O1 k = hc_b (OA (36 + k)) ∧ O1 (36 + k) = hc_b (OA k)) ∧ (¬ k < t → O1 k = hc_b (OA k) ∧ O1 (36 + k) = hc_b (OA (36 + k)))) := by subst e_t e_S1 e_O1; exact fun k hk => ⟨fun h => absurd h (Nat.not_lt_zero _), fun _ => ⟨(hM.1 k (by omega)).2, (hM.1 (36 + k) (by omega)).2⟩⟩
  have ht : t ≤ 36 := by subst e_t e_S1 e_O1; omega
  clear e_t e_S1 e_O1
  obtain ⟨k, hk⟩ : ∃ k : Nat, k = 36 - t := ⟨_, rfl⟩
  induction k generalizing t S1 O1 ls H locs  with
  | zero =>
    refine lv_iload_n hx hb dX4_swap_7 rfl (lv_at hl 0 rfl) ?_
    refine lv_bipush (v := nI 36) hx hb dX4_swap_8 (by decide) ?_
    refine hw_icmp_ge hx hb (by omega) (by omega) dX4_swap_10 rfl (fun hc => ?_) (fun hc => absurd hc (by omega))
    have hs9 : ∀ k, k < 36 → (S1 k = hc_b (SA (36 + k)) ∧ S1 (36 + k) = hc_b (SA k)) ∧ (O1 k = hc_b (OA (36 + k)) ∧ O1 (36 + k) = hc_b (OA k)) := fun k hk => ⟨(hS1 k hk).1 (by omega), (hO1 k hk).1 (by omega)⟩
    refine lv_iconst (v := nI 0) hx hb dX4_swap_83 (by decide) ?_
    refine lv_istore_n hx hb dX4_swap_84 rfl hl (by decide) rfl (fun ls hl => ?_)
    replace hl : lv_has ls 5 [(1, .int (nI 0)), (0, .ref y0)] := hl
    obtain ⟨t2, e_t2⟩ : ∃ z : Nat, z = 0 := ⟨_, rfl⟩
    obtain ⟨F1, e_F1⟩ : ∃ z : Nat → Int32, z = Fa := ⟨_, rfl⟩
    obtain ⟨T1, e_T1⟩ : ∃ z : Nat → Int32, z = Ta := ⟨_, rfl⟩
    obtain ⟨L1, e_L1⟩ : ∃ z : Nat → Int32, z = La := ⟨_, rfl⟩
    replace hl : lv_has ls 5 [(1, .int (nI t2)), (0, .ref y0)] := by subst e_t2 e_F1 e_T1 e_L1; exact hl
    replace hP : va_P D vwCl [(y0, .inr (4, [.int (nI 0), .ref y1, .ref y2, .ref y3, .ref y4, .ref y5, .ref y6, .ref y7, .ref y8, .ref y9, .ref ya, .ref yb, .ref yc, .ref yd, .ref ye, .int md, .int o1, .int o2, .int mo, .ref yf, .ref yg, .ref yh])), (y1, .inl (cZ, 72, .inl S1)), (y2, .inl (cZ, 72, .inl O1)), (y3, .inl (cI, 2, .inl My)), (y4, .inl (cI, 10, .inl F1)), (y5, .inl (cI, 10, .inl T1)), (y6, .inl (cZ, 10, .inl L1))] H := by subst e_t2 e_F1 e_T1 e_L1; exact hP
    replace hD : va_D A [(y0, .inr (4, [.int (nI 0), .ref y1, .ref y2, .ref y3, .ref y4, .ref y5, .ref y6, .ref y7, .ref y8, .ref y9, .ref ya, .ref yb, .ref yc, .ref yd, .ref ye, .int md, .int o1, .int o2, .int mo, .ref yf, .ref yg, .ref yh])), (y1, .inl (cZ, 72, .inl S1)), (y2, .inl (cZ, 72, .inl O1)), (y3, .inl (cI, 2, .inl My)), (y4, .inl (cI, 10, .inl F1)), (y5, .inl (cI, 10, .inl T1)), (y6, .inl (cZ, 10, .inl L1))] := by subst e_t2 e_F1 e_T1 e_L1; exact hD
    have hF1 : (∀ k, k < 5 → (k < t2 → F1 k = nI (FA (5 + k)) ∧ F1 (5 + k) = nI (FA k)) ∧ (¬ k < t2 → F1 k = nI (FA k) ∧ F1 (5 + k) = nI (FA (5 + k)))) := by subst e_t2 e_F1 e_T1 e_L1; exact fun k hk => ⟨fun h => absurd h (Nat.not_lt_zero _), fun _ => ⟨(hM.2.2 k (by omega)).1, (hM.2.2 (5 + k) (by omega)).1⟩⟩
    have hT1 : (∀ k, k < 5 → (k < t2 → T1 k = nI (TA (5 + k)) ∧ T1 (5 + k) = nI (TA k)) ∧ (¬ k < t2 → T1 k = nI (TA k) ∧ T1 (5 + k) = nI (TA (5 + k)))) := by subst e_t2 e_F1 e_T1 e_L1; exact fun k hk => ⟨fun h => absurd h (Nat.not_lt_zero _), fun _ => ⟨(hM.2.2 k (by omega)).2.2.1, (hM.2.2 (5 + k) (by omega)).2.2.1⟩⟩
    have hL1 : (∀ k, k < 5 → (k < t2 → L1 k = hc_b (LA (5 + k)) ∧ L1 (5 + k) = hc_b (LA k)) ∧ (¬ k < t2 → L1 k = hc_b (LA k) ∧ L1 (5 + k) = hc_b (LA (5 + k)))) := by subst e_t2 e_F1 e_T1 e_L1; exact fun k hk => ⟨fun h => absurd h (Nat.not_lt_zero _), fun _ => ⟨(hM.2.2 k (by omega)).2.2.2.2, (hM.2.2 (5 + k) (by omega)).2.2.2.2⟩⟩
    have ht2 : t2 ≤ 5 := by subst e_t2 e_F1 e_T1 e_L1; omega
    clear e_t2 e_F1 e_T1 e_L1
    obtain ⟨k2, hk2⟩ : ∃ k2 : Nat, k2 = 5 - t2 := ⟨_, rfl⟩
    induction k2 generalizing t2 F1 T1 L1 ls H locs  with
    | zero =>
      refine lv_iload_n hx hb dX4_swap_85 rfl (lv_at hl 0 rfl) ?_
      refine lv_iconst (v := nI 5) hx hb dX4_swap_86 (by decide) ?_
      refine hw_icmp_ge hx hb (by omega) (by omega) dX4_swap_87 rfl (fun hc2 => ?_) (fun hc2 => absurd hc2 (by omega))
      refine lv_aload_n hx hb dX4_swap_188 rfl (lv_at hl 1 rfl) ?_
      refine va_get (D := D) (ci := 4) (v := .ref y3) (C := RX4) (T := TX4) (N := 22) hx hb htg hi_X4 hown hK hP 0 rfl rfl 3 (by decide) (htg _ hm_499) (fun _ h9 => h9) rfl dX4_swap_189 ?_
      refine lv_iconst (v := nI 0) hx hb dX4_swap_192 (by decide) ?_
      refine hw_iald hx hb hK hP 3 0 rfl rfl (j := 0) (by omega) (by first | decide | omega) (v := nI (MA 0)) ((hM.2.1 0 (by omega)).1) dX4_swap_193 ?_
      refine lv_istore_n hx hb dX4_swap_194 rfl hl (by decide) rfl (fun ls hl => ?_)
      replace hl : lv_has ls 5 [(1, .int (nI (MA 0))), (0, .ref y0)] := hl
      refine lv_aload_n hx hb dX4_swap_195 rfl (lv_at hl 1 rfl) ?_
      refine va_get (D := D) (ci := 4) (v := .ref y3) (C := RX4) (T := TX4) (N := 22) hx hb htg hi_X4 hown hK hP 0 rfl rfl 3 (by decide) (htg _ hm_499) (fun _ h9 => h9) rfl dX4_swap_196 ?_
      refine lv_iconst (v := nI 0) hx hb dX4_swap_199 (by decide) ?_
      refine lv_aload_n hx hb dX4_swap_200 rfl (lv_at hl 1 rfl) ?_
      refine va_get (D := D) (ci := 4) (v := .ref y3) (C := RX4) (T := TX4) (N := 22) hx hb htg hi_X4 hown hK hP 0 rfl rfl 3 (by decide) (htg _ hm_499) (fun _ h9 => h9) rfl dX4_swap_201 ?_
      refine lv_iconst (v := nI 1) hx hb dX4_swap_204 (by decide) ?_
      refine hw_iald hx hb hK hP 3 0 rfl rfl (j := 1) (by omega) (by first | decide | omega) (v := nI (MA 1)) ((hM.2.1 1 (by omega)).1) dX4_swap_205 ?_
      refine hw_iast hx hb hK hP hD hS 3 0 rfl rfl (j := 0) (by omega) (by first | decide | omega) dX4_swap_206 (fun H locs hP hD hS => ?_)
      replace hP : va_P D vwCl [(y0, .inr (4, [.int (nI 0), .ref y1, .ref y2, .ref y3, .ref y4, .ref y5, .ref y6, .ref y7, .ref y8, .ref y9, .ref ya, .ref yb, .ref yc, .ref yd, .ref ye, .int md, .int o1, .int o2, .int mo, .ref yf, .ref yg, .ref yh])), (y1, .inl (cZ, 72, .inl S1)), (y2, .inl (cZ, 72, .inl O1)), (y3, .inl (cI, 2, .inl (upd My 0 (nI (MA 1))))), (y4, .inl (cI, 10, .inl F1)), (y5, .inl (cI, 10, .inl T1)), (y6, .inl (cZ, 10, .inl L1))] H := hP
      replace hD : va_D A [(y0, .inr (4, [.int (nI 0), .ref y1, .ref y2, .ref y3, .ref y4, .ref y5, .ref y6, .ref y7, .ref y8, .ref y9, .ref ya, .ref yb, .ref yc, .ref yd, .ref ye, .int md, .int o1, .int o2, .int mo, .ref yf, .ref yg, .ref yh])), (y1, .inl (cZ, 72, .inl S1)), (y2, .inl (cZ, 72, .inl O1)), (y3, .inl (cI, 2, .inl (upd My 0 (nI (MA 1))))), (y4, .inl (cI, 10, .inl F1)), (y5, .inl (cI, 10, .inl T1)), (y6, .inl (cZ, 10, .inl L1))] := hD
      refine lv_aload_n hx hb dX4_swap_207 rfl (lv_at hl 1 rfl) ?_
      refine va_get (D := D) (ci := 4) (v := .ref y3) (C := RX4) (T := TX4) (N := 22) hx hb htg hi_X4 hown hK hP 0 rfl rfl 3 (by decide) (htg _ hm_499) (fun _ h9 => h9) rfl dX4_swap_208 ?_
      refine lv_iconst (v := nI 1) hx hb dX4_swap_211 (by decide) ?_
      refine lv_iload_n hx hb dX4_swap_212 rfl (lv_at hl 0 rfl) ?_
      refine hw_iast hx hb hK hP hD hS 3 0 rfl rfl (j := 1) (by omega) (by first | decide | omega) dX4_swap_213 (fun H locs hP hD hS => ?_)
      replace hP : va_P D vwCl [(y0, .inr (4, [.int (nI 0), .ref y1, .ref y2, .ref y3, .ref y4, .ref y5, .ref y6, .ref y7, .ref y8, .ref y9, .ref ya, .ref yb, .ref yc, .ref yd, .ref ye, .int md, .int o1, .int o2, .int mo, .ref yf, .ref yg, .ref yh])), (y1, .inl (cZ, 72, .inl S1)), (y2, .inl (cZ, 72, .inl O1)), (y3, .inl (cI, 2, .inl (upd (upd My 0 (nI (MA 1))) 1 (nI (MA 0))))), (y4, .inl (cI, 10, .inl F1)), (y5, .inl (cI, 10, .inl T1)), (y6, .inl (cZ, 10, .inl L1))] H := hP
      replace hD : va_D A [(y0, .inr (4, [.int (nI 0), .ref y1, .ref y2, .ref y3, .ref y4, .ref y5, .ref y6, .ref y7, .ref y8, .ref y9, .ref ya, .ref yb, .ref yc, .ref yd, .ref ye, .int md, .int o1, .int o2, .int mo, .ref yf, .ref yg, .ref yh])), (y1, .inl (cZ, 72, .inl S1)), (y2, .inl (cZ, 72, .inl O1)), (y3, .inl (cI, 2, .inl (upd (upd My 0 (nI (MA 1))) 1 (nI (MA 0))))), (y4, .inl (cI, 10, .inl F1)), (y5, .inl (cI, 10, .inl T1)), (y6, .inl (cZ, 10, .inl L1))] := hD
      exact W.vret hx hb hr (fun t9 ht9 hW9 => ⟨⟨(S1, O1, upd (upd My 0 (nI (MA 1))) 1 (nI (MA 0)), F1, T1, L1), rfl, ⟨hs9, ⟨by show upd (upd My 0 (nI (MA 1))) 1 (nI (MA 0)) 0 = nI (MA 1); rw [hy_up_n _ _ (by omega), hy_up_s], by show upd (upd My 0 (nI (MA 1))) 1 (nI (MA 0)) 1 = nI (MA 0); rw [hy_up_s]⟩, fun k hk => ⟨(hF1 k hk).1 (by omega), (hT1 k hk).1 (by omega), (hL1 k hk).1 (by omega)⟩⟩, by show va_P D vwCl [(y0, .inr (4, [.int (nI 0), .ref y1, .ref y2, .ref y3, .ref y4, .ref y5, .ref y6, .ref y7, .ref y8, .ref y9, .ref ya, .ref yb, .ref yc, .ref yd, .ref ye, .int md, .int o1, .int o2, .int mo, .ref yf, .ref yg, .ref yh])), (y1, .inl (cZ, 72, .inl S1)), (y2, .inl (cZ, 72, .inl O1)), (y3, .inl (cI, 2, .inl (upd (upd My 0 (nI (MA 1))) 1 (nI (MA 0))))), (y4, .inl (cI, 10, .inl F1)), (y5, .inl (cI, 10, .inl T1)), (y6, .inl (cZ, 10, .inl L1))] t9.heap; rw [ht9]; exact hP⟩, hS.F ht9⟩) hS.2.2 dX4_swap_214
    | succ k2 ih2 =>
      refine lv_iload_n hx hb dX4_swap_85 rfl (lv_at hl 0 rfl) ?_
      refine lv_iconst (v := nI 5) hx hb dX4_swap_86 (by decide) ?_
      refine hw_icmp_ge hx hb (by omega) (by omega) dX4_swap_87 rfl (fun hc2 => absurd hc2 (by omega)) (fun hc2 => ?_)
      refine lv_aload_n hx hb dX4_swap_90 rfl (lv_at hl 1 rfl) ?_
      refine va_get (D := D) (ci := 4) (v := .ref y4) (C := RX4) (T := TX4) (N := 22) hx hb htg hi_X4 hown hK hP 0 rfl rfl 4 (by decide) (htg _ hm_500) (fun _ h9 => h9) rfl dX4_swap_91 ?_
      refine lv_iload_n hx hb dX4_swap_94 rfl (lv_at hl 0 rfl) ?_
      refine hw_iald hx hb hK hP 4 0 rfl rfl (j := t2) (by omega) (by first | decide | omega) (v := nI (FA t2)) (((hF1 t2 (by omega)).2 (by omega)).1) dX4_swap_95 ?_
      refine lv_istore_n hx hb dX4_swap_96 rfl hl (by decide) rfl (fun ls hl => ?_)
      replace hl : lv_has ls 5 [(2, .int (nI (FA t2))), (1, .int (nI t2)), (0, .ref y0)] := hl
      refine lv_aload_n hx hb dX4_swap_97 rfl (lv_at hl 2 rfl) ?_
      refine va_get (D := D) (ci := 4) (v := .ref y5) (C := RX4) (T := TX4) (N := 22) hx hb htg hi_X4 hown hK hP 0 rfl rfl 5 (by decide) (htg _ hm_501) (fun _ h9 => h9) rfl dX4_swap_98 ?_
      refine lv_iload_n hx hb dX4_swap_101 rfl (lv_at hl 1 rfl) ?_
      refine hw_iald hx hb hK hP 5 0 rfl rfl (j := t2) (by omega) (by first | decide | omega) (v := nI (TA t2)) (((hT1 t2 (by omega)).2 (by omega)).1) dX4_swap_102 ?_
      refine lv_istore_n hx hb dX4_swap_103 rfl hl (by decide) rfl (fun ls hl => ?_)
      replace hl : lv_has ls 5 [(3, .int (nI (TA t2))), (2, .int (nI (FA t2))), (1, .int (nI t2)), (0, .ref y0)] := hl
      refine lv_aload_n hx hb dX4_swap_104 rfl (lv_at hl 3 rfl) ?_
      refine va_get (D := D) (ci := 4) (v := .ref y6) (C := RX4) (T := TX4) (N := 22) hx hb htg hi_X4 hown hK hP 0 rfl rfl 6 (by decide) (htg _ hm_502) (fun _ h9 => h9) rfl dX4_swap_105 ?_
      refine lv_iload_n hx hb dX4_swap_108 rfl (lv_at hl 2 rfl) ?_
      refine hw_zald hx hb hK hP 6 1 rfl rfl (j := t2) (by omega) (by first | decide | omega) (v := hc_b (LA t2)) (((hL1 t2 (by omega)).2 (by omega)).1) dX4_swap_109 ?_
      refine lv_istore hx hb dX4_swap_110 hl (by decide) rfl (fun ls hl => ?_)
      replace hl : lv_has ls 5 [(4, .int (hc_b (LA t2))), (3, .int (nI (TA t2))), (2, .int (nI (FA t2))), (1, .int (nI t2)), (0, .ref y0)] := hl
      refine lv_aload_n hx hb dX4_swap_112 rfl (lv_at hl 4 rfl) ?_
      refine va_get (D := D) (ci := 4) (v := .ref y4) (C := RX4) (T := TX4) (N := 22) hx hb htg hi_X4 hown hK hP 0 rfl rfl 4 (by decide) (htg _ hm_500) (fun _ h9 => h9) rfl dX4_swap_113 ?_
      refine lv_iload_n hx hb dX4_swap_116 rfl (lv_at hl 3 rfl) ?_
      refine lv_aload_n hx hb dX4_swap_117 rfl (lv_at hl 4 rfl) ?_
      refine va_get (D := D) (ci := 4) (v := .ref y4) (C := RX4) (T := TX4) (N := 22) hx hb htg hi_X4 hown hK hP 0 rfl rfl 4 (by decide) (htg _ hm_500) (fun _ h9 => h9) rfl dX4_swap_118 ?_
      refine lv_iconst (v := nI 5) hx hb dX4_swap_121 (by decide) ?_
      refine lv_iload_n hx hb dX4_swap_122 rfl (lv_at hl 3 rfl) ?_
      refine hw_iadd hx hb dX4_swap_123 ?_
      refine hw_iald hx hb hK hP 4 0 rfl rfl (j := (5 + t2)) (by omega) (by first | decide | omega) (v := nI (FA (5 + t2))) (((hF1 t2 (by omega)).2 (by omega)).2) dX4_swap_124 ?_
      refine hw_iast hx hb hK hP hD hS 4 0 rfl rfl (j := t2) (by omega) (by first | decide | omega) dX4_swap_125 (fun H locs hP hD hS => ?_)
      replace hP : va_P D vwCl [(y0, .inr (4, [.int (nI 0), .ref y1, .ref y2, .ref y3, .ref y4, .ref y5, .ref y6, .ref y7, .ref y8, .ref y9, .ref ya, .ref yb, .ref yc, .ref yd, .ref ye, .int md, .int o1, .int o2, .int mo, .ref yf, .ref yg, .ref yh])), (y1, .inl (cZ, 72, .inl S1)), (y2, .inl (cZ, 72, .inl O1)), (y3, .inl (cI, 2, .inl My)), (y4, .inl (cI, 10, .inl (upd F1 t2 (nI (FA (5 + t2)))))), (y5, .inl (cI, 10, .inl T1)), (y6, .inl (cZ, 10, .inl L1))] H := hP
      replace hD : va_D A [(y0, .inr (4, [.int (nI 0), .ref y1, .ref y2, .ref y3, .ref y4, .ref y5, .ref y6, .ref y7, .ref y8, .ref y9, .ref ya, .ref yb, .ref yc, .ref yd, .ref ye, .int md, .int o1, .int o2, .int mo, .ref yf, .ref yg, .ref yh])), (y1, .inl (cZ, 72, .inl S1)), (y2, .inl (cZ, 72, .inl O1)), (y3, .inl (cI, 2, .inl My)), (y4, .inl (cI, 10, .inl (upd F1 t2 (nI (FA (5 + t2)))))), (y5, .inl (cI, 10, .inl T1)), (y6, .inl (cZ, 10, .inl L1))] := hD
      refine lv_aload_n hx hb dX4_swap_126 rfl (lv_at hl 4 rfl) ?_
      refine va_get (D := D) (ci := 4) (v := .ref y5) (C := RX4) (T := TX4) (N := 22) hx hb htg hi_X4 hown hK hP 0 rfl rfl 5 (by decide) (htg _ hm_501) (fun _ h9 => h9) rfl dX4_swap_127 ?_
      refine lv_iload_n hx hb dX4_swap_130 rfl (lv_at hl 3 rfl) ?_
      refine lv_aload_n hx hb dX4_swap_131 rfl (lv_at hl 4 rfl) ?_
      refine va_get (D := D) (ci := 4) (v := .ref y5) (C := RX4) (T := TX4) (N := 22) hx hb htg hi_X4 hown hK hP 0 rfl rfl 5 (by decide) (htg _ hm_501) (fun _ h9 => h9) rfl dX4_swap_132 ?_
      refine lv_iconst (v := nI 5) hx hb dX4_swap_135 (by decide) ?_
      refine lv_iload_n hx hb dX4_swap_136 rfl (lv_at hl 3 rfl) ?_
      refine hw_iadd hx hb dX4_swap_137 ?_
      refine hw_iald hx hb hK hP 5 0 rfl rfl (j := (5 + t2)) (by omega) (by first | decide | omega) (v := nI (TA (5 + t2))) (((hT1 t2 (by omega)).2 (by omega)).2) dX4_swap_138 ?_
      refine hw_iast hx hb hK hP hD hS 5 0 rfl rfl (j := t2) (by omega) (by first | decide | omega) dX4_swap_139 (fun H locs hP hD hS => ?_)
      replace hP : va_P D vwCl [(y0, .inr (4, [.int (nI 0), .ref y1, .ref y2, .ref y3, .ref y4, .ref y5, .ref y6, .ref y7, .ref y8, .ref y9, .ref ya, .ref yb, .ref yc, .ref yd, .ref ye, .int md, .int o1, .int o2, .int mo, .ref yf, .ref yg, .ref yh])), (y1, .inl (cZ, 72, .inl S1)), (y2, .inl (cZ, 72, .inl O1)), (y3, .inl (cI, 2, .inl My)), (y4, .inl (cI, 10, .inl (upd F1 t2 (nI (FA (5 + t2)))))), (y5, .inl (cI, 10, .inl (upd T1 t2 (nI (TA (5 + t2)))))), (y6, .inl (cZ, 10, .inl L1))] H := hP
      replace hD : va_D A [(y0, .inr (4, [.int (nI 0), .ref y1, .ref y2, .ref y3, .ref y4, .ref y5, .ref y6, .ref y7, .ref y8, .ref y9, .ref ya, .ref yb, .ref yc, .ref yd, .ref ye, .int md, .int o1, .int o2, .int mo, .ref yf, .ref yg, .ref yh])), (y1, .inl (cZ, 72, .inl S1)), (y2, .inl (cZ, 72, .inl O1)), (y3, .inl (cI, 2, .inl My)), (y4, .inl (cI, 10, .inl (upd F1 t2 (nI (FA (5 + t2)))))), (y5, .inl (cI, 10, .inl (upd T1 t2 (nI (TA (5 + t2)))))), (y6, .inl (cZ, 10, .inl L1))] := hD
      refine lv_aload_n hx hb dX4_swap_140 rfl (lv_at hl 4 rfl) ?_
      refine va_get (D := D) (ci := 4) (v := .ref y6) (C := RX4) (T := TX4) (N := 22) hx hb htg hi_X4 hown hK hP 0 rfl rfl 6 (by decide) (htg _ hm_502) (fun _ h9 => h9) rfl dX4_swap_141 ?_
      refine lv_iload_n hx hb dX4_swap_144 rfl (lv_at hl 3 rfl) ?_
      refine lv_aload_n hx hb dX4_swap_145 rfl (lv_at hl 4 rfl) ?_
      refine va_get (D := D) (ci := 4) (v := .ref y6) (C := RX4) (T := TX4) (N := 22) hx hb htg hi_X4 hown hK hP 0 rfl rfl 6 (by decide) (htg _ hm_502) (fun _ h9 => h9) rfl dX4_swap_146 ?_
      refine lv_iconst (v := nI 5) hx hb dX4_swap_149 (by decide) ?_
      refine lv_iload_n hx hb dX4_swap_150 rfl (lv_at hl 3 rfl) ?_
      refine hw_iadd hx hb dX4_swap_151 ?_
      refine hw_zald hx hb hK hP 6 1 rfl rfl (j := (5 + t2)) (by omega) (by first | decide | omega) (v := hc_b (LA (5 + t2))) (((hL1 t2 (by omega)).2 (by omega)).2) dX4_swap_152 ?_
      refine hw_zast hx hb hK hP hD hS 6 1 rfl rfl (j := t2) (by omega) (by first | decide | omega) dX4_swap_153 (fun H locs hP hD hS => ?_)
      rw [hw_narb] at hP hD
      replace hP : va_P D vwCl [(y0, .inr (4, [.int (nI 0), .ref y1, .ref y2, .ref y3, .ref y4, .ref y5, .ref y6, .ref y7, .ref y8, .ref y9, .ref ya, .ref yb, .ref yc, .ref yd, .ref ye, .int md, .int o1, .int o2, .int mo, .ref yf, .ref yg, .ref yh])), (y1, .inl (cZ, 72, .inl S1)), (y2, .inl (cZ, 72, .inl O1)), (y3, .inl (cI, 2, .inl My)), (y4, .inl (cI, 10, .inl (upd F1 t2 (nI (FA (5 + t2)))))), (y5, .inl (cI, 10, .inl (upd T1 t2 (nI (TA (5 + t2)))))), (y6, .inl (cZ, 10, .inl (upd L1 t2 (hc_b (LA (5 + t2))))))] H := hP
      replace hD : va_D A [(y0, .inr (4, [.int (nI 0), .ref y1, .ref y2, .ref y3, .ref y4, .ref y5, .ref y6, .ref y7, .ref y8, .ref y9, .ref ya, .ref yb, .ref yc, .ref yd, .ref ye, .int md, .int o1, .int o2, .int mo, .ref yf, .ref yg, .ref yh])), (y1, .inl (cZ, 72, .inl S1)), (y2, .inl (cZ, 72, .inl O1)), (y3, .inl (cI, 2, .inl My)), (y4, .inl (cI, 10, .inl (upd F1 t2 (nI (FA (5 + t2)))))), (y5, .inl (cI, 10, .inl (upd T1 t2 (nI (TA (5 + t2)))))), (y6, .inl (cZ, 10, .inl (upd L1 t2 (hc_b (LA (5 + t2))))))] := hD
      refine lv_aload_n hx hb dX4_swap_154 rfl (lv_at hl 4 rfl) ?_
      refine va_get (D := D) (ci := 4) (v := .ref y4) (C := RX4) (T := TX4) (N := 22) hx hb htg hi_X4 hown hK hP 0 rfl rfl 4 (by decide) (htg _ hm_500) (fun _ h9 => h9) rfl dX4_swap_155 ?_
      refine lv_iconst (v := nI 5) hx hb dX4_swap_158 (by decide) ?_
      refine lv_iload_n hx hb dX4_swap_159 rfl (lv_at hl 3 rfl) ?_
      refine hw_iadd hx hb dX4_swap_160 ?_
      refine lv_iload_n hx hb dX4_swap_161 rfl (lv_at hl 2 rfl) ?_
      refine hw_iast hx hb hK hP hD hS 4 0 rfl rfl (j := (5 + t2)) (by omega) (by first | decide | omega) dX4_swap_162 (fun H locs hP hD hS => ?_)
      replace hP : va_P D vwCl [(y0, .inr (4, [.int (nI 0), .ref y1, .ref y2, .ref y3, .ref y4, .ref y5, .ref y6, .ref y7, .ref y8, .ref y9, .ref ya, .ref yb, .ref yc, .ref yd, .ref ye, .int md, .int o1, .int o2, .int mo, .ref yf, .ref yg, .ref yh])), (y1, .inl (cZ, 72, .inl S1)), (y2, .inl (cZ, 72, .inl O1)), (y3, .inl (cI, 2, .inl My)), (y4, .inl (cI, 10, .inl (upd (upd F1 t2 (nI (FA (5 + t2)))) (5 + t2) (nI (FA t2))))), (y5, .inl (cI, 10, .inl (upd T1 t2 (nI (TA (5 + t2)))))), (y6, .inl (cZ, 10, .inl (upd L1 t2 (hc_b (LA (5 + t2))))))] H := hP
      replace hD : va_D A [(y0, .inr (4, [.int (nI 0), .ref y1, .ref y2, .ref y3, .ref y4, .ref y5, .ref y6, .ref y7, .ref y8, .ref y9, .ref ya, .ref yb, .ref yc, .ref yd, .ref ye, .int md, .int o1, .int o2, .int mo, .ref yf, .ref yg, .ref yh])), (y1, .inl (cZ, 72, .inl S1)), (y2, .inl (cZ, 72, .inl O1)), (y3, .inl (cI, 2, .inl My)), (y4, .inl (cI, 10, .inl (upd (upd F1 t2 (nI (FA (5 + t2)))) (5 + t2) (nI (FA t2))))), (y5, .inl (cI, 10, .inl (upd T1 t2 (nI (TA (5 + t2)))))), (y6, .inl (cZ, 10, .inl (upd L1 t2 (hc_b (LA (5 + t2))))))] := hD
      refine lv_aload_n hx hb dX4_swap_163 rfl (lv_at hl 4 rfl) ?_
      refine va_get (D := D) (ci := 4) (v := .ref y5) (C := RX4) (T := TX4) (N := 22) hx hb htg hi_X4 hown hK hP 0 rfl rfl 5 (by decide) (htg _ hm_501) (fun _ h9 => h9) rfl dX4_swap_164 ?_
      refine lv_iconst (v := nI 5) hx hb dX4_swap_167 (by decide) ?_
      refine lv_iload_n hx hb dX4_swap_168 rfl (lv_at hl 3 rfl) ?_
      refine hw_iadd hx hb dX4_swap_169 ?_
      refine lv_iload_n hx hb dX4_swap_170 rfl (lv_at hl 1 rfl) ?_
      refine hw_iast hx hb hK hP hD hS 5 0 rfl rfl (j := (5 + t2)) (by omega) (by first | decide | omega) dX4_swap_171 (fun H locs hP hD hS => ?_)
      replace hP : va_P D vwCl [(y0, .inr (4, [.int (nI 0), .ref y1, .ref y2, .ref y3, .ref y4, .ref y5, .ref y6, .ref y7, .ref y8, .ref y9, .ref ya, .ref yb, .ref yc, .ref yd, .ref ye, .int md, .int o1, .int o2, .int mo, .ref yf, .ref yg, .ref yh])), (y1, .inl (cZ, 72, .inl S1)), (y2, .inl (cZ, 72, .inl O1)), (y3, .inl (cI, 2, .inl My)), (y4, .inl (cI, 10, .inl (upd (upd F1 t2 (nI (FA (5 + t2)))) (5 + t2) (nI (FA t2))))), (y5, .inl (cI, 10, .inl (upd (upd T1 t2 (nI (TA (5 + t2)))) (5 + t2) (nI (TA t2))))), (y6, .inl (cZ, 10, .inl (upd L1 t2 (hc_b (LA (5 + t2))))))] H := hP
      replace hD : va_D A [(y0, .inr (4, [.int (nI 0), .ref y1, .ref y2, .ref y3, .ref y4, .ref y5, .ref y6, .ref y7, .ref y8, .ref y9, .ref ya, .ref yb, .ref yc, .ref yd, .ref ye, .int md, .int o1, .int o2, .int mo, .ref yf, .ref yg, .ref yh])), (y1, .inl (cZ, 72, .inl S1)), (y2, .inl (cZ, 72, .inl O1)), (y3, .inl (cI, 2, .inl My)), (y4, .inl (cI, 10, .inl (upd (upd F1 t2 (nI (FA (5 + t2)))) (5 + t2) (nI (FA t2))))), (y5, .inl (cI, 10, .inl (upd (upd T1 t2 (nI (TA (5 + t2)))) (5 + t2) (nI (TA t2))))), (y6, .inl (cZ, 10, .inl (upd L1 t2 (hc_b (LA (5 + t2))))))] := hD
      refine lv_aload_n hx hb dX4_swap_172 rfl (lv_at hl 4 rfl) ?_
      refine va_get (D := D) (ci := 4) (v := .ref y6) (C := RX4) (T := TX4) (N := 22) hx hb htg hi_X4 hown hK hP 0 rfl rfl 6 (by decide) (htg _ hm_502) (fun _ h9 => h9) rfl dX4_swap_173 ?_
      refine lv_iconst (v := nI 5) hx hb dX4_swap_176 (by decide) ?_
      refine lv_iload_n hx hb dX4_swap_177 rfl (lv_at hl 3 rfl) ?_
      refine hw_iadd hx hb dX4_swap_178 ?_
      refine lv_iload hx hb dX4_swap_179 (lv_at hl 0 rfl) ?_
      refine hw_zast hx hb hK hP hD hS 6 1 rfl rfl (j := (5 + t2)) (by omega) (by first | decide | omega) dX4_swap_181 (fun H locs hP hD hS => ?_)
      rw [hw_narb] at hP hD
      replace hP : va_P D vwCl [(y0, .inr (4, [.int (nI 0), .ref y1, .ref y2, .ref y3, .ref y4, .ref y5, .ref y6, .ref y7, .ref y8, .ref y9, .ref ya, .ref yb, .ref yc, .ref yd, .ref ye, .int md, .int o1, .int o2, .int mo, .ref yf, .ref yg, .ref yh])), (y1, .inl (cZ, 72, .inl S1)), (y2, .inl (cZ, 72, .inl O1)), (y3, .inl (cI, 2, .inl My)), (y4, .inl (cI, 10, .inl (upd (upd F1 t2 (nI (FA (5 + t2)))) (5 + t2) (nI (FA t2))))), (y5, .inl (cI, 10, .inl (upd (upd T1 t2 (nI (TA (5 + t2)))) (5 + t2) (nI (TA t2))))), (y6, .inl (cZ, 10, .inl (upd (upd L1 t2 (hc_b (LA (5 + t2)))) (5 + t2) (hc_b (LA t2)))))] H := hP
      replace hD : va_D A [(y0, .inr (4, [.int (nI 0), .ref y1, .ref y2, .ref y3, .ref y4, .ref y5, .ref y6, .ref y7, .ref y8, .ref y9, .ref ya, .ref yb, .ref yc, .ref yd, .ref ye, .int md, .int o1, .int o2, .int mo, .ref yf, .ref yg, .ref yh])), (y1, .inl (cZ, 72, .inl S1)), (y2, .inl (cZ, 72, .inl O1)), (y3, .inl (cI, 2, .inl My)), (y4, .inl (cI, 10, .inl (upd (upd F1 t2 (nI (FA (5 + t2)))) (5 + t2) (nI (FA t2))))), (y5, .inl (cI, 10, .inl (upd (upd T1 t2 (nI (TA (5 + t2)))) (5 + t2) (nI (TA t2))))), (y6, .inl (cZ, 10, .inl (upd (upd L1 t2 (hc_b (LA (5 + t2)))) (5 + t2) (hc_b (LA t2)))))] := hD
      refine lv_iinc (v := nI (t2 + 1)) (k := 3) hx hb dX4_swap_182 hl rfl (hw_inc _) (by decide) rfl (fun ls hl => ?_)
      replace hl : lv_has ls 5 [(1, .int (nI (t2 + 1))), (4, .int (hc_b (LA t2))), (3, .int (nI (TA t2))), (2, .int (nI (FA t2))), (0, .ref y0)] := hl
      refine lv_goto hx hb dX4_swap_185 rfl ?_
      replace hl : lv_has ls 5 [(1, .int (nI (t2 + 1))), (0, .ref y0)] := lv_sub hl [0, 4] rfl
      refine ih2 (hS := hS) (hl := hl) (hP := hP) (hD := hD) (hF1 := (fun k hk => ⟨fun h => by unfold upd; by_cases hkt : k = t2; (rw [if_neg (by omega), if_pos hkt, if_pos (by omega), hkt]; exact ⟨rfl, rfl⟩); (rw [if_neg (by omega), if_neg hkt, if_neg (by omega), if_neg (by omega)]; exact (hF1 k hk).1 (by omega)), fun h => by unfold upd; rw [if_neg (by omega), if_neg (by omega), if_neg (by omega), if_neg (by omega)]; exact (hF1 k hk).2 (by omega)⟩)) (hT1 := (fun k hk => ⟨fun h => by unfold upd; by_cases hkt : k = t2; (rw [if_neg (by omega), if_pos hkt, if_pos (by omega), hkt]; exact ⟨rfl, rfl⟩); (rw [if_neg (by omega), if_neg hkt, if_neg (by omega), if_neg (by omega)]; exact (hT1 k hk).1 (by omega)), fun h => by unfold upd; rw [if_neg (by omega), if_neg (by omega), if_neg (by omega), if_neg (by omega)]; exact (hT1 k hk).2 (by omega)⟩)) (hL1 := (fun k hk => ⟨fun h => by unfold upd; by_cases hkt : k = t2; (rw [if_neg (by omega), if_pos hkt, if_pos (by omega), hkt]; exact ⟨rfl, rfl⟩); (rw [if_neg (by omega), if_neg hkt, if_neg (by omega), if_neg (by omega)]; exact (hL1 k hk).1 (by omega)), fun h => by unfold upd; rw [if_neg (by omega), if_neg (by omega), if_neg (by omega), if_neg (by omega)]; exact (hL1 k hk).2 (by omega)⟩)) (ht2 := (by omega)) (hk2 := (by omega))
  | succ k ih =>
    refine lv_iload_n hx hb dX4_swap_7 rfl (lv_at hl 0 rfl) ?_
    refine lv_bipush (v := nI 36) hx hb dX4_swap_8 (by decide) ?_
    refine hw_icmp_ge hx hb (by omega) (by omega) dX4_swap_10 rfl (fun hc => absurd hc (by omega)) (fun hc => ?_)
    refine lv_aload_n hx hb dX4_swap_13 rfl (lv_at hl 1 rfl) ?_
    refine va_get (D := D) (ci := 4) (v := .ref y1) (C := RX4) (T := TX4) (N := 22) hx hb htg hi_X4 hown hK hP 0 rfl rfl 1 (by decide) (htg _ hm_497) (fun _ h9 => h9) rfl dX4_swap_14 ?_
    refine lv_iload_n hx hb dX4_swap_17 rfl (lv_at hl 0 rfl) ?_
    refine hw_zald hx hb hK hP 1 1 rfl rfl (j := t) (by omega) (by first | decide | omega) (v := hc_b (SA t)) (((hS1 t (by omega)).2 (by omega)).1) dX4_swap_18 ?_
    refine lv_istore_n hx hb dX4_swap_19 rfl hl (by decide) rfl (fun ls hl => ?_)
    replace hl : lv_has ls 5 [(2, .int (hc_b (SA t))), (1, .int (nI t)), (0, .ref y0)] := hl
    refine lv_aload_n hx hb dX4_swap_20 rfl (lv_at hl 2 rfl) ?_
    refine va_get (D := D) (ci := 4) (v := .ref y2) (C := RX4) (T := TX4) (N := 22) hx hb htg hi_X4 hown hK hP 0 rfl rfl 2 (by decide) (htg _ hm_498) (fun _ h9 => h9) rfl dX4_swap_21 ?_
    refine lv_iload_n hx hb dX4_swap_24 rfl (lv_at hl 1 rfl) ?_
    refine hw_zald hx hb hK hP 2 1 rfl rfl (j := t) (by omega) (by first | decide | omega) (v := hc_b (OA t)) (((hO1 t (by omega)).2 (by omega)).1) dX4_swap_25 ?_
    refine lv_istore_n hx hb dX4_swap_26 rfl hl (by decide) rfl (fun ls hl => ?_)
    replace hl : lv_has ls 5 [(3, .int (hc_b (OA t))), (2, .int (hc_b (SA t))), (1, .int (nI t)), (0, .ref y0)] := hl
    refine lv_aload_n hx hb dX4_swap_27 rfl (lv_at hl 3 rfl) ?_
    refine va_get (D := D) (ci := 4) (v := .ref y1) (C := RX4) (T := TX4) (N := 22) hx hb htg hi_X4 hown hK hP 0 rfl rfl 1 (by decide) (htg _ hm_497) (fun _ h9 => h9) rfl dX4_swap_28 ?_
    refine lv_iload_n hx hb dX4_swap_31 rfl (lv_at hl 2 rfl) ?_
    refine lv_aload_n hx hb dX4_swap_32 rfl (lv_at hl 3 rfl) ?_
    refine va_get (D := D) (ci := 4) (v := .ref y1) (C := RX4) (T := TX4) (N := 22) hx hb htg hi_X4 hown hK hP 0 rfl rfl 1 (by decide) (htg _ hm_497) (fun _ h9 => h9) rfl dX4_swap_33 ?_
    refine lv_bipush (v := nI 36) hx hb dX4_swap_36 (by decide) ?_
    refine lv_iload_n hx hb dX4_swap_38 rfl (lv_at hl 2 rfl) ?_
    refine hw_iadd hx hb dX4_swap_39 ?_
    refine hw_zald hx hb hK hP 1 1 rfl rfl (j := (36 + t)) (by omega) (by first | decide | omega) (v := hc_b (SA (36 + t))) (((hS1 t (by omega)).2 (by omega)).2) dX4_swap_40 ?_
    refine hw_zast hx hb hK hP hD hS 1 1 rfl rfl (j := t) (by omega) (by first | decide | omega) dX4_swap_41 (fun H locs hP hD hS => ?_)
    rw [hw_narb] at hP hD
    replace hP : va_P D vwCl [(y0, .inr (4, [.int (nI 0), .ref y1, .ref y2, .ref y3, .ref y4, .ref y5, .ref y6, .ref y7, .ref y8, .ref y9, .ref ya, .ref yb, .ref yc, .ref yd, .ref ye, .int md, .int o1, .int o2, .int mo, .ref yf, .ref yg, .ref yh])), (y1, .inl (cZ, 72, .inl (upd S1 t (hc_b (SA (36 + t)))))), (y2, .inl (cZ, 72, .inl O1)), (y3, .inl (cI, 2, .inl My)), (y4, .inl (cI, 10, .inl Fa)), (y5, .inl (cI, 10, .inl Ta)), (y6, .inl (cZ, 10, .inl La))] H := hP
    replace hD : va_D A [(y0, .inr (4, [.int (nI 0), .ref y1, .ref y2, .ref y3, .ref y4, .ref y5, .ref y6, .ref y7, .ref y8, .ref y9, .ref ya, .ref yb, .ref yc, .ref yd, .ref ye, .int md, .int o1, .int o2, .int mo, .ref yf, .ref yg, .ref yh])), (y1, .inl (cZ, 72, .inl (upd S1 t (hc_b (SA (36 + t)))))), (y2, .inl (cZ, 72, .inl O1)), (y3, .inl (cI, 2, .inl My)), (y4, .inl (cI, 10, .inl Fa)), (y5, .inl (cI, 10, .inl Ta)), (y6, .inl (cZ, 10, .inl La))] := hD
    refine lv_aload_n hx hb dX4_swap_42 rfl (lv_at hl 3 rfl) ?_
    refine va_get (D := D) (ci := 4) (v := .ref y2) (C := RX4) (T := TX4) (N := 22) hx hb htg hi_X4 hown hK hP 0 rfl rfl 2 (by decide) (htg _ hm_498) (fun _ h9 => h9) rfl dX4_swap_43 ?_
    refine lv_iload_n hx hb dX4_swap_46 rfl (lv_at hl 2 rfl) ?_
    refine lv_aload_n hx hb dX4_swap_47 rfl (lv_at hl 3 rfl) ?_
    refine va_get (D := D) (ci := 4) (v := .ref y2) (C := RX4) (T := TX4) (N := 22) hx hb htg hi_X4 hown hK hP 0 rfl rfl 2 (by decide) (htg _ hm_498) (fun _ h9 => h9) rfl dX4_swap_48 ?_
    refine lv_bipush (v := nI 36) hx hb dX4_swap_51 (by decide) ?_
    refine lv_iload_n hx hb dX4_swap_53 rfl (lv_at hl 2 rfl) ?_
    refine hw_iadd hx hb dX4_swap_54 ?_
    refine hw_zald hx hb hK hP 2 1 rfl rfl (j := (36 + t)) (by omega) (by first | decide | omega) (v := hc_b (OA (36 + t))) (((hO1 t (by omega)).2 (by omega)).2) dX4_swap_55 ?_
    refine hw_zast hx hb hK hP hD hS 2 1 rfl rfl (j := t) (by omega) (by first | decide | omega) dX4_swap_56 (fun H locs hP hD hS => ?_)
    rw [hw_narb] at hP hD
    replace hP : va_P D vwCl [(y0, .inr (4, [.int (nI 0), .ref y1, .ref y2, .ref y3, .ref y4, .ref y5, .ref y6, .ref y7, .ref y8, .ref y9, .ref ya, .ref yb, .ref yc, .ref yd, .ref ye, .int md, .int o1, .int o2, .int mo, .ref yf, .ref yg, .ref yh])), (y1, .inl (cZ, 72, .inl (upd S1 t (hc_b (SA (36 + t)))))), (y2, .inl (cZ, 72, .inl (upd O1 t (hc_b (OA (36 + t)))))), (y3, .inl (cI, 2, .inl My)), (y4, .inl (cI, 10, .inl Fa)), (y5, .inl (cI, 10, .inl Ta)), (y6, .inl (cZ, 10, .inl La))] H := hP
    replace hD : va_D A [(y0, .inr (4, [.int (nI 0), .ref y1, .ref y2, .ref y3, .ref y4, .ref y5, .ref y6, .ref y7, .ref y8, .ref y9, .ref ya, .ref yb, .ref yc, .ref yd, .ref ye, .int md, .int o1, .int o2, .int mo, .ref yf, .ref yg, .ref yh])), (y1, .inl (cZ, 72, .inl (upd S1 t (hc_b (SA (36 + t)))))), (y2, .inl (cZ, 72, .inl (upd O1 t (hc_b (OA (36 + t)))))), (y3, .inl (cI, 2, .inl My)), (y4, .inl (cI, 10, .inl Fa)), (y5, .inl (cI, 10, .inl Ta)), (y6, .inl (cZ, 10, .inl La))] := hD
    refine lv_aload_n hx hb dX4_swap_57 rfl (lv_at hl 3 rfl) ?_
    refine va_get (D := D) (ci := 4) (v := .ref y1) (C := RX4) (T := TX4) (N := 22) hx hb htg hi_X4 hown hK hP 0 rfl rfl 1 (by decide) (htg _ hm_497) (fun _ h9 => h9) rfl dX4_swap_58 ?_
    refine lv_bipush (v := nI 36) hx hb dX4_swap_61 (by decide) ?_
    refine lv_iload_n hx hb dX4_swap_63 rfl (lv_at hl 2 rfl) ?_
    refine hw_iadd hx hb dX4_swap_64 ?_
    refine lv_iload_n hx hb dX4_swap_65 rfl (lv_at hl 1 rfl) ?_
    refine hw_zast hx hb hK hP hD hS 1 1 rfl rfl (j := (36 + t)) (by omega) (by first | decide | omega) dX4_swap_66 (fun H locs hP hD hS => ?_)
    rw [hw_narb] at hP hD
    replace hP : va_P D vwCl [(y0, .inr (4, [.int (nI 0), .ref y1, .ref y2, .ref y3, .ref y4, .ref y5, .ref y6, .ref y7, .ref y8, .ref y9, .ref ya, .ref yb, .ref yc, .ref yd, .ref ye, .int md, .int o1, .int o2, .int mo, .ref yf, .ref yg, .ref yh])), (y1, .inl (cZ, 72, .inl (upd (upd S1 t (hc_b (SA (36 + t)))) (36 + t) (hc_b (SA t))))), (y2, .inl (cZ, 72, .inl (upd O1 t (hc_b (OA (36 + t)))))), (y3, .inl (cI, 2, .inl My)), (y4, .inl (cI, 10, .inl Fa)), (y5, .inl (cI, 10, .inl Ta)), (y6, .inl (cZ, 10, .inl La))] H := hP
    replace hD : va_D A [(y0, .inr (4, [.int (nI 0), .ref y1, .ref y2, .ref y3, .ref y4, .ref y5, .ref y6, .ref y7, .ref y8, .ref y9, .ref ya, .ref yb, .ref yc, .ref yd, .ref ye, .int md, .int o1, .int o2, .int mo, .ref yf, .ref yg, .ref yh])), (y1, .inl (cZ, 72, .inl (upd (upd S1 t (hc_b (SA (36 + t)))) (36 + t) (hc_b (SA t))))), (y2, .inl (cZ, 72, .inl (upd O1 t (hc_b (OA (36 + t)))))), (y3, .inl (cI, 2, .inl My)), (y4, .inl (cI, 10, .inl Fa)), (y5, .inl (cI, 10, .inl Ta)), (y6, .inl (cZ, 10, .inl La))] := hD
    refine lv_aload_n hx hb dX4_swap_67 rfl (lv_at hl 3 rfl) ?_
    refine va_get (D := D) (ci := 4) (v := .ref y2) (C := RX4) (T := TX4) (N := 22) hx hb htg hi_X4 hown hK hP 0 rfl rfl 2 (by decide) (htg _ hm_498) (fun _ h9 => h9) rfl dX4_swap_68 ?_
    refine lv_bipush (v := nI 36) hx hb dX4_swap_71 (by decide) ?_
    refine lv_iload_n hx hb dX4_swap_73 rfl (lv_at hl 2 rfl) ?_
    refine hw_iadd hx hb dX4_swap_74 ?_
    refine lv_iload_n hx hb dX4_swap_75 rfl (lv_at hl 0 rfl) ?_
    refine hw_zast hx hb hK hP hD hS 2 1 rfl rfl (j := (36 + t)) (by omega) (by first | decide | omega) dX4_swap_76 (fun H locs hP hD hS => ?_)
    rw [hw_narb] at hP hD
    replace hP : va_P D vwCl [(y0, .inr (4, [.int (nI 0), .ref y1, .ref y2, .ref y3, .ref y4, .ref y5, .ref y6, .ref y7, .ref y8, .ref y9, .ref ya, .ref yb, .ref yc, .ref yd, .ref ye, .int md, .int o1, .int o2, .int mo, .ref yf, .ref yg, .ref yh])), (y1, .inl (cZ, 72, .inl (upd (upd S1 t (hc_b (SA (36 + t)))) (36 + t) (hc_b (SA t))))), (y2, .inl (cZ, 72, .inl (upd (upd O1 t (hc_b (OA (36 + t)))) (36 + t) (hc_b (OA t))))), (y3, .inl (cI, 2, .inl My)), (y4, .inl (cI, 10, .inl Fa)), (y5, .inl (cI, 10, .inl Ta)), (y6, .inl (cZ, 10, .inl La))] H := hP
    replace hD : va_D A [(y0, .inr (4, [.int (nI 0), .ref y1, .ref y2, .ref y3, .ref y4, .ref y5, .ref y6, .ref y7, .ref y8, .ref y9, .ref ya, .ref yb, .ref yc, .ref yd, .ref ye, .int md, .int o1, .int o2, .int mo, .ref yf, .ref yg, .ref yh])), (y1, .inl (cZ, 72, .inl (upd (upd S1 t (hc_b (SA (36 + t)))) (36 + t) (hc_b (SA t))))), (y2, .inl (cZ, 72, .inl (upd (upd O1 t (hc_b (OA (36 + t)))) (36 + t) (hc_b (OA t))))), (y3, .inl (cI, 2, .inl My)), (y4, .inl (cI, 10, .inl Fa)), (y5, .inl (cI, 10, .inl Ta)), (y6, .inl (cZ, 10, .inl La))] := hD
    refine lv_iinc (v := nI (t + 1)) (k := 2) hx hb dX4_swap_77 hl rfl (hw_inc _) (by decide) rfl (fun ls hl => ?_)
    replace hl : lv_has ls 5 [(1, .int (nI (t + 1))), (3, .int (hc_b (OA t))), (2, .int (hc_b (SA t))), (0, .ref y0)] := hl
    refine lv_goto hx hb dX4_swap_80 rfl ?_
    replace hl : lv_has ls 5 [(1, .int (nI (t + 1))), (0, .ref y0)] := lv_sub hl [0, 3] rfl
    refine ih (hS := hS) (hl := hl) (hP := hP) (hD := hD) (hS1 := (fun k hk => ⟨fun h => by unfold upd; by_cases hkt : k = t; (rw [if_neg (by omega), if_pos hkt, if_pos (by omega), hkt]; exact ⟨rfl, rfl⟩); (rw [if_neg (by omega), if_neg hkt, if_neg (by omega), if_neg (by omega)]; exact (hS1 k hk).1 (by omega)), fun h => by unfold upd; rw [if_neg (by omega), if_neg (by omega), if_neg (by omega), if_neg (by omega)]; exact (hS1 k hk).2 (by omega)⟩)) (hO1 := (fun k hk => ⟨fun h => by unfold upd; by_cases hkt : k = t; (rw [if_neg (by omega), if_pos hkt, if_pos (by omega), hkt]; exact ⟨rfl, rfl⟩); (rw [if_neg (by omega), if_neg hkt, if_neg (by omega), if_neg (by omega)]; exact (hO1 k hk).1 (by omega)), fun h => by unfold upd; rw [if_neg (by omega), if_neg (by omega), if_neg (by omega), if_neg (by omega)]; exact (hO1 k hk).2 (by omega)⟩)) (ht := (by omega)) (hk := (by omega))
