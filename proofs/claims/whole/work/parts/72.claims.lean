set_option maxHeartbeats 4000000 in
set_option maxRecDepth 100000 in
/-- a number is wrong -/
theorem kx_X3_pair (l : Launch) (hst : l.stackTraces = false) (D : va_G) (cI cZ cJ : ClassId) (sa : Nat → Nat) (cx a b : Nat) (o : Bool) (x0 h hh w k0 : Nat) (hcx : cx < 2 ^ 32) (ha : a < 2 ^ 32) (hb9 : b < 2 ^ 32) (hbad : ¬ (cx < 2 ∧ a < 6 ∧ b < 6)) : hx_Met l yX3_pair (Cond.code yX3_pair cX3_pair 6 none :: hwG) { frames := 7, cells := 1, slots := 6, locals := 103 } (hp_X [.ref x0, .int (nI cx), .int (nI a), .int (nI b), .int (hc_b o)] D cI cZ cJ [(x0, .inr (3, [.ref h, .ref hh, .ref w, .ref k0]))] sa) hxI := by
  refine hx_ofW (cc := cX3_pair) (maxL := 6) (ret := none) (by decide) rfl ?_
  intro p e s m args below meth c s₁ B hml hout hv
  obtain ⟨rfl, hP, hz, hE⟩ := hv
  have hx := B.exec
  have hb := B.bytes
  have hts := atoms_spec (ws := (Cond.code yX3_pair cX3_pair 6 none :: hwG)) B.pre
  have htg := fun w h => hts w (List.mem_cons_of_mem _ h)
  have hown : s.vm.findClass RX3 = some m.cls := findClass_of_methodNamed B.named
  have hlocks := B.notSynchronized
  have hK := hz.1
  have hl := lv_entry ([.ref x0, .int (nI cx), .int (nI a), .int (nI b), .int (hc_b o)]) (n := 6) (Nat.le_of_ble_eq_true rfl)
  rw [lg_entry_eq]
  generalize (lg_sl ([.ref x0, .int (nI cx), .int (nI a), .int (nI b), .int (hc_b o)]) ++ List.replicate (6 - (lg_sl ([.ref x0, .int (nI cx), .int (nI a), .int (nI b), .int (hc_b o)])).length) Slot.unset).toArray = ls at hl ⊢
  replace hl : lv_has ls 6 [(0, .ref x0), (1, .int (nI cx)), (2, .int (nI a)), (3, .int (nI b)), (4, .int (hc_b o))] := hl
  refine lv_aload_n hx hb dX3_pair_0 rfl (lv_at hl 0 rfl) ?_
  refine lv_iload_n hx hb dX3_pair_1 rfl (lv_at hl 1 rfl) ?_
  by_cases hk0 : cx < 2
  · rcases (by omega : cx = 0 ∨ cx = 1) with rfl | rfl
    · refine hw_csr (va_runV (C := RX3) (b := x0) (As := [.int (nI 0)]) (rest := []) ⟨hx, hb, hml, hown, htg⟩ (k_X3_claimAt0 l D cI cZ cJ x0 h hh w k0) (cwV 1 htg (hg_V hm_217 hm_219 hs_yX3_claimAt hm_1 hm_220) rfl rfl rfl (by decide +kernel) ⟨Nat.le_of_ble_eq_true rfl, Nat.le_of_ble_eq_true rfl⟩) ⟨hp_R_blind, va_recv (q := (RX3, TX3, 4)) (q0 := 0) (ci := 3) hK hP rfl rfl, hp_R_pre (hP.sub (ws' := [(x0, .inr (3, [.ref h, .ref hh, .ref w, .ref k0]))]) [0] rfl) hz⟩ rfl rfl hl.1 rfl (lv_room (Nat.le_of_ble_eq_true rfl)) dX3_pair_2 ⟨Nat.zero_le _, Nat.zero_le _⟩) (fun r _h => ?_)
      refine lv_astore hx hb dX3_pair_5 hl (by decide) rfl (fun ls hl => ?_)
      replace hl : lv_has ls 6 [(5, .ref h), (0, .ref x0), (1, .int (nI 0)), (2, .int (nI a)), (3, .int (nI b)), (4, .int (hc_b o))] := hl
      refine lv_aload_n hx hb dX3_pair_7 rfl (lv_at hl 1 rfl) ?_
      refine lv_iload_n hx hb dX3_pair_8 rfl (lv_at hl 3 rfl) ?_
      by_cases hk1 : a < 6
      · refine hw_csv (va_runV (C := RX3) (b := x0) (As := [.int (nI a)]) (rest := []) ⟨hx, hb, hml, hown, htg⟩ (k_X3_checkTerm l D cI cZ cJ a x0 h hh w k0 (by omega)) (cwV 1 htg (hg_V hm_290 hm_292 hs_yX3_checkTerm hm_1 hm_293) rfl rfl rfl (by decide +kernel) ⟨Nat.le_of_ble_eq_true rfl, Nat.le_of_ble_eq_true rfl⟩) ⟨hp_R_blind, va_recv (q := (RX3, TX3, 4)) (q0 := 0) (ci := 3) hK hP rfl rfl, hp_R_pre (hP.sub (ws' := [(x0, .inr (3, [.ref h, .ref hh, .ref w, .ref k0]))]) [0] rfl) hz⟩ rfl rfl hl.1 rfl (lv_room (Nat.le_of_ble_eq_true rfl)) dX3_pair_9 ⟨Nat.zero_le _, Nat.zero_le _⟩) (fun _h => ?_)
        refine lv_aload_n hx hb dX3_pair_12 rfl (lv_at hl 1 rfl) ?_
        refine lv_iload_n hx hb dX3_pair_13 rfl (lv_at hl 4 rfl) ?_
        by_cases hk2 : b < 6
        · refine hw_csv (va_runV (C := RX3) (b := x0) (As := [.int (nI b)]) (rest := []) ⟨hx, hb, hml, hown, htg⟩ (k_X3_checkTerm l D cI cZ cJ b x0 h hh w k0 (by omega)) (cwV 1 htg (hg_V hm_290 hm_292 hs_yX3_checkTerm hm_1 hm_293) rfl rfl rfl (by decide +kernel) ⟨Nat.le_of_ble_eq_true rfl, Nat.le_of_ble_eq_true rfl⟩) ⟨hp_R_blind, va_recv (q := (RX3, TX3, 4)) (q0 := 0) (ci := 3) hK hP rfl rfl, hp_R_pre (hP.sub (ws' := [(x0, .inr (3, [.ref h, .ref hh, .ref w, .ref k0]))]) [0] rfl) hz⟩ rfl rfl hl.1 rfl (lv_room (Nat.le_of_ble_eq_true rfl)) dX3_pair_14 ⟨Nat.zero_le _, Nat.zero_le _⟩) (fun _h => ?_)
          exact absurd ⟨hk0, hk1, hk2⟩ hbad
        · exact hx_out (hx_runV (C := RX3) (b := x0) (As := [.int (nI b)]) (rest := []) ⟨hx, hb, hml, hown, htg⟩ (kx_X3_checkTerm l hst D cI cZ cJ sa b x0 h hh w k0 (by omega) hk2) (cwV 1 htg (hg_V hm_290 hm_292 hs_yX3_checkTerm hm_1 hm_293) rfl rfl rfl (by decide +kernel) ⟨Nat.le_of_ble_eq_true rfl, Nat.le_of_ble_eq_true rfl⟩) ⟨hp_X_blind, va_recv (q := (RX3, TX3, 4)) (q0 := 0) (ci := 3) hK hP rfl rfl, hp_X_pre (hP.sub (ws' := [(x0, .inr (3, [.ref h, .ref hh, .ref w, .ref k0]))]) [0] rfl) hz hE⟩ rfl rfl hl.1 rfl (lv_room (Nat.le_of_ble_eq_true rfl)) dX3_pair_14 ⟨Nat.le_of_ble_eq_true rfl, Nat.le_of_ble_eq_true rfl⟩) hout hlocks
      · exact hx_out (hx_runV (C := RX3) (b := x0) (As := [.int (nI a)]) (rest := []) ⟨hx, hb, hml, hown, htg⟩ (kx_X3_checkTerm l hst D cI cZ cJ sa a x0 h hh w k0 (by omega) hk1) (cwV 1 htg (hg_V hm_290 hm_292 hs_yX3_checkTerm hm_1 hm_293) rfl rfl rfl (by decide +kernel) ⟨Nat.le_of_ble_eq_true rfl, Nat.le_of_ble_eq_true rfl⟩) ⟨hp_X_blind, va_recv (q := (RX3, TX3, 4)) (q0 := 0) (ci := 3) hK hP rfl rfl, hp_X_pre (hP.sub (ws' := [(x0, .inr (3, [.ref h, .ref hh, .ref w, .ref k0]))]) [0] rfl) hz hE⟩ rfl rfl hl.1 rfl (lv_room (Nat.le_of_ble_eq_true rfl)) dX3_pair_9 ⟨Nat.le_of_ble_eq_true rfl, Nat.le_of_ble_eq_true rfl⟩) hout hlocks
    · refine hw_csr (va_runV (C := RX3) (b := x0) (As := [.int (nI 1)]) (rest := []) ⟨hx, hb, hml, hown, htg⟩ (k_X3_claimAt1 l D cI cZ cJ x0 h hh w k0) (cwV 1 htg (hg_V hm_217 hm_219 hs_yX3_claimAt hm_1 hm_220) rfl rfl rfl (by decide +kernel) ⟨Nat.le_of_ble_eq_true rfl, Nat.le_of_ble_eq_true rfl⟩) ⟨hp_R_blind, va_recv (q := (RX3, TX3, 4)) (q0 := 0) (ci := 3) hK hP rfl rfl, hp_R_pre (hP.sub (ws' := [(x0, .inr (3, [.ref h, .ref hh, .ref w, .ref k0]))]) [0] rfl) hz⟩ rfl rfl hl.1 rfl (lv_room (Nat.le_of_ble_eq_true rfl)) dX3_pair_2 ⟨Nat.zero_le _, Nat.zero_le _⟩) (fun r _h => ?_)
      refine lv_astore hx hb dX3_pair_5 hl (by decide) rfl (fun ls hl => ?_)
      replace hl : lv_has ls 6 [(5, .ref hh), (0, .ref x0), (1, .int (nI 1)), (2, .int (nI a)), (3, .int (nI b)), (4, .int (hc_b o))] := hl
      refine lv_aload_n hx hb dX3_pair_7 rfl (lv_at hl 1 rfl) ?_
      refine lv_iload_n hx hb dX3_pair_8 rfl (lv_at hl 3 rfl) ?_
      by_cases hk1 : a < 6
      · refine hw_csv (va_runV (C := RX3) (b := x0) (As := [.int (nI a)]) (rest := []) ⟨hx, hb, hml, hown, htg⟩ (k_X3_checkTerm l D cI cZ cJ a x0 h hh w k0 (by omega)) (cwV 1 htg (hg_V hm_290 hm_292 hs_yX3_checkTerm hm_1 hm_293) rfl rfl rfl (by decide +kernel) ⟨Nat.le_of_ble_eq_true rfl, Nat.le_of_ble_eq_true rfl⟩) ⟨hp_R_blind, va_recv (q := (RX3, TX3, 4)) (q0 := 0) (ci := 3) hK hP rfl rfl, hp_R_pre (hP.sub (ws' := [(x0, .inr (3, [.ref h, .ref hh, .ref w, .ref k0]))]) [0] rfl) hz⟩ rfl rfl hl.1 rfl (lv_room (Nat.le_of_ble_eq_true rfl)) dX3_pair_9 ⟨Nat.zero_le _, Nat.zero_le _⟩) (fun _h => ?_)
        refine lv_aload_n hx hb dX3_pair_12 rfl (lv_at hl 1 rfl) ?_
        refine lv_iload_n hx hb dX3_pair_13 rfl (lv_at hl 4 rfl) ?_
        by_cases hk2 : b < 6
        · refine hw_csv (va_runV (C := RX3) (b := x0) (As := [.int (nI b)]) (rest := []) ⟨hx, hb, hml, hown, htg⟩ (k_X3_checkTerm l D cI cZ cJ b x0 h hh w k0 (by omega)) (cwV 1 htg (hg_V hm_290 hm_292 hs_yX3_checkTerm hm_1 hm_293) rfl rfl rfl (by decide +kernel) ⟨Nat.le_of_ble_eq_true rfl, Nat.le_of_ble_eq_true rfl⟩) ⟨hp_R_blind, va_recv (q := (RX3, TX3, 4)) (q0 := 0) (ci := 3) hK hP rfl rfl, hp_R_pre (hP.sub (ws' := [(x0, .inr (3, [.ref h, .ref hh, .ref w, .ref k0]))]) [0] rfl) hz⟩ rfl rfl hl.1 rfl (lv_room (Nat.le_of_ble_eq_true rfl)) dX3_pair_14 ⟨Nat.zero_le _, Nat.zero_le _⟩) (fun _h => ?_)
          exact absurd ⟨hk0, hk1, hk2⟩ hbad
        · exact hx_out (hx_runV (C := RX3) (b := x0) (As := [.int (nI b)]) (rest := []) ⟨hx, hb, hml, hown, htg⟩ (kx_X3_checkTerm l hst D cI cZ cJ sa b x0 h hh w k0 (by omega) hk2) (cwV 1 htg (hg_V hm_290 hm_292 hs_yX3_checkTerm hm_1 hm_293) rfl rfl rfl (by decide +kernel) ⟨Nat.le_of_ble_eq_true rfl, Nat.le_of_ble_eq_true rfl⟩) ⟨hp_X_blind, va_recv (q := (RX3, TX3, 4)) (q0 := 0) (ci := 3) hK hP rfl rfl, hp_X_pre (hP.sub (ws' := [(x0, .inr (3, [.ref h, .ref hh, .ref w, .ref k0]))]) [0] rfl) hz hE⟩ rfl rfl hl.1 rfl (lv_room (Nat.le_of_ble_eq_true rfl)) dX3_pair_14 ⟨Nat.le_of_ble_eq_true rfl, Nat.le_of_ble_eq_true rfl⟩) hout hlocks
      · exact hx_out (hx_runV (C := RX3) (b := x0) (As := [.int (nI a)]) (rest := []) ⟨hx, hb, hml, hown, htg⟩ (kx_X3_checkTerm l hst D cI cZ cJ sa a x0 h hh w k0 (by omega) hk1) (cwV 1 htg (hg_V hm_290 hm_292 hs_yX3_checkTerm hm_1 hm_293) rfl rfl rfl (by decide +kernel) ⟨Nat.le_of_ble_eq_true rfl, Nat.le_of_ble_eq_true rfl⟩) ⟨hp_X_blind, va_recv (q := (RX3, TX3, 4)) (q0 := 0) (ci := 3) hK hP rfl rfl, hp_X_pre (hP.sub (ws' := [(x0, .inr (3, [.ref h, .ref hh, .ref w, .ref k0]))]) [0] rfl) hz hE⟩ rfl rfl hl.1 rfl (lv_room (Nat.le_of_ble_eq_true rfl)) dX3_pair_9 ⟨Nat.le_of_ble_eq_true rfl, Nat.le_of_ble_eq_true rfl⟩) hout hlocks
  · exact hx_out (hx_runV (C := RX3) (b := x0) (As := [.int (nI cx)]) (rest := []) ⟨hx, hb, hml, hown, htg⟩ (kx_X3_claimAt l hst D cI cZ cJ sa cx x0 h hh w k0 (by omega) hk0) (cwV 1 htg (hg_V hm_217 hm_219 hs_yX3_claimAt hm_1 hm_220) rfl rfl rfl (by decide +kernel) ⟨Nat.le_of_ble_eq_true rfl, Nat.le_of_ble_eq_true rfl⟩) ⟨hp_X_blind, va_recv (q := (RX3, TX3, 4)) (q0 := 0) (ci := 3) hK hP rfl rfl, hp_X_pre (hP.sub (ws' := [(x0, .inr (3, [.ref h, .ref hh, .ref w, .ref k0]))]) [0] rfl) hz hE⟩ rfl rfl hl.1 rfl (lv_room (Nat.le_of_ble_eq_true rfl)) dX3_pair_2 ⟨Nat.le_of_ble_eq_true rfl, Nat.le_of_ble_eq_true rfl⟩) hout hlocks

set_option maxHeartbeats 4000000 in
set_option maxRecDepth 100000 in
/-- a number is wrong -/
theorem kx_X3_piece (l : Launch) (hst : l.stackTraces = false) (D : va_G) (cI cZ cJ : ClassId) (sa : Nat → Nat) (cx a b : Nat) (o : Bool) (x0 h hh w k0 : Nat) (hcx : cx < 2 ^ 32) (ha : a < 2 ^ 32) (hb9 : b < 2 ^ 32) (hbad : ¬ (cx < 2 ∧ a < 6 ∧ b < 6)) : hx_Met l yX3_piece (Cond.code yX3_piece cX3_piece 6 (some .int) :: hwG) { frames := 7, cells := 1, slots := 6, locals := 103 } (hp_X [.ref x0, .int (nI cx), .int (nI a), .int (nI b), .int (hc_b o)] D cI cZ cJ [(x0, .inr (3, [.ref h, .ref hh, .ref w, .ref k0]))] sa) hxI := by
  refine hx_ofW (cc := cX3_piece) (maxL := 6) (ret := (some .int)) (by decide) rfl ?_
  intro p e s m args below meth c s₁ B hml hout hv
  obtain ⟨rfl, hP, hz, hE⟩ := hv
  have hx := B.exec
  have hb := B.bytes
  have hts := atoms_spec (ws := (Cond.code yX3_piece cX3_piece 6 (some .int) :: hwG)) B.pre
  have htg := fun w h => hts w (List.mem_cons_of_mem _ h)
  have hown : s.vm.findClass RX3 = some m.cls := findClass_of_methodNamed B.named
  have hlocks := B.notSynchronized
  have hK := hz.1
  have hl := lv_entry ([.ref x0, .int (nI cx), .int (nI a), .int (nI b), .int (hc_b o)]) (n := 6) (Nat.le_of_ble_eq_true rfl)
  rw [lg_entry_eq]
  generalize (lg_sl ([.ref x0, .int (nI cx), .int (nI a), .int (nI b), .int (hc_b o)]) ++ List.replicate (6 - (lg_sl ([.ref x0, .int (nI cx), .int (nI a), .int (nI b), .int (hc_b o)])).length) Slot.unset).toArray = ls at hl ⊢
  replace hl : lv_has ls 6 [(0, .ref x0), (1, .int (nI cx)), (2, .int (nI a)), (3, .int (nI b)), (4, .int (hc_b o))] := hl
  refine lv_aload_n hx hb dX3_piece_0 rfl (lv_at hl 0 rfl) ?_
  refine lv_iload_n hx hb dX3_piece_1 rfl (lv_at hl 1 rfl) ?_
  by_cases hk0 : cx < 2
  · rcases (by omega : cx = 0 ∨ cx = 1) with rfl | rfl
    · refine hw_csr (va_runV (C := RX3) (b := x0) (As := [.int (nI 0)]) (rest := []) ⟨hx, hb, hml, hown, htg⟩ (k_X3_claimAt0 l D cI cZ cJ x0 h hh w k0) (cwV 1 htg (hg_V hm_217 hm_219 hs_yX3_claimAt hm_1 hm_220) rfl rfl rfl (by decide +kernel) ⟨Nat.le_of_ble_eq_true rfl, Nat.le_of_ble_eq_true rfl⟩) ⟨hp_R_blind, va_recv (q := (RX3, TX3, 4)) (q0 := 0) (ci := 3) hK hP rfl rfl, hp_R_pre (hP.sub (ws' := [(x0, .inr (3, [.ref h, .ref hh, .ref w, .ref k0]))]) [0] rfl) hz⟩ rfl rfl hl.1 rfl (lv_room (Nat.le_of_ble_eq_true rfl)) dX3_piece_2 ⟨Nat.zero_le _, Nat.zero_le _⟩) (fun r _h => ?_)
      refine lv_astore hx hb dX3_piece_5 hl (by decide) rfl (fun ls hl => ?_)
      replace hl : lv_has ls 6 [(5, .ref h), (0, .ref x0), (1, .int (nI 0)), (2, .int (nI a)), (3, .int (nI b)), (4, .int (hc_b o))] := hl
      refine lv_aload_n hx hb dX3_piece_7 rfl (lv_at hl 1 rfl) ?_
      refine lv_iload_n hx hb dX3_piece_8 rfl (lv_at hl 3 rfl) ?_
      by_cases hk1 : a < 6
      · refine hw_csv (va_runV (C := RX3) (b := x0) (As := [.int (nI a)]) (rest := []) ⟨hx, hb, hml, hown, htg⟩ (k_X3_checkTerm l D cI cZ cJ a x0 h hh w k0 (by omega)) (cwV 1 htg (hg_V hm_290 hm_292 hs_yX3_checkTerm hm_1 hm_293) rfl rfl rfl (by decide +kernel) ⟨Nat.le_of_ble_eq_true rfl, Nat.le_of_ble_eq_true rfl⟩) ⟨hp_R_blind, va_recv (q := (RX3, TX3, 4)) (q0 := 0) (ci := 3) hK hP rfl rfl, hp_R_pre (hP.sub (ws' := [(x0, .inr (3, [.ref h, .ref hh, .ref w, .ref k0]))]) [0] rfl) hz⟩ rfl rfl hl.1 rfl (lv_room (Nat.le_of_ble_eq_true rfl)) dX3_piece_9 ⟨Nat.zero_le _, Nat.zero_le _⟩) (fun _h => ?_)
        refine lv_aload_n hx hb dX3_piece_12 rfl (lv_at hl 1 rfl) ?_
        refine lv_iload_n hx hb dX3_piece_13 rfl (lv_at hl 4 rfl) ?_
        by_cases hk2 : b < 6
        · refine hw_csv (va_runV (C := RX3) (b := x0) (As := [.int (nI b)]) (rest := []) ⟨hx, hb, hml, hown, htg⟩ (k_X3_checkTerm l D cI cZ cJ b x0 h hh w k0 (by omega)) (cwV 1 htg (hg_V hm_290 hm_292 hs_yX3_checkTerm hm_1 hm_293) rfl rfl rfl (by decide +kernel) ⟨Nat.le_of_ble_eq_true rfl, Nat.le_of_ble_eq_true rfl⟩) ⟨hp_R_blind, va_recv (q := (RX3, TX3, 4)) (q0 := 0) (ci := 3) hK hP rfl rfl, hp_R_pre (hP.sub (ws' := [(x0, .inr (3, [.ref h, .ref hh, .ref w, .ref k0]))]) [0] rfl) hz⟩ rfl rfl hl.1 rfl (lv_room (Nat.le_of_ble_eq_true rfl)) dX3_piece_14 ⟨Nat.zero_le _, Nat.zero_le _⟩) (fun _h => ?_)
          exact absurd ⟨hk0, hk1, hk2⟩ hbad
        · exact hx_out (hx_runV (C := RX3) (b := x0) (As := [.int (nI b)]) (rest := []) ⟨hx, hb, hml, hown, htg⟩ (kx_X3_checkTerm l hst D cI cZ cJ sa b x0 h hh w k0 (by omega) hk2) (cwV 1 htg (hg_V hm_290 hm_292 hs_yX3_checkTerm hm_1 hm_293) rfl rfl rfl (by decide +kernel) ⟨Nat.le_of_ble_eq_true rfl, Nat.le_of_ble_eq_true rfl⟩) ⟨hp_X_blind, va_recv (q := (RX3, TX3, 4)) (q0 := 0) (ci := 3) hK hP rfl rfl, hp_X_pre (hP.sub (ws' := [(x0, .inr (3, [.ref h, .ref hh, .ref w, .ref k0]))]) [0] rfl) hz hE⟩ rfl rfl hl.1 rfl (lv_room (Nat.le_of_ble_eq_true rfl)) dX3_piece_14 ⟨Nat.le_of_ble_eq_true rfl, Nat.le_of_ble_eq_true rfl⟩) hout hlocks
      · exact hx_out (hx_runV (C := RX3) (b := x0) (As := [.int (nI a)]) (rest := []) ⟨hx, hb, hml, hown, htg⟩ (kx_X3_checkTerm l hst D cI cZ cJ sa a x0 h hh w k0 (by omega) hk1) (cwV 1 htg (hg_V hm_290 hm_292 hs_yX3_checkTerm hm_1 hm_293) rfl rfl rfl (by decide +kernel) ⟨Nat.le_of_ble_eq_true rfl, Nat.le_of_ble_eq_true rfl⟩) ⟨hp_X_blind, va_recv (q := (RX3, TX3, 4)) (q0 := 0) (ci := 3) hK hP rfl rfl, hp_X_pre (hP.sub (ws' := [(x0, .inr (3, [.ref h, .ref hh, .ref w, .ref k0]))]) [0] rfl) hz hE⟩ rfl rfl hl.1 rfl (lv_room (Nat.le_of_ble_eq_true rfl)) dX3_piece_9 ⟨Nat.le_of_ble_eq_true rfl, Nat.le_of_ble_eq_true rfl⟩) hout hlocks
    · refine hw_csr (va_runV (C := RX3) (b := x0) (As := [.int (nI 1)]) (rest := []) ⟨hx, hb, hml, hown, htg⟩ (k_X3_claimAt1 l D cI cZ cJ x0 h hh w k0) (cwV 1 htg (hg_V hm_217 hm_219 hs_yX3_claimAt hm_1 hm_220) rfl rfl rfl (by decide +kernel) ⟨Nat.le_of_ble_eq_true rfl, Nat.le_of_ble_eq_true rfl⟩) ⟨hp_R_blind, va_recv (q := (RX3, TX3, 4)) (q0 := 0) (ci := 3) hK hP rfl rfl, hp_R_pre (hP.sub (ws' := [(x0, .inr (3, [.ref h, .ref hh, .ref w, .ref k0]))]) [0] rfl) hz⟩ rfl rfl hl.1 rfl (lv_room (Nat.le_of_ble_eq_true rfl)) dX3_piece_2 ⟨Nat.zero_le _, Nat.zero_le _⟩) (fun r _h => ?_)
      refine lv_astore hx hb dX3_piece_5 hl (by decide) rfl (fun ls hl => ?_)
      replace hl : lv_has ls 6 [(5, .ref hh), (0, .ref x0), (1, .int (nI 1)), (2, .int (nI a)), (3, .int (nI b)), (4, .int (hc_b o))] := hl
      refine lv_aload_n hx hb dX3_piece_7 rfl (lv_at hl 1 rfl) ?_
      refine lv_iload_n hx hb dX3_piece_8 rfl (lv_at hl 3 rfl) ?_
      by_cases hk1 : a < 6
      · refine hw_csv (va_runV (C := RX3) (b := x0) (As := [.int (nI a)]) (rest := []) ⟨hx, hb, hml, hown, htg⟩ (k_X3_checkTerm l D cI cZ cJ a x0 h hh w k0 (by omega)) (cwV 1 htg (hg_V hm_290 hm_292 hs_yX3_checkTerm hm_1 hm_293) rfl rfl rfl (by decide +kernel) ⟨Nat.le_of_ble_eq_true rfl, Nat.le_of_ble_eq_true rfl⟩) ⟨hp_R_blind, va_recv (q := (RX3, TX3, 4)) (q0 := 0) (ci := 3) hK hP rfl rfl, hp_R_pre (hP.sub (ws' := [(x0, .inr (3, [.ref h, .ref hh, .ref w, .ref k0]))]) [0] rfl) hz⟩ rfl rfl hl.1 rfl (lv_room (Nat.le_of_ble_eq_true rfl)) dX3_piece_9 ⟨Nat.zero_le _, Nat.zero_le _⟩) (fun _h => ?_)
        refine lv_aload_n hx hb dX3_piece_12 rfl (lv_at hl 1 rfl) ?_
        refine lv_iload_n hx hb dX3_piece_13 rfl (lv_at hl 4 rfl) ?_
        by_cases hk2 : b < 6
        · refine hw_csv (va_runV (C := RX3) (b := x0) (As := [.int (nI b)]) (rest := []) ⟨hx, hb, hml, hown, htg⟩ (k_X3_checkTerm l D cI cZ cJ b x0 h hh w k0 (by omega)) (cwV 1 htg (hg_V hm_290 hm_292 hs_yX3_checkTerm hm_1 hm_293) rfl rfl rfl (by decide +kernel) ⟨Nat.le_of_ble_eq_true rfl, Nat.le_of_ble_eq_true rfl⟩) ⟨hp_R_blind, va_recv (q := (RX3, TX3, 4)) (q0 := 0) (ci := 3) hK hP rfl rfl, hp_R_pre (hP.sub (ws' := [(x0, .inr (3, [.ref h, .ref hh, .ref w, .ref k0]))]) [0] rfl) hz⟩ rfl rfl hl.1 rfl (lv_room (Nat.le_of_ble_eq_true rfl)) dX3_piece_14 ⟨Nat.zero_le _, Nat.zero_le _⟩) (fun _h => ?_)
          exact absurd ⟨hk0, hk1, hk2⟩ hbad
        · exact hx_out (hx_runV (C := RX3) (b := x0) (As := [.int (nI b)]) (rest := []) ⟨hx, hb, hml, hown, htg⟩ (kx_X3_checkTerm l hst D cI cZ cJ sa b x0 h hh w k0 (by omega) hk2) (cwV 1 htg (hg_V hm_290 hm_292 hs_yX3_checkTerm hm_1 hm_293) rfl rfl rfl (by decide +kernel) ⟨Nat.le_of_ble_eq_true rfl, Nat.le_of_ble_eq_true rfl⟩) ⟨hp_X_blind, va_recv (q := (RX3, TX3, 4)) (q0 := 0) (ci := 3) hK hP rfl rfl, hp_X_pre (hP.sub (ws' := [(x0, .inr (3, [.ref h, .ref hh, .ref w, .ref k0]))]) [0] rfl) hz hE⟩ rfl rfl hl.1 rfl (lv_room (Nat.le_of_ble_eq_true rfl)) dX3_piece_14 ⟨Nat.le_of_ble_eq_true rfl, Nat.le_of_ble_eq_true rfl⟩) hout hlocks
      · exact hx_out (hx_runV (C := RX3) (b := x0) (As := [.int (nI a)]) (rest := []) ⟨hx, hb, hml, hown, htg⟩ (kx_X3_checkTerm l hst D cI cZ cJ sa a x0 h hh w k0 (by omega) hk1) (cwV 1 htg (hg_V hm_290 hm_292 hs_yX3_checkTerm hm_1 hm_293) rfl rfl rfl (by decide +kernel) ⟨Nat.le_of_ble_eq_true rfl, Nat.le_of_ble_eq_true rfl⟩) ⟨hp_X_blind, va_recv (q := (RX3, TX3, 4)) (q0 := 0) (ci := 3) hK hP rfl rfl, hp_X_pre (hP.sub (ws' := [(x0, .inr (3, [.ref h, .ref hh, .ref w, .ref k0]))]) [0] rfl) hz hE⟩ rfl rfl hl.1 rfl (lv_room (Nat.le_of_ble_eq_true rfl)) dX3_piece_9 ⟨Nat.le_of_ble_eq_true rfl, Nat.le_of_ble_eq_true rfl⟩) hout hlocks
  · exact hx_out (hx_runV (C := RX3) (b := x0) (As := [.int (nI cx)]) (rest := []) ⟨hx, hb, hml, hown, htg⟩ (kx_X3_claimAt l hst D cI cZ cJ sa cx x0 h hh w k0 (by omega) hk0) (cwV 1 htg (hg_V hm_217 hm_219 hs_yX3_claimAt hm_1 hm_220) rfl rfl rfl (by decide +kernel) ⟨Nat.le_of_ble_eq_true rfl, Nat.le_of_ble_eq_true rfl⟩) ⟨hp_X_blind, va_recv (q := (RX3, TX3, 4)) (q0 := 0) (ci := 3) hK hP rfl rfl, hp_X_pre (hP.sub (ws' := [(x0, .inr (3, [.ref h, .ref hh, .ref w, .ref k0]))]) [0] rfl) hz hE⟩ rfl rfl hl.1 rfl (lv_room (Nat.le_of_ble_eq_true rfl)) dX3_piece_2 ⟨Nat.le_of_ble_eq_true rfl, Nat.le_of_ble_eq_true rfl⟩) hout hlocks

set_option maxHeartbeats 4000000 in
set_option maxRecDepth 100000 in
/-- pair -/
theorem k_X3_pair0 (l : Launch) (D : va_G) (cI cZ cJ : ClassId) (sz : Nat) (a b : Nat) (o : Bool) (n : Nat) (S O : Nat → Int32) (nm : Int32) (h a1 a2 a3 a4 a5 : Nat) (x0 hh w k0 : Nat) (ha : a < 6) (hb6 : b < 6) : Met l yX3_pair (Cond.code yX3_pair cX3_pair 6 none :: hwG) { frames := 1, cells := 0, slots := 0, locals := 23 } (hp_M [.ref x0, .int (nI 0), .int (nI a), .int (nI b), .int (hc_b o)] D cI cZ cJ [(x0, .inr (3, [.ref h, .ref hh, .ref w, .ref k0])), (h, .inr (1, [.ref a1, .ref a2, .ref a3, .ref a4, .ref a5, .int (nI n), .int nm])), (a1, .inl (cI, 6, .inl S)), (a2, .inl (cI, 6, .inl O))] sz) (va_Qv (S := (Nat → Int32) × (Nat → Int32) × Int32) (fun u => u.1 = (bif o then S else upd S a (S a ||| (nI 1 <<< (nI b &&& 31)))) ∧ u.2.1 = (bif o then upd O a (O a ||| (nI 1 <<< (nI b &&& 31))) else O) ∧ u.2.2 = nm ||| ((nI 1 <<< (nI a &&& 31)) ||| (nI 1 <<< (nI b &&& 31)))) (fun u t => va_P D vwCl (((x0, .inr (3, [.ref h, .ref hh, .ref w, .ref k0]))) :: [(h, .inr (1, [.ref a1, .ref a2, .ref a3, .ref a4, .ref a5, .int (nI n), .int u.2.2])), (a1, .inl (cI, 6, .inl u.1)), (a2, .inl (cI, 6, .inl u.2.1))]) t.heap) (va_A [(x0, .inr (3, [.ref h, .ref hh, .ref w, .ref k0])), (h, .inr (1, [.ref a1, .ref a2, .ref a3, .ref a4, .ref a5, .int (nI n), .int nm])), (a1, .inl (cI, 6, .inl S)), (a2, .inl (cI, 6, .inl O))] sz)) 0 0 (va_A [(x0, .inr (3, [.ref h, .ref hh, .ref w, .ref k0])), (h, .inr (1, [.ref a1, .ref a2, .ref a3, .ref a4, .ref a5, .int (nI n), .int nm])), (a1, .inl (cI, 6, .inl S)), (a2, .inl (cI, 6, .inl O))] sz) := by
  refine Met.ofW (cc := cX3_pair) (maxL := 6) (ret := none) (by decide) rfl ?_
  intro p e s m args below meth c s₁ B hml hv
  obtain ⟨rfl, hsz, hP, hz, hD0⟩ := hv
  have hx := B.exec
  have hb := B.bytes
  have hr := B.returns
  have hts := atoms_spec (ws := (Cond.code yX3_pair cX3_pair 6 none :: hwG)) B.pre
  have htg := fun w h => hts w (List.mem_cons_of_mem _ h)
  have hown : s.vm.findClass RX3 = some m.cls := findClass_of_methodNamed B.named
  have hlocks := B.notSynchronized
  have hK := hz.1
  subst hsz
  have hD := hD0.self (sz := s.heap.size)
  generalize hAe : va_A [(x0, .inr (3, [.ref h, .ref hh, .ref w, .ref k0])), (h, .inr (1, [.ref a1, .ref a2, .ref a3, .ref a4, .ref a5, .int (nI n), .int nm])), (a1, .inl (cI, 6, .inl S)), (a2, .inl (cI, 6, .inl O))] s.heap.size = A at hD ⊢
  have hA : ∀ q : Nat, s.heap.size ≤ q → A q := fun q h => by rw [← hAe]; exact Or.inr h
  have hS : va_S A s.heap s.heap [] := va_S.rf
  have hl := lv_entry ([.ref x0, .int (nI 0), .int (nI a), .int (nI b), .int (hc_b o)]) (n := 6) (Nat.le_of_ble_eq_true rfl)
  rw [lg_entry_eq]
  generalize (lg_sl ([.ref x0, .int (nI 0), .int (nI a), .int (nI b), .int (hc_b o)]) ++ List.replicate (6 - (lg_sl ([.ref x0, .int (nI 0), .int (nI a), .int (nI b), .int (hc_b o)])).length) Slot.unset).toArray = ls at hl ⊢
  replace hl : lv_has ls 6 [(0, .ref x0), (1, .int (nI 0)), (2, .int (nI a)), (3, .int (nI b)), (4, .int (hc_b o))] := hl
  replace hP : va_P D vwCl [(x0, .inr (3, [.ref h, .ref hh, .ref w, .ref k0])), (h, .inr (1, [.ref a1, .ref a2, .ref a3, .ref a4, .ref a5, .int (nI n), .int nm])), (a1, .inl (cI, 6, .inl S)), (a2, .inl (cI, 6, .inl O))] s.heap := hP
  refine lv_aload_n hx hb dX3_pair_0 rfl (lv_at hl 0 rfl) ?_
  refine lv_iload_n hx hb dX3_pair_1 rfl (lv_at hl 1 rfl) ?_
  refine hw_csr (va_runV (C := RX3) (b := x0) (As := [.int (nI 0)]) (rest := []) ⟨hx, hb, hml, hown, htg⟩ (k_X3_claimAt0 l D cI cZ cJ x0 h hh w k0) (cwV 1 htg (hg_V hm_217 hm_219 hs_yX3_claimAt hm_1 hm_220) rfl rfl rfl (by decide +kernel) ⟨Nat.le_of_ble_eq_true rfl, Nat.le_of_ble_eq_true rfl⟩) ⟨hp_R_blind, va_recv (q := (RX3, TX3, 4)) (q0 := 0) (ci := 3) hK hP rfl rfl, hp_R_pre (hP.sub (ws' := [(x0, .inr (3, [.ref h, .ref hh, .ref w, .ref k0]))]) [0] rfl) hz⟩ rfl rfl hl.1 rfl (lv_room (Nat.le_of_ble_eq_true rfl)) dX3_pair_2 ⟨Nat.zero_le _, Nat.zero_le _⟩) (fun r _h => ?_)
  refine lv_astore hx hb dX3_pair_5 hl (by decide) rfl (fun ls hl => ?_)
  replace hl : lv_has ls 6 [(5, .ref h), (0, .ref x0), (1, .int (nI 0)), (2, .int (nI a)), (3, .int (nI b)), (4, .int (hc_b o))] := hl
  refine lv_aload_n hx hb dX3_pair_7 rfl (lv_at hl 1 rfl) ?_
  refine lv_iload_n hx hb dX3_pair_8 rfl (lv_at hl 3 rfl) ?_
  refine hw_csv (va_runV (C := RX3) (b := x0) (As := [.int (nI a)]) (rest := []) ⟨hx, hb, hml, hown, htg⟩ (k_X3_checkTerm l D cI cZ cJ a x0 h hh w k0 (by omega)) (cwV 1 htg (hg_V hm_290 hm_292 hs_yX3_checkTerm hm_1 hm_293) rfl rfl rfl (by decide +kernel) ⟨Nat.le_of_ble_eq_true rfl, Nat.le_of_ble_eq_true rfl⟩) ⟨hp_R_blind, va_recv (q := (RX3, TX3, 4)) (q0 := 0) (ci := 3) hK hP rfl rfl, hp_R_pre (hP.sub (ws' := [(x0, .inr (3, [.ref h, .ref hh, .ref w, .ref k0]))]) [0] rfl) hz⟩ rfl rfl hl.1 rfl (lv_room (Nat.le_of_ble_eq_true rfl)) dX3_pair_9 ⟨Nat.zero_le _, Nat.zero_le _⟩) (fun _h => ?_)
  refine lv_aload_n hx hb dX3_pair_12 rfl (lv_at hl 1 rfl) ?_
  refine lv_iload_n hx hb dX3_pair_13 rfl (lv_at hl 4 rfl) ?_
  refine hw_csv (va_runV (C := RX3) (b := x0) (As := [.int (nI b)]) (rest := []) ⟨hx, hb, hml, hown, htg⟩ (k_X3_checkTerm l D cI cZ cJ b x0 h hh w k0 (by omega)) (cwV 1 htg (hg_V hm_290 hm_292 hs_yX3_checkTerm hm_1 hm_293) rfl rfl rfl (by decide +kernel) ⟨Nat.le_of_ble_eq_true rfl, Nat.le_of_ble_eq_true rfl⟩) ⟨hp_R_blind, va_recv (q := (RX3, TX3, 4)) (q0 := 0) (ci := 3) hK hP rfl rfl, hp_R_pre (hP.sub (ws' := [(x0, .inr (3, [.ref h, .ref hh, .ref w, .ref k0]))]) [0] rfl) hz⟩ rfl rfl hl.1 rfl (lv_room (Nat.le_of_ble_eq_true rfl)) dX3_pair_14 ⟨Nat.zero_le _, Nat.zero_le _⟩) (fun _h => ?_)
  refine lv_aload hx hb dX3_pair_17 (lv_at hl 0 rfl) ?_
  refine lv_iload_n hx hb dX3_pair_19 rfl (lv_at hl 3 rfl) ?_
  refine lv_iload_n hx hb dX3_pair_20 rfl (lv_at hl 4 rfl) ?_
  refine lv_iload hx hb dX3_pair_21 (lv_at hl 5 rfl) ?_
  refine hv_callv (w1 := fun u : (Nat → Int32) × (Nat → Int32) × Int32 => [(h, .inr (1, [.ref a1, .ref a2, .ref a3, .ref a4, .ref a5, .int (nI n), .int u.2.2])), (a1, .inl (cI, 6, .inl u.1)), (a2, .inl (cI, 6, .inl u.2.1))]) (va_runV (C := RX1) (b := h) (As := [.int (nI a), .int (nI b), .int (hc_b o)]) (rest := []) ⟨hx, hb, hml, hown, htg⟩ (k_X1_addPair l D cI cZ cJ _ a b o n S O nm h a1 a2 a3 a4 a5 ha hb6) (cwV 3 htg (hg_V hm_295 hm_296 hm_297 hm_2 hm_298) rfl rfl rfl (by decide +kernel) ⟨Nat.le_of_ble_eq_true rfl, Nat.le_of_ble_eq_true rfl⟩) ⟨hp_M_blind, va_recv (q := (RX1, TX1, 7)) (q0 := 1) (ci := 1) hK hP rfl rfl, hp_M_pre (hP.sub (ws' := [(h, .inr (1, [.ref a1, .ref a2, .ref a3, .ref a4, .ref a5, .int (nI n), .int nm])), (a1, .inl (cI, 6, .inl S)), (a2, .inl (cI, 6, .inl O))]) [1, 2, 3] rfl) (hD.sub (ws' := [(h, .inr (1, [.ref a1, .ref a2, .ref a3, .ref a4, .ref a5, .int (nI n), .int nm])), (a1, .inl (cI, 6, .inl S)), (a2, .inl (cI, 6, .inl O))]) [1, 2, 3] (by decide) rfl) hz⟩ rfl rfl hl.1 rfl (lv_room (Nat.le_of_ble_eq_true rfl)) dX3_pair_23 ⟨Nat.zero_le _, Nat.zero_le _⟩) hP hD hS hA [1, 2, 3] rfl (fun _ => rfl) (fun u1 H locs h1 hP hD hS => ?_)
  replace hP : va_P D vwCl [(x0, .inr (3, [.ref h, .ref hh, .ref w, .ref k0])), (h, .inr (1, [.ref a1, .ref a2, .ref a3, .ref a4, .ref a5, .int (nI n), .int u1.2.2])), (a1, .inl (cI, 6, .inl u1.1)), (a2, .inl (cI, 6, .inl u1.2.1))] H := hP
  replace hD : va_D A [(x0, .inr (3, [.ref h, .ref hh, .ref w, .ref k0])), (h, .inr (1, [.ref a1, .ref a2, .ref a3, .ref a4, .ref a5, .int (nI n), .int u1.2.2])), (a1, .inl (cI, 6, .inl u1.1)), (a2, .inl (cI, 6, .inl u1.2.1))] := hD
  exact W.vret hx hb hr (fun t9 ht9 hW9 => ⟨⟨u1, rfl, h1, by show va_P D vwCl [(x0, .inr (3, [.ref h, .ref hh, .ref w, .ref k0])), (h, .inr (1, [.ref a1, .ref a2, .ref a3, .ref a4, .ref a5, .int (nI n), .int u1.2.2])), (a1, .inl (cI, 6, .inl u1.1)), (a2, .inl (cI, 6, .inl u1.2.1))] t9.heap; rw [ht9]; exact hP⟩, hS.F ht9⟩) hS.2.2 dX3_pair_26

set_option maxHeartbeats 4000000 in
set_option maxRecDepth 100000 in
/-- piece -/
theorem k_X3_piece0 (l : Launch) (D : va_G) (cI cZ cJ : ClassId) (sz : Nat) (a b : Nat) (o : Bool) (n : Nat) (Fr To Li : Nat → Int32) (nm : Int32) (h a1 a2 a3 a4 a5 : Nat) (x0 hh w k0 : Nat) (ha : a < 6) (hb6 : b < 6) (hn : n < 5) : Met l yX3_piece (Cond.code yX3_piece cX3_piece 6 (some .int) :: hwG) { frames := 1, cells := 0, slots := 0, locals := 23 } (hp_M [.ref x0, .int (nI 0), .int (nI a), .int (nI b), .int (hc_b o)] D cI cZ cJ [(x0, .inr (3, [.ref h, .ref hh, .ref w, .ref k0])), (h, .inr (1, [.ref a1, .ref a2, .ref a3, .ref a4, .ref a5, .int (nI n), .int nm])), (a3, .inl (cI, 5, .inl Fr)), (a4, .inl (cI, 5, .inl To)), (a5, .inl (cZ, 5, .inl Li))] sz) (va_Qi (S := (Nat → Int32) × (Nat → Int32) × (Nat → Int32) × Int32 × Int32) (fun r u => r = nI n ∧ u.1 = upd Fr n (nI a) ∧ u.2.1 = upd To n (nI b) ∧ u.2.2.1 = upd Li n (hc_b o) ∧ u.2.2.2.1 = nI (n + 1) ∧ u.2.2.2.2 = nm ||| ((nI 1 <<< (nI a &&& 31)) ||| (nI 1 <<< (nI b &&& 31)))) (fun u t => va_P D vwCl (((x0, .inr (3, [.ref h, .ref hh, .ref w, .ref k0]))) :: [(h, .inr (1, [.ref a1, .ref a2, .ref a3, .ref a4, .ref a5, .int u.2.2.2.1, .int u.2.2.2.2])), (a3, .inl (cI, 5, .inl u.1)), (a4, .inl (cI, 5, .inl u.2.1)), (a5, .inl (cZ, 5, .inl u.2.2.1))]) t.heap) (va_A [(x0, .inr (3, [.ref h, .ref hh, .ref w, .ref k0])), (h, .inr (1, [.ref a1, .ref a2, .ref a3, .ref a4, .ref a5, .int (nI n), .int nm])), (a3, .inl (cI, 5, .inl Fr)), (a4, .inl (cI, 5, .inl To)), (a5, .inl (cZ, 5, .inl Li))] sz)) 0 0 (va_A [(x0, .inr (3, [.ref h, .ref hh, .ref w, .ref k0])), (h, .inr (1, [.ref a1, .ref a2, .ref a3, .ref a4, .ref a5, .int (nI n), .int nm])), (a3, .inl (cI, 5, .inl Fr)), (a4, .inl (cI, 5, .inl To)), (a5, .inl (cZ, 5, .inl Li))] sz) := by
  refine Met.ofW (cc := cX3_piece) (maxL := 6) (ret := (some .int)) (by decide) rfl ?_
  intro p e s m args below meth c s₁ B hml hv
  obtain ⟨rfl, hsz, hP, hz, hD0⟩ := hv
  have hx := B.exec
  have hb := B.bytes
  have hr := B.returns
  have hts := atoms_spec (ws := (Cond.code yX3_piece cX3_piece 6 (some .int) :: hwG)) B.pre
  have htg := fun w h => hts w (List.mem_cons_of_mem _ h)
  have hown : s.vm.findClass RX3 = some m.cls := findClass_of_methodNamed B.named
  have hlocks := B.notSynchronized
  have hK := hz.1
  subst hsz
  have hD := hD0.self (sz := s.heap.size)
  generalize hAe : va_A [(x0, .inr (3, [.ref h, .ref hh, .ref w, .ref k0])), (h, .inr (1, [.ref a1, .ref a2, .ref a3, .ref a4, .ref a5, .int (nI n), .int nm])), (a3, .inl (cI, 5, .inl Fr)), (a4, .inl (cI, 5, .inl To)), (a5, .inl (cZ, 5, .inl Li))] s.heap.size = A at hD ⊢
  have hA : ∀ q : Nat, s.heap.size ≤ q → A q := fun q h => by rw [← hAe]; exact Or.inr h
  have hS : va_S A s.heap s.heap [] := va_S.rf
  have hl := lv_entry ([.ref x0, .int (nI 0), .int (nI a), .int (nI b), .int (hc_b o)]) (n := 6) (Nat.le_of_ble_eq_true rfl)
  rw [lg_entry_eq]
  generalize (lg_sl ([.ref x0, .int (nI 0), .int (nI a), .int (nI b), .int (hc_b o)]) ++ List.replicate (6 - (lg_sl ([.ref x0, .int (nI 0), .int (nI a), .int (nI b), .int (hc_b o)])).length) Slot.unset).toArray = ls at hl ⊢
  replace hl : lv_has ls 6 [(0, .ref x0), (1, .int (nI 0)), (2, .int (nI a)), (3, .int (nI b)), (4, .int (hc_b o))] := hl
  replace hP : va_P D vwCl [(x0, .inr (3, [.ref h, .ref hh, .ref w, .ref k0])), (h, .inr (1, [.ref a1, .ref a2, .ref a3, .ref a4, .ref a5, .int (nI n), .int nm])), (a3, .inl (cI, 5, .inl Fr)), (a4, .inl (cI, 5, .inl To)), (a5, .inl (cZ, 5, .inl Li))] s.heap := hP
  refine lv_aload_n hx hb dX3_piece_0 rfl (lv_at hl 0 rfl) ?_
  refine lv_iload_n hx hb dX3_piece_1 rfl (lv_at hl 1 rfl) ?_
  refine hw_csr (va_runV (C := RX3) (b := x0) (As := [.int (nI 0)]) (rest := []) ⟨hx, hb, hml, hown, htg⟩ (k_X3_claimAt0 l D cI cZ cJ x0 h hh w k0) (cwV 1 htg (hg_V hm_217 hm_219 hs_yX3_claimAt hm_1 hm_220) rfl rfl rfl (by decide +kernel) ⟨Nat.le_of_ble_eq_true rfl, Nat.le_of_ble_eq_true rfl⟩) ⟨hp_R_blind, va_recv (q := (RX3, TX3, 4)) (q0 := 0) (ci := 3) hK hP rfl rfl, hp_R_pre (hP.sub (ws' := [(x0, .inr (3, [.ref h, .ref hh, .ref w, .ref k0]))]) [0] rfl) hz⟩ rfl rfl hl.1 rfl (lv_room (Nat.le_of_ble_eq_true rfl)) dX3_piece_2 ⟨Nat.zero_le _, Nat.zero_le _⟩) (fun r _h => ?_)
  refine lv_astore hx hb dX3_piece_5 hl (by decide) rfl (fun ls hl => ?_)
  replace hl : lv_has ls 6 [(5, .ref h), (0, .ref x0), (1, .int (nI 0)), (2, .int (nI a)), (3, .int (nI b)), (4, .int (hc_b o))] := hl
  refine lv_aload_n hx hb dX3_piece_7 rfl (lv_at hl 1 rfl) ?_
  refine lv_iload_n hx hb dX3_piece_8 rfl (lv_at hl 3 rfl) ?_
  refine hw_csv (va_runV (C := RX3) (b := x0) (As := [.int (nI a)]) (rest := []) ⟨hx, hb, hml, hown, htg⟩ (k_X3_checkTerm l D cI cZ cJ a x0 h hh w k0 (by omega)) (cwV 1 htg (hg_V hm_290 hm_292 hs_yX3_checkTerm hm_1 hm_293) rfl rfl rfl (by decide +kernel) ⟨Nat.le_of_ble_eq_true rfl, Nat.le_of_ble_eq_true rfl⟩) ⟨hp_R_blind, va_recv (q := (RX3, TX3, 4)) (q0 := 0) (ci := 3) hK hP rfl rfl, hp_R_pre (hP.sub (ws' := [(x0, .inr (3, [.ref h, .ref hh, .ref w, .ref k0]))]) [0] rfl) hz⟩ rfl rfl hl.1 rfl (lv_room (Nat.le_of_ble_eq_true rfl)) dX3_piece_9 ⟨Nat.zero_le _, Nat.zero_le _⟩) (fun _h => ?_)
  refine lv_aload_n hx hb dX3_piece_12 rfl (lv_at hl 1 rfl) ?_
  refine lv_iload_n hx hb dX3_piece_13 rfl (lv_at hl 4 rfl) ?_
  refine hw_csv (va_runV (C := RX3) (b := x0) (As := [.int (nI b)]) (rest := []) ⟨hx, hb, hml, hown, htg⟩ (k_X3_checkTerm l D cI cZ cJ b x0 h hh w k0 (by omega)) (cwV 1 htg (hg_V hm_290 hm_292 hs_yX3_checkTerm hm_1 hm_293) rfl rfl rfl (by decide +kernel) ⟨Nat.le_of_ble_eq_true rfl, Nat.le_of_ble_eq_true rfl⟩) ⟨hp_R_blind, va_recv (q := (RX3, TX3, 4)) (q0 := 0) (ci := 3) hK hP rfl rfl, hp_R_pre (hP.sub (ws' := [(x0, .inr (3, [.ref h, .ref hh, .ref w, .ref k0]))]) [0] rfl) hz⟩ rfl rfl hl.1 rfl (lv_room (Nat.le_of_ble_eq_true rfl)) dX3_piece_14 ⟨Nat.zero_le _, Nat.zero_le _⟩) (fun _h => ?_)
  refine lv_aload hx hb dX3_piece_17 (lv_at hl 0 rfl) ?_
  refine va_getN (D := D) (ci := 1) (v := .int (nI n)) (C := RX1) (T := TX1) (N := 7) hx hb htg hi_X1 hown hK hP 1 rfl rfl 5 (by decide) (hz_useF hz hn_42) (fun _ h9 => h9) rfl dX3_piece_19 ?_
  refine lv_iconst (v := nI 5) hx hb dX3_piece_22 (by decide) ?_
  refine hw_icmp_ne hx hb (by omega) (by omega) dX3_piece_23 rfl (fun hc => ?_) (fun hc => absurd hc (by omega))
  refine lv_aload hx hb dX3_piece_36 (lv_at hl 0 rfl) ?_
  refine lv_iload_n hx hb dX3_piece_38 rfl (lv_at hl 3 rfl) ?_
  refine lv_iload_n hx hb dX3_piece_39 rfl (lv_at hl 4 rfl) ?_
  refine lv_iload hx hb dX3_piece_40 (lv_at hl 5 rfl) ?_
  refine hv_callv (w1 := fun u : (Nat → Int32) × (Nat → Int32) × (Nat → Int32) × Int32 × Int32 => [(h, .inr (1, [.ref a1, .ref a2, .ref a3, .ref a4, .ref a5, .int u.2.2.2.1, .int u.2.2.2.2])), (a3, .inl (cI, 5, .inl u.1)), (a4, .inl (cI, 5, .inl u.2.1)), (a5, .inl (cZ, 5, .inl u.2.2.1))]) (va_runV (C := RX1) (b := h) (As := [.int (nI a), .int (nI b), .int (hc_b o)]) (rest := []) ⟨hx, hb, hml, hown, htg⟩ (k_X1_addPiece l D cI cZ cJ _ a b o n Fr To Li nm h a1 a2 a3 a4 a5 hn) (cwV 3 htg (hg_V hm_323 hm_324 hm_325 hm_2 hm_326) rfl rfl rfl (by decide +kernel) ⟨Nat.le_of_ble_eq_true rfl, Nat.le_of_ble_eq_true rfl⟩) ⟨hp_M_blind, va_recv (q := (RX1, TX1, 7)) (q0 := 1) (ci := 1) hK hP rfl rfl, hp_M_pre (hP.sub (ws' := [(h, .inr (1, [.ref a1, .ref a2, .ref a3, .ref a4, .ref a5, .int (nI n), .int nm])), (a3, .inl (cI, 5, .inl Fr)), (a4, .inl (cI, 5, .inl To)), (a5, .inl (cZ, 5, .inl Li))]) [1, 2, 3, 4] rfl) (hD.sub (ws' := [(h, .inr (1, [.ref a1, .ref a2, .ref a3, .ref a4, .ref a5, .int (nI n), .int nm])), (a3, .inl (cI, 5, .inl Fr)), (a4, .inl (cI, 5, .inl To)), (a5, .inl (cZ, 5, .inl Li))]) [1, 2, 3, 4] (by decide) rfl) hz⟩ rfl rfl hl.1 rfl (lv_room (Nat.le_of_ble_eq_true rfl)) dX3_piece_42 ⟨Nat.zero_le _, Nat.zero_le _⟩) hP hD hS hA [1, 2, 3, 4] rfl (fun _ => rfl) (fun u1 H locs h1 hP hD hS => ?_)
  replace hP : va_P D vwCl [(x0, .inr (3, [.ref h, .ref hh, .ref w, .ref k0])), (h, .inr (1, [.ref a1, .ref a2, .ref a3, .ref a4, .ref a5, .int u1.2.2.2.1, .int u1.2.2.2.2])), (a3, .inl (cI, 5, .inl u1.1)), (a4, .inl (cI, 5, .inl u1.2.1)), (a5, .inl (cZ, 5, .inl u1.2.2.1))] H := hP
  replace hD : va_D A [(x0, .inr (3, [.ref h, .ref hh, .ref w, .ref k0])), (h, .inr (1, [.ref a1, .ref a2, .ref a3, .ref a4, .ref a5, .int u1.2.2.2.1, .int u1.2.2.2.2])), (a3, .inl (cI, 5, .inl u1.1)), (a4, .inl (cI, 5, .inl u1.2.1)), (a5, .inl (cZ, 5, .inl u1.2.2.1))] := hD
  obtain ⟨u1a, u1b, u1c, u1d, u1e⟩ := u1
  obtain ⟨hu1, hu2, hu3, hu4, hu5⟩ := h1
  dsimp only at hu1 hu2 hu3 hu4 hu5
  subst hu1 hu2 hu3 hu4 hu5
  replace hP : va_P D vwCl [(x0, .inr (3, [.ref h, .ref hh, .ref w, .ref k0])), (h, .inr (1, [.ref a1, .ref a2, .ref a3, .ref a4, .ref a5, .int (nI (n + 1)), .int (nm ||| ((nI 1 <<< (nI a &&& 31)) ||| (nI 1 <<< (nI b &&& 31))))])), (a3, .inl (cI, 5, .inl (upd Fr n (nI a)))), (a4, .inl (cI, 5, .inl (upd To n (nI b)))), (a5, .inl (cZ, 5, .inl (upd Li n (hc_b o))))] H := hP
  replace hD : va_D A [(x0, .inr (3, [.ref h, .ref hh, .ref w, .ref k0])), (h, .inr (1, [.ref a1, .ref a2, .ref a3, .ref a4, .ref a5, .int (nI (n + 1)), .int (nm ||| ((nI 1 <<< (nI a &&& 31)) ||| (nI 1 <<< (nI b &&& 31))))])), (a3, .inl (cI, 5, .inl (upd Fr n (nI a)))), (a4, .inl (cI, 5, .inl (upd To n (nI b)))), (a5, .inl (cZ, 5, .inl (upd Li n (hc_b o))))] := hD
  refine lv_aload hx hb dX3_piece_45 (lv_at hl 0 rfl) ?_
  refine va_getN (D := D) (ci := 1) (v := .int (nI (n + 1))) (C := RX1) (T := TX1) (N := 7) hx hb htg hi_X1 hown hK hP 1 rfl rfl 5 (by decide) (hz_useF hz hn_42) (fun _ h9 => h9) rfl dX3_piece_47 ?_
  refine lv_iconst (v := nI 1) hx hb dX3_piece_50 (by decide) ?_
  refine hw_isub hx hb (by omega) dX3_piece_51 ?_
  exact W.iret (v := nI (n + 1 - 1)) hx hb hr (fun t9 ht9 hW9 => ⟨⟨_, (upd Fr n (nI a), upd To n (nI b), upd Li n (hc_b o), nI (n + 1), nm ||| ((nI 1 <<< (nI a &&& 31)) ||| (nI 1 <<< (nI b &&& 31)))), rfl, ⟨rfl, rfl, rfl, rfl, rfl, rfl⟩, by show va_P D vwCl [(x0, .inr (3, [.ref h, .ref hh, .ref w, .ref k0])), (h, .inr (1, [.ref a1, .ref a2, .ref a3, .ref a4, .ref a5, .int (nI (n + 1)), .int (nm ||| ((nI 1 <<< (nI a &&& 31)) ||| (nI 1 <<< (nI b &&& 31))))])), (a3, .inl (cI, 5, .inl (upd Fr n (nI a)))), (a4, .inl (cI, 5, .inl (upd To n (nI b)))), (a5, .inl (cZ, 5, .inl (upd Li n (hc_b o))))] t9.heap; rw [ht9]; exact hP⟩, hS.F ht9⟩) hS.2.2 dX3_piece_52

set_option maxHeartbeats 4000000 in
set_option maxRecDepth 100000 in
/-- full -/
theorem kf_X3_piece0 (l : Launch) (hst : l.stackTraces = false) (D : va_G) (cI cZ cJ : ClassId) (sa : Nat → Nat) (a b : Nat) (o : Bool) (nm : Int32) (h a1 a2 a3 a4 a5 : Nat) (x0 hh w k0 : Nat) (ha : a < 6) (hb6 : b < 6) : hx_Met l yX3_piece (Cond.code yX3_piece cX3_piece 6 (some .int) :: hwG) { frames := 6, cells := 1, slots := 6, locals := 82 } (hp_X [.ref x0, .int (nI 0), .int (nI a), .int (nI b), .int (hc_b o)] D cI cZ cJ [(x0, .inr (3, [.ref h, .ref hh, .ref w, .ref k0])), (h, .inr (1, [.ref a1, .ref a2, .ref a3, .ref a4, .ref a5, .int (nI 5), .int nm]))] sa) hxG := by
  refine hx_ofW (cc := cX3_piece) (maxL := 6) (ret := (some .int)) (by decide) rfl ?_
  intro p e s m args below meth c s₁ B hml hout hv
  obtain ⟨rfl, hP, hz, hE⟩ := hv
  have hx := B.exec
  have hb := B.bytes
  have hts := atoms_spec (ws := (Cond.code yX3_piece cX3_piece 6 (some .int) :: hwG)) B.pre
  have htg := fun w h => hts w (List.mem_cons_of_mem _ h)
  have hown : s.vm.findClass RX3 = some m.cls := findClass_of_methodNamed B.named
  have hlocks := B.notSynchronized
  have hK := hz.1
  have hl := lv_entry ([.ref x0, .int (nI 0), .int (nI a), .int (nI b), .int (hc_b o)]) (n := 6) (Nat.le_of_ble_eq_true rfl)
  rw [lg_entry_eq]
  generalize (lg_sl ([.ref x0, .int (nI 0), .int (nI a), .int (nI b), .int (hc_b o)]) ++ List.replicate (6 - (lg_sl ([.ref x0, .int (nI 0), .int (nI a), .int (nI b), .int (hc_b o)])).length) Slot.unset).toArray = ls at hl ⊢
  replace hl : lv_has ls 6 [(0, .ref x0), (1, .int (nI 0)), (2, .int (nI a)), (3, .int (nI b)), (4, .int (hc_b o))] := hl
  refine lv_aload_n hx hb dX3_piece_0 rfl (lv_at hl 0 rfl) ?_
  refine lv_iload_n hx hb dX3_piece_1 rfl (lv_at hl 1 rfl) ?_
  refine hw_csr (va_runV (C := RX3) (b := x0) (As := [.int (nI 0)]) (rest := []) ⟨hx, hb, hml, hown, htg⟩ (k_X3_claimAt0 l D cI cZ cJ x0 h hh w k0) (cwV 1 htg (hg_V hm_217 hm_219 hs_yX3_claimAt hm_1 hm_220) rfl rfl rfl (by decide +kernel) ⟨Nat.le_of_ble_eq_true rfl, Nat.le_of_ble_eq_true rfl⟩) ⟨hp_R_blind, va_recv (q := (RX3, TX3, 4)) (q0 := 0) (ci := 3) hK hP rfl rfl, hp_R_pre (hP.sub (ws' := [(x0, .inr (3, [.ref h, .ref hh, .ref w, .ref k0]))]) [0] rfl) hz⟩ rfl rfl hl.1 rfl (lv_room (Nat.le_of_ble_eq_true rfl)) dX3_piece_2 ⟨Nat.zero_le _, Nat.zero_le _⟩) (fun r _h => ?_)
  refine lv_astore hx hb dX3_piece_5 hl (by decide) rfl (fun ls hl => ?_)
  replace hl : lv_has ls 6 [(5, .ref h), (0, .ref x0), (1, .int (nI 0)), (2, .int (nI a)), (3, .int (nI b)), (4, .int (hc_b o))] := hl
  refine lv_aload_n hx hb dX3_piece_7 rfl (lv_at hl 1 rfl) ?_
  refine lv_iload_n hx hb dX3_piece_8 rfl (lv_at hl 3 rfl) ?_
  refine hw_csv (va_runV (C := RX3) (b := x0) (As := [.int (nI a)]) (rest := []) ⟨hx, hb, hml, hown, htg⟩ (k_X3_checkTerm l D cI cZ cJ a x0 h hh w k0 (by omega)) (cwV 1 htg (hg_V hm_290 hm_292 hs_yX3_checkTerm hm_1 hm_293) rfl rfl rfl (by decide +kernel) ⟨Nat.le_of_ble_eq_true rfl, Nat.le_of_ble_eq_true rfl⟩) ⟨hp_R_blind, va_recv (q := (RX3, TX3, 4)) (q0 := 0) (ci := 3) hK hP rfl rfl, hp_R_pre (hP.sub (ws' := [(x0, .inr (3, [.ref h, .ref hh, .ref w, .ref k0]))]) [0] rfl) hz⟩ rfl rfl hl.1 rfl (lv_room (Nat.le_of_ble_eq_true rfl)) dX3_piece_9 ⟨Nat.zero_le _, Nat.zero_le _⟩) (fun _h => ?_)
  refine lv_aload_n hx hb dX3_piece_12 rfl (lv_at hl 1 rfl) ?_
  refine lv_iload_n hx hb dX3_piece_13 rfl (lv_at hl 4 rfl) ?_
  refine hw_csv (va_runV (C := RX3) (b := x0) (As := [.int (nI b)]) (rest := []) ⟨hx, hb, hml, hown, htg⟩ (k_X3_checkTerm l D cI cZ cJ b x0 h hh w k0 (by omega)) (cwV 1 htg (hg_V hm_290 hm_292 hs_yX3_checkTerm hm_1 hm_293) rfl rfl rfl (by decide +kernel) ⟨Nat.le_of_ble_eq_true rfl, Nat.le_of_ble_eq_true rfl⟩) ⟨hp_R_blind, va_recv (q := (RX3, TX3, 4)) (q0 := 0) (ci := 3) hK hP rfl rfl, hp_R_pre (hP.sub (ws' := [(x0, .inr (3, [.ref h, .ref hh, .ref w, .ref k0]))]) [0] rfl) hz⟩ rfl rfl hl.1 rfl (lv_room (Nat.le_of_ble_eq_true rfl)) dX3_piece_14 ⟨Nat.zero_le _, Nat.zero_le _⟩) (fun _h => ?_)
  refine lv_aload hx hb dX3_piece_17 (lv_at hl 0 rfl) ?_
  refine va_getN (D := D) (ci := 1) (v := .int (nI 5)) (C := RX1) (T := TX1) (N := 7) hx hb htg hi_X1 hown hK hP 1 rfl rfl 5 (by decide) (hz_useF hz hn_42) (fun _ h9 => h9) rfl dX3_piece_19 ?_
  refine lv_iconst (v := nI 5) hx hb dX3_piece_22 (by decide) ?_
  refine hw_icmp_ne hx hb (by omega) (by omega) dX3_piece_23 rfl (fun hc => absurd rfl hc) (fun hc => ?_)
  exact hx_throw hx hb hst (own := RX3) (cls := hxG) (names := hxN) (ik := 50) (is := 52) (ic := 54) hown (by decide) (by decide) (htg _ hm_307) (htg _ hm_11) (hE.2 (52, "the claim has 5 pieces") (by decide)) (hx_own hx_oG htg hE.1) (hl.1.trans hml.symm) dX3_piece_26 dX3_piece_29 dX3_piece_30 dX3_piece_32 dX3_piece_35 hout (Nat.le_of_ble_eq_true rfl) (Nat.le_of_ble_eq_true rfl) (Nat.le_of_ble_eq_true rfl) (Nat.le_of_ble_eq_true rfl) hlocks

set_option maxHeartbeats 4000000 in
set_option maxRecDepth 100000 in
/-- clear -/
theorem k_X3_clear0 (l : Launch) (D : va_G) (cI cZ cJ : ClassId) (sz : Nat) (n : Nat) (S O : Nat → Int32) (nm : Int32) (h a1 a2 a3 a4 a5 : Nat) (x0 hh w k0 : Nat) : Met l yX3_clear (Cond.code yX3_clear cX3_clear 2 none :: hwG) { frames := 2, cells := 0, slots := 0, locals := 43 } (hp_M [.ref x0, .int (nI 0)] D cI cZ cJ [(x0, .inr (3, [.ref h, .ref hh, .ref w, .ref k0])), (h, .inr (1, [.ref a1, .ref a2, .ref a3, .ref a4, .ref a5, .int (nI n), .int nm])), (a1, .inl (cI, 6, .inl S)), (a2, .inl (cI, 6, .inl O))] sz) (va_Qv (S := (Nat → Int32) × (Nat → Int32)) (fun u => (∀ j, j < 6 → u.1 j = nI 0) ∧ ∀ j, j < 6 → u.2 j = nI 0) (fun u t => va_P D vwCl (((x0, .inr (3, [.ref h, .ref hh, .ref w, .ref k0]))) :: [(h, .inr (1, [.ref a1, .ref a2, .ref a3, .ref a4, .ref a5, .int (nI 0), .int (nI 0)])), (a1, .inl (cI, 6, .inl u.1)), (a2, .inl (cI, 6, .inl u.2))]) t.heap) (va_A [(x0, .inr (3, [.ref h, .ref hh, .ref w, .ref k0])), (h, .inr (1, [.ref a1, .ref a2, .ref a3, .ref a4, .ref a5, .int (nI n), .int nm])), (a1, .inl (cI, 6, .inl S)), (a2, .inl (cI, 6, .inl O))] sz)) 0 0 (va_A [(x0, .inr (3, [.ref h, .ref hh, .ref w, .ref k0])), (h, .inr (1, [.ref a1, .ref a2, .ref a3, .ref a4, .ref a5, .int (nI n), .int nm])), (a1, .inl (cI, 6, .inl S)), (a2, .inl (cI, 6, .inl O))] sz) := by
  refine Met.ofW (cc := cX3_clear) (maxL := 2) (ret := none) (by decide) rfl ?_
  intro p e s m args below meth c s₁ B hml hv
  obtain ⟨rfl, hsz, hP, hz, hD0⟩ := hv
  have hx := B.exec
  have hb := B.bytes
  have hr := B.returns
  have hts := atoms_spec (ws := (Cond.code yX3_clear cX3_clear 2 none :: hwG)) B.pre
  have htg := fun w h => hts w (List.mem_cons_of_mem _ h)
  have hown : s.vm.findClass RX3 = some m.cls := findClass_of_methodNamed B.named
  have hlocks := B.notSynchronized
  have hK := hz.1
  subst hsz
  have hD := hD0.self (sz := s.heap.size)
  generalize hAe : va_A [(x0, .inr (3, [.ref h, .ref hh, .ref w, .ref k0])), (h, .inr (1, [.ref a1, .ref a2, .ref a3, .ref a4, .ref a5, .int (nI n), .int nm])), (a1, .inl (cI, 6, .inl S)), (a2, .inl (cI, 6, .inl O))] s.heap.size = A at hD ⊢
  have hA : ∀ q : Nat, s.heap.size ≤ q → A q := fun q h => by rw [← hAe]; exact Or.inr h
  have hS : va_S A s.heap s.heap [] := va_S.rf
  have hl := lv_entry ([.ref x0, .int (nI 0)]) (n := 2) (Nat.le_of_ble_eq_true rfl)
  rw [lg_entry_eq]
  generalize (lg_sl ([.ref x0, .int (nI 0)]) ++ List.replicate (2 - (lg_sl ([.ref x0, .int (nI 0)])).length) Slot.unset).toArray = ls at hl ⊢
  replace hl : lv_has ls 2 [(0, .ref x0), (1, .int (nI 0))] := hl
  replace hP : va_P D vwCl [(x0, .inr (3, [.ref h, .ref hh, .ref w, .ref k0])), (h, .inr (1, [.ref a1, .ref a2, .ref a3, .ref a4, .ref a5, .int (nI n), .int nm])), (a1, .inl (cI, 6, .inl S)), (a2, .inl (cI, 6, .inl O))] s.heap := hP
  refine lv_aload_n hx hb dX3_clear_0 rfl (lv_at hl 0 rfl) ?_
  refine lv_iload_n hx hb dX3_clear_1 rfl (lv_at hl 1 rfl) ?_
  refine hw_csr (va_runV (C := RX3) (b := x0) (As := [.int (nI 0)]) (rest := []) ⟨hx, hb, hml, hown, htg⟩ (k_X3_claimAt0 l D cI cZ cJ x0 h hh w k0) (cwV 1 htg (hg_V hm_217 hm_219 hs_yX3_claimAt hm_1 hm_220) rfl rfl rfl (by decide +kernel) ⟨Nat.le_of_ble_eq_true rfl, Nat.le_of_ble_eq_true rfl⟩) ⟨hp_R_blind, va_recv (q := (RX3, TX3, 4)) (q0 := 0) (ci := 3) hK hP rfl rfl, hp_R_pre (hP.sub (ws' := [(x0, .inr (3, [.ref h, .ref hh, .ref w, .ref k0]))]) [0] rfl) hz⟩ rfl rfl hl.1 rfl (lv_room (Nat.le_of_ble_eq_true rfl)) dX3_clear_2 ⟨Nat.zero_le _, Nat.zero_le _⟩) (fun r _h => ?_)
  refine hv_callv (w1 := fun u : (Nat → Int32) × (Nat → Int32) => [(h, .inr (1, [.ref a1, .ref a2, .ref a3, .ref a4, .ref a5, .int (nI 0), .int (nI 0)])), (a1, .inl (cI, 6, .inl u.1)), (a2, .inl (cI, 6, .inl u.2))]) (va_runV (C := RX1) (b := h) (As := []) (rest := []) ⟨hx, hb, hml, hown, htg⟩ (k_X1_forgetAll l D cI cZ cJ _ n S O nm h a1 a2 a3 a4 a5) (cwV 0 htg (hg_V hm_334 hm_335 hm_336 hm_2 hm_337) rfl rfl rfl (by decide +kernel) ⟨Nat.le_of_ble_eq_true rfl, Nat.le_of_ble_eq_true rfl⟩) ⟨hp_M_blind, va_recv (q := (RX1, TX1, 7)) (q0 := 1) (ci := 1) hK hP rfl rfl, hp_M_pre (hP.sub (ws' := [(h, .inr (1, [.ref a1, .ref a2, .ref a3, .ref a4, .ref a5, .int (nI n), .int nm])), (a1, .inl (cI, 6, .inl S)), (a2, .inl (cI, 6, .inl O))]) [1, 2, 3] rfl) (hD.sub (ws' := [(h, .inr (1, [.ref a1, .ref a2, .ref a3, .ref a4, .ref a5, .int (nI n), .int nm])), (a1, .inl (cI, 6, .inl S)), (a2, .inl (cI, 6, .inl O))]) [1, 2, 3] (by decide) rfl) hz⟩ rfl rfl hl.1 rfl (lv_room (Nat.le_of_ble_eq_true rfl)) dX3_clear_5 ⟨Nat.zero_le _, Nat.zero_le _⟩) hP hD hS hA [1, 2, 3] rfl (fun _ => rfl) (fun u1 H locs h1 hP hD hS => ?_)
  replace hP : va_P D vwCl [(x0, .inr (3, [.ref h, .ref hh, .ref w, .ref k0])), (h, .inr (1, [.ref a1, .ref a2, .ref a3, .ref a4, .ref a5, .int (nI 0), .int (nI 0)])), (a1, .inl (cI, 6, .inl u1.1)), (a2, .inl (cI, 6, .inl u1.2))] H := hP
  replace hD : va_D A [(x0, .inr (3, [.ref h, .ref hh, .ref w, .ref k0])), (h, .inr (1, [.ref a1, .ref a2, .ref a3, .ref a4, .ref a5, .int (nI 0), .int (nI 0)])), (a1, .inl (cI, 6, .inl u1.1)), (a2, .inl (cI, 6, .inl u1.2))] := hD
  exact W.vret hx hb hr (fun t9 ht9 hW9 => ⟨⟨u1, rfl, h1, by show va_P D vwCl [(x0, .inr (3, [.ref h, .ref hh, .ref w, .ref k0])), (h, .inr (1, [.ref a1, .ref a2, .ref a3, .ref a4, .ref a5, .int (nI 0), .int (nI 0)])), (a1, .inl (cI, 6, .inl u1.1)), (a2, .inl (cI, 6, .inl u1.2))] t9.heap; rw [ht9]; exact hP⟩, hS.F ht9⟩) hS.2.2 dX3_clear_8

set_option maxHeartbeats 4000000 in
set_option maxRecDepth 100000 in
/-- pieces -/
theorem k_X3_pieces0 (l : Launch) (D : va_G) (cI cZ cJ : ClassId) (n : Nat) (nm : Int32) (h a1 a2 a3 a4 a5 : Nat) (x0 hh w k0 : Nat) : Met l yX3_pieces (Cond.code yX3_pieces cX3_pieces 2 (some .int) :: hwG) { frames := 1, cells := 0, slots := 0, locals := 21 } (hp_R [.ref x0, .int (nI 0)] D cI cZ cJ [(x0, .inr (3, [.ref h, .ref hh, .ref w, .ref k0])), (h, .inr (1, [.ref a1, .ref a2, .ref a3, .ref a4, .ref a5, .int (nI n), .int nm]))]) (vp_Si (fun r => r = nI n)) 0 0 (fun _ => False) := by
  refine Met.ofW (cc := cX3_pieces) (maxL := 2) (ret := (some .int)) (by decide) rfl ?_
  intro p e s m args below meth c s₁ B hml hv
  obtain ⟨rfl, hP, hz⟩ := hv
  have hx := B.exec
  have hb := B.bytes
  have hr := B.returns
  have hts := atoms_spec (ws := (Cond.code yX3_pieces cX3_pieces 2 (some .int) :: hwG)) B.pre
  have htg := fun w h => hts w (List.mem_cons_of_mem _ h)
  have hown : s.vm.findClass RX3 = some m.cls := findClass_of_methodNamed B.named
  have hlocks := B.notSynchronized
  have hK := hz.1
  have hl := lv_entry ([.ref x0, .int (nI 0)]) (n := 2) (Nat.le_of_ble_eq_true rfl)
  rw [lg_entry_eq]
  generalize (lg_sl ([.ref x0, .int (nI 0)]) ++ List.replicate (2 - (lg_sl ([.ref x0, .int (nI 0)])).length) Slot.unset).toArray = ls at hl ⊢
  replace hl : lv_has ls 2 [(0, .ref x0), (1, .int (nI 0))] := hl
  refine lv_aload_n hx hb dX3_pieces_0 rfl (lv_at hl 0 rfl) ?_
  refine lv_iload_n hx hb dX3_pieces_1 rfl (lv_at hl 1 rfl) ?_
  refine hw_csr (va_runV (C := RX3) (b := x0) (As := [.int (nI 0)]) (rest := []) ⟨hx, hb, hml, hown, htg⟩ (k_X3_claimAt0 l D cI cZ cJ x0 h hh w k0) (cwV 1 htg (hg_V hm_217 hm_219 hs_yX3_claimAt hm_1 hm_220) rfl rfl rfl (by decide +kernel) ⟨Nat.le_of_ble_eq_true rfl, Nat.le_of_ble_eq_true rfl⟩) ⟨hp_R_blind, va_recv (q := (RX3, TX3, 4)) (q0 := 0) (ci := 3) hK hP rfl rfl, hp_R_pre (hP.sub (ws' := [(x0, .inr (3, [.ref h, .ref hh, .ref w, .ref k0]))]) [0] rfl) hz⟩ rfl rfl hl.1 rfl (lv_room (Nat.le_of_ble_eq_true rfl)) dX3_pieces_2 ⟨Nat.zero_le _, Nat.zero_le _⟩) (fun r _h => ?_)
  refine va_getN (D := D) (ci := 1) (v := .int (nI n)) (C := RX1) (T := TX1) (N := 7) hx hb htg hi_X1 hown hK hP 1 rfl rfl 5 (by decide) (hz_useF hz hn_42) (fun _ h9 => h9) rfl dX3_pieces_5 ?_
  exact W.iret (v := nI n) hx hb hr (fun t9 ht9 hW9 => ⟨_, rfl, rfl, ht9⟩) (fun _ h => nomatch h) dX3_pieces_8

set_option maxHeartbeats 4000000 in
set_option maxRecDepth 100000 in
/-- pair -/
theorem k_X3_pair1 (l : Launch) (D : va_G) (cI cZ cJ : ClassId) (sz : Nat) (a b : Nat) (o : Bool) (n : Nat) (S O : Nat → Int32) (nm : Int32) (h a1 a2 a3 a4 a5 : Nat) (x0 hh w k0 : Nat) (ha : a < 6) (hb6 : b < 6) : Met l yX3_pair (Cond.code yX3_pair cX3_pair 6 none :: hwG) { frames := 1, cells := 0, slots := 0, locals := 23 } (hp_M [.ref x0, .int (nI 1), .int (nI a), .int (nI b), .int (hc_b o)] D cI cZ cJ [(x0, .inr (3, [.ref hh, .ref h, .ref w, .ref k0])), (h, .inr (1, [.ref a1, .ref a2, .ref a3, .ref a4, .ref a5, .int (nI n), .int nm])), (a1, .inl (cI, 6, .inl S)), (a2, .inl (cI, 6, .inl O))] sz) (va_Qv (S := (Nat → Int32) × (Nat → Int32) × Int32) (fun u => u.1 = (bif o then S else upd S a (S a ||| (nI 1 <<< (nI b &&& 31)))) ∧ u.2.1 = (bif o then upd O a (O a ||| (nI 1 <<< (nI b &&& 31))) else O) ∧ u.2.2 = nm ||| ((nI 1 <<< (nI a &&& 31)) ||| (nI 1 <<< (nI b &&& 31)))) (fun u t => va_P D vwCl (((x0, .inr (3, [.ref hh, .ref h, .ref w, .ref k0]))) :: [(h, .inr (1, [.ref a1, .ref a2, .ref a3, .ref a4, .ref a5, .int (nI n), .int u.2.2])), (a1, .inl (cI, 6, .inl u.1)), (a2, .inl (cI, 6, .inl u.2.1))]) t.heap) (va_A [(x0, .inr (3, [.ref hh, .ref h, .ref w, .ref k0])), (h, .inr (1, [.ref a1, .ref a2, .ref a3, .ref a4, .ref a5, .int (nI n), .int nm])), (a1, .inl (cI, 6, .inl S)), (a2, .inl (cI, 6, .inl O))] sz)) 0 0 (va_A [(x0, .inr (3, [.ref hh, .ref h, .ref w, .ref k0])), (h, .inr (1, [.ref a1, .ref a2, .ref a3, .ref a4, .ref a5, .int (nI n), .int nm])), (a1, .inl (cI, 6, .inl S)), (a2, .inl (cI, 6, .inl O))] sz) := by
  refine Met.ofW (cc := cX3_pair) (maxL := 6) (ret := none) (by decide) rfl ?_
  intro p e s m args below meth c s₁ B hml hv
  obtain ⟨rfl, hsz, hP, hz, hD0⟩ := hv
  have hx := B.exec
  have hb := B.bytes
  have hr := B.returns
  have hts := atoms_spec (ws := (Cond.code yX3_pair cX3_pair 6 none :: hwG)) B.pre
  have htg := fun w h => hts w (List.mem_cons_of_mem _ h)
  have hown : s.vm.findClass RX3 = some m.cls := findClass_of_methodNamed B.named
  have hlocks := B.notSynchronized
  have hK := hz.1
  subst hsz
  have hD := hD0.self (sz := s.heap.size)
  generalize hAe : va_A [(x0, .inr (3, [.ref hh, .ref h, .ref w, .ref k0])), (h, .inr (1, [.ref a1, .ref a2, .ref a3, .ref a4, .ref a5, .int (nI n), .int nm])), (a1, .inl (cI, 6, .inl S)), (a2, .inl (cI, 6, .inl O))] s.heap.size = A at hD ⊢
  have hA : ∀ q : Nat, s.heap.size ≤ q → A q := fun q h => by rw [← hAe]; exact Or.inr h
  have hS : va_S A s.heap s.heap [] := va_S.rf
  have hl := lv_entry ([.ref x0, .int (nI 1), .int (nI a), .int (nI b), .int (hc_b o)]) (n := 6) (Nat.le_of_ble_eq_true rfl)
  rw [lg_entry_eq]
  generalize (lg_sl ([.ref x0, .int (nI 1), .int (nI a), .int (nI b), .int (hc_b o)]) ++ List.replicate (6 - (lg_sl ([.ref x0, .int (nI 1), .int (nI a), .int (nI b), .int (hc_b o)])).length) Slot.unset).toArray = ls at hl ⊢
  replace hl : lv_has ls 6 [(0, .ref x0), (1, .int (nI 1)), (2, .int (nI a)), (3, .int (nI b)), (4, .int (hc_b o))] := hl
  replace hP : va_P D vwCl [(x0, .inr (3, [.ref hh, .ref h, .ref w, .ref k0])), (h, .inr (1, [.ref a1, .ref a2, .ref a3, .ref a4, .ref a5, .int (nI n), .int nm])), (a1, .inl (cI, 6, .inl S)), (a2, .inl (cI, 6, .inl O))] s.heap := hP
  refine lv_aload_n hx hb dX3_pair_0 rfl (lv_at hl 0 rfl) ?_
  refine lv_iload_n hx hb dX3_pair_1 rfl (lv_at hl 1 rfl) ?_
  refine hw_csr (va_runV (C := RX3) (b := x0) (As := [.int (nI 1)]) (rest := []) ⟨hx, hb, hml, hown, htg⟩ (k_X3_claimAt1 l D cI cZ cJ x0 hh h w k0) (cwV 1 htg (hg_V hm_217 hm_219 hs_yX3_claimAt hm_1 hm_220) rfl rfl rfl (by decide +kernel) ⟨Nat.le_of_ble_eq_true rfl, Nat.le_of_ble_eq_true rfl⟩) ⟨hp_R_blind, va_recv (q := (RX3, TX3, 4)) (q0 := 0) (ci := 3) hK hP rfl rfl, hp_R_pre (hP.sub (ws' := [(x0, .inr (3, [.ref hh, .ref h, .ref w, .ref k0]))]) [0] rfl) hz⟩ rfl rfl hl.1 rfl (lv_room (Nat.le_of_ble_eq_true rfl)) dX3_pair_2 ⟨Nat.zero_le _, Nat.zero_le _⟩) (fun r _h => ?_)
  refine lv_astore hx hb dX3_pair_5 hl (by decide) rfl (fun ls hl => ?_)
  replace hl : lv_has ls 6 [(5, .ref h), (0, .ref x0), (1, .int (nI 1)), (2, .int (nI a)), (3, .int (nI b)), (4, .int (hc_b o))] := hl
  refine lv_aload_n hx hb dX3_pair_7 rfl (lv_at hl 1 rfl) ?_
  refine lv_iload_n hx hb dX3_pair_8 rfl (lv_at hl 3 rfl) ?_
  refine hw_csv (va_runV (C := RX3) (b := x0) (As := [.int (nI a)]) (rest := []) ⟨hx, hb, hml, hown, htg⟩ (k_X3_checkTerm l D cI cZ cJ a x0 hh h w k0 (by omega)) (cwV 1 htg (hg_V hm_290 hm_292 hs_yX3_checkTerm hm_1 hm_293) rfl rfl rfl (by decide +kernel) ⟨Nat.le_of_ble_eq_true rfl, Nat.le_of_ble_eq_true rfl⟩) ⟨hp_R_blind, va_recv (q := (RX3, TX3, 4)) (q0 := 0) (ci := 3) hK hP rfl rfl, hp_R_pre (hP.sub (ws' := [(x0, .inr (3, [.ref hh, .ref h, .ref w, .ref k0]))]) [0] rfl) hz⟩ rfl rfl hl.1 rfl (lv_room (Nat.le_of_ble_eq_true rfl)) dX3_pair_9 ⟨Nat.zero_le _, Nat.zero_le _⟩) (fun _h => ?_)
  refine lv_aload_n hx hb dX3_pair_12 rfl (lv_at hl 1 rfl) ?_
  refine lv_iload_n hx hb dX3_pair_13 rfl (lv_at hl 4 rfl) ?_
  refine hw_csv (va_runV (C := RX3) (b := x0) (As := [.int (nI b)]) (rest := []) ⟨hx, hb, hml, hown, htg⟩ (k_X3_checkTerm l D cI cZ cJ b x0 hh h w k0 (by omega)) (cwV 1 htg (hg_V hm_290 hm_292 hs_yX3_checkTerm hm_1 hm_293) rfl rfl rfl (by decide +kernel) ⟨Nat.le_of_ble_eq_true rfl, Nat.le_of_ble_eq_true rfl⟩) ⟨hp_R_blind, va_recv (q := (RX3, TX3, 4)) (q0 := 0) (ci := 3) hK hP rfl rfl, hp_R_pre (hP.sub (ws' := [(x0, .inr (3, [.ref hh, .ref h, .ref w, .ref k0]))]) [0] rfl) hz⟩ rfl rfl hl.1 rfl (lv_room (Nat.le_of_ble_eq_true rfl)) dX3_pair_14 ⟨Nat.zero_le _, Nat.zero_le _⟩) (fun _h => ?_)
  refine lv_aload hx hb dX3_pair_17 (lv_at hl 0 rfl) ?_
  refine lv_iload_n hx hb dX3_pair_19 rfl (lv_at hl 3 rfl) ?_
  refine lv_iload_n hx hb dX3_pair_20 rfl (lv_at hl 4 rfl) ?_
  refine lv_iload hx hb dX3_pair_21 (lv_at hl 5 rfl) ?_
  refine hv_callv (w1 := fun u : (Nat → Int32) × (Nat → Int32) × Int32 => [(h, .inr (1, [.ref a1, .ref a2, .ref a3, .ref a4, .ref a5, .int (nI n), .int u.2.2])), (a1, .inl (cI, 6, .inl u.1)), (a2, .inl (cI, 6, .inl u.2.1))]) (va_runV (C := RX1) (b := h) (As := [.int (nI a), .int (nI b), .int (hc_b o)]) (rest := []) ⟨hx, hb, hml, hown, htg⟩ (k_X1_addPair l D cI cZ cJ _ a b o n S O nm h a1 a2 a3 a4 a5 ha hb6) (cwV 3 htg (hg_V hm_295 hm_296 hm_297 hm_2 hm_298) rfl rfl rfl (by decide +kernel) ⟨Nat.le_of_ble_eq_true rfl, Nat.le_of_ble_eq_true rfl⟩) ⟨hp_M_blind, va_recv (q := (RX1, TX1, 7)) (q0 := 1) (ci := 1) hK hP rfl rfl, hp_M_pre (hP.sub (ws' := [(h, .inr (1, [.ref a1, .ref a2, .ref a3, .ref a4, .ref a5, .int (nI n), .int nm])), (a1, .inl (cI, 6, .inl S)), (a2, .inl (cI, 6, .inl O))]) [1, 2, 3] rfl) (hD.sub (ws' := [(h, .inr (1, [.ref a1, .ref a2, .ref a3, .ref a4, .ref a5, .int (nI n), .int nm])), (a1, .inl (cI, 6, .inl S)), (a2, .inl (cI, 6, .inl O))]) [1, 2, 3] (by decide) rfl) hz⟩ rfl rfl hl.1 rfl (lv_room (Nat.le_of_ble_eq_true rfl)) dX3_pair_23 ⟨Nat.zero_le _, Nat.zero_le _⟩) hP hD hS hA [1, 2, 3] rfl (fun _ => rfl) (fun u1 H locs h1 hP hD hS => ?_)
  replace hP : va_P D vwCl [(x0, .inr (3, [.ref hh, .ref h, .ref w, .ref k0])), (h, .inr (1, [.ref a1, .ref a2, .ref a3, .ref a4, .ref a5, .int (nI n), .int u1.2.2])), (a1, .inl (cI, 6, .inl u1.1)), (a2, .inl (cI, 6, .inl u1.2.1))] H := hP
  replace hD : va_D A [(x0, .inr (3, [.ref hh, .ref h, .ref w, .ref k0])), (h, .inr (1, [.ref a1, .ref a2, .ref a3, .ref a4, .ref a5, .int (nI n), .int u1.2.2])), (a1, .inl (cI, 6, .inl u1.1)), (a2, .inl (cI, 6, .inl u1.2.1))] := hD
  exact W.vret hx hb hr (fun t9 ht9 hW9 => ⟨⟨u1, rfl, h1, by show va_P D vwCl [(x0, .inr (3, [.ref hh, .ref h, .ref w, .ref k0])), (h, .inr (1, [.ref a1, .ref a2, .ref a3, .ref a4, .ref a5, .int (nI n), .int u1.2.2])), (a1, .inl (cI, 6, .inl u1.1)), (a2, .inl (cI, 6, .inl u1.2.1))] t9.heap; rw [ht9]; exact hP⟩, hS.F ht9⟩) hS.2.2 dX3_pair_26

set_option maxHeartbeats 4000000 in
set_option maxRecDepth 100000 in
/-- piece -/
theorem k_X3_piece1 (l : Launch) (D : va_G) (cI cZ cJ : ClassId) (sz : Nat) (a b : Nat) (o : Bool) (n : Nat) (Fr To Li : Nat → Int32) (nm : Int32) (h a1 a2 a3 a4 a5 : Nat) (x0 hh w k0 : Nat) (ha : a < 6) (hb6 : b < 6) (hn : n < 5) : Met l yX3_piece (Cond.code yX3_piece cX3_piece 6 (some .int) :: hwG) { frames := 1, cells := 0, slots := 0, locals := 23 } (hp_M [.ref x0, .int (nI 1), .int (nI a), .int (nI b), .int (hc_b o)] D cI cZ cJ [(x0, .inr (3, [.ref hh, .ref h, .ref w, .ref k0])), (h, .inr (1, [.ref a1, .ref a2, .ref a3, .ref a4, .ref a5, .int (nI n), .int nm])), (a3, .inl (cI, 5, .inl Fr)), (a4, .inl (cI, 5, .inl To)), (a5, .inl (cZ, 5, .inl Li))] sz) (va_Qi (S := (Nat → Int32) × (Nat → Int32) × (Nat → Int32) × Int32 × Int32) (fun r u => r = nI n ∧ u.1 = upd Fr n (nI a) ∧ u.2.1 = upd To n (nI b) ∧ u.2.2.1 = upd Li n (hc_b o) ∧ u.2.2.2.1 = nI (n + 1) ∧ u.2.2.2.2 = nm ||| ((nI 1 <<< (nI a &&& 31)) ||| (nI 1 <<< (nI b &&& 31)))) (fun u t => va_P D vwCl (((x0, .inr (3, [.ref hh, .ref h, .ref w, .ref k0]))) :: [(h, .inr (1, [.ref a1, .ref a2, .ref a3, .ref a4, .ref a5, .int u.2.2.2.1, .int u.2.2.2.2])), (a3, .inl (cI, 5, .inl u.1)), (a4, .inl (cI, 5, .inl u.2.1)), (a5, .inl (cZ, 5, .inl u.2.2.1))]) t.heap) (va_A [(x0, .inr (3, [.ref hh, .ref h, .ref w, .ref k0])), (h, .inr (1, [.ref a1, .ref a2, .ref a3, .ref a4, .ref a5, .int (nI n), .int nm])), (a3, .inl (cI, 5, .inl Fr)), (a4, .inl (cI, 5, .inl To)), (a5, .inl (cZ, 5, .inl Li))] sz)) 0 0 (va_A [(x0, .inr (3, [.ref hh, .ref h, .ref w, .ref k0])), (h, .inr (1, [.ref a1, .ref a2, .ref a3, .ref a4, .ref a5, .int (nI n), .int nm])), (a3, .inl (cI, 5, .inl Fr)), (a4, .inl (cI, 5, .inl To)), (a5, .inl (cZ, 5, .inl Li))] sz) := by
  refine Met.ofW (cc := cX3_piece) (maxL := 6) (ret := (some .int)) (by decide) rfl ?_
  intro p e s m args below meth c s₁ B hml hv
  obtain ⟨rfl, hsz, hP, hz, hD0⟩ := hv
  have hx := B.exec
  have hb := B.bytes
  have hr := B.returns
  have hts := atoms_spec (ws := (Cond.code yX3_piece cX3_piece 6 (some .int) :: hwG)) B.pre
  have htg := fun w h => hts w (List.mem_cons_of_mem _ h)
  have hown : s.vm.findClass RX3 = some m.cls := findClass_of_methodNamed B.named
  have hlocks := B.notSynchronized
  have hK := hz.1
  subst hsz
  have hD := hD0.self (sz := s.heap.size)
  generalize hAe : va_A [(x0, .inr (3, [.ref hh, .ref h, .ref w, .ref k0])), (h, .inr (1, [.ref a1, .ref a2, .ref a3, .ref a4, .ref a5, .int (nI n), .int nm])), (a3, .inl (cI, 5, .inl Fr)), (a4, .inl (cI, 5, .inl To)), (a5, .inl (cZ, 5, .inl Li))] s.heap.size = A at hD ⊢
  have hA : ∀ q : Nat, s.heap.size ≤ q → A q := fun q h => by rw [← hAe]; exact Or.inr h
  have hS : va_S A s.heap s.heap [] := va_S.rf
  have hl := lv_entry ([.ref x0, .int (nI 1), .int (nI a), .int (nI b), .int (hc_b o)]) (n := 6) (Nat.le_of_ble_eq_true rfl)
  rw [lg_entry_eq]
  generalize (lg_sl ([.ref x0, .int (nI 1), .int (nI a), .int (nI b), .int (hc_b o)]) ++ List.replicate (6 - (lg_sl ([.ref x0, .int (nI 1), .int (nI a), .int (nI b), .int (hc_b o)])).length) Slot.unset).toArray = ls at hl ⊢
  replace hl : lv_has ls 6 [(0, .ref x0), (1, .int (nI 1)), (2, .int (nI a)), (3, .int (nI b)), (4, .int (hc_b o))] := hl
  replace hP : va_P D vwCl [(x0, .inr (3, [.ref hh, .ref h, .ref w, .ref k0])), (h, .inr (1, [.ref a1, .ref a2, .ref a3, .ref a4, .ref a5, .int (nI n), .int nm])), (a3, .inl (cI, 5, .inl Fr)), (a4, .inl (cI, 5, .inl To)), (a5, .inl (cZ, 5, .inl Li))] s.heap := hP
  refine lv_aload_n hx hb dX3_piece_0 rfl (lv_at hl 0 rfl) ?_
  refine lv_iload_n hx hb dX3_piece_1 rfl (lv_at hl 1 rfl) ?_
  refine hw_csr (va_runV (C := RX3) (b := x0) (As := [.int (nI 1)]) (rest := []) ⟨hx, hb, hml, hown, htg⟩ (k_X3_claimAt1 l D cI cZ cJ x0 hh h w k0) (cwV 1 htg (hg_V hm_217 hm_219 hs_yX3_claimAt hm_1 hm_220) rfl rfl rfl (by decide +kernel) ⟨Nat.le_of_ble_eq_true rfl, Nat.le_of_ble_eq_true rfl⟩) ⟨hp_R_blind, va_recv (q := (RX3, TX3, 4)) (q0 := 0) (ci := 3) hK hP rfl rfl, hp_R_pre (hP.sub (ws' := [(x0, .inr (3, [.ref hh, .ref h, .ref w, .ref k0]))]) [0] rfl) hz⟩ rfl rfl hl.1 rfl (lv_room (Nat.le_of_ble_eq_true rfl)) dX3_piece_2 ⟨Nat.zero_le _, Nat.zero_le _⟩) (fun r _h => ?_)
  refine lv_astore hx hb dX3_piece_5 hl (by decide) rfl (fun ls hl => ?_)
  replace hl : lv_has ls 6 [(5, .ref h), (0, .ref x0), (1, .int (nI 1)), (2, .int (nI a)), (3, .int (nI b)), (4, .int (hc_b o))] := hl
  refine lv_aload_n hx hb dX3_piece_7 rfl (lv_at hl 1 rfl) ?_
  refine lv_iload_n hx hb dX3_piece_8 rfl (lv_at hl 3 rfl) ?_
  refine hw_csv (va_runV (C := RX3) (b := x0) (As := [.int (nI a)]) (rest := []) ⟨hx, hb, hml, hown, htg⟩ (k_X3_checkTerm l D cI cZ cJ a x0 hh h w k0 (by omega)) (cwV 1 htg (hg_V hm_290 hm_292 hs_yX3_checkTerm hm_1 hm_293) rfl rfl rfl (by decide +kernel) ⟨Nat.le_of_ble_eq_true rfl, Nat.le_of_ble_eq_true rfl⟩) ⟨hp_R_blind, va_recv (q := (RX3, TX3, 4)) (q0 := 0) (ci := 3) hK hP rfl rfl, hp_R_pre (hP.sub (ws' := [(x0, .inr (3, [.ref hh, .ref h, .ref w, .ref k0]))]) [0] rfl) hz⟩ rfl rfl hl.1 rfl (lv_room (Nat.le_of_ble_eq_true rfl)) dX3_piece_9 ⟨Nat.zero_le _, Nat.zero_le _⟩) (fun _h => ?_)
  refine lv_aload_n hx hb dX3_piece_12 rfl (lv_at hl 1 rfl) ?_
  refine lv_iload_n hx hb dX3_piece_13 rfl (lv_at hl 4 rfl) ?_
  refine hw_csv (va_runV (C := RX3) (b := x0) (As := [.int (nI b)]) (rest := []) ⟨hx, hb, hml, hown, htg⟩ (k_X3_checkTerm l D cI cZ cJ b x0 hh h w k0 (by omega)) (cwV 1 htg (hg_V hm_290 hm_292 hs_yX3_checkTerm hm_1 hm_293) rfl rfl rfl (by decide +kernel) ⟨Nat.le_of_ble_eq_true rfl, Nat.le_of_ble_eq_true rfl⟩) ⟨hp_R_blind, va_recv (q := (RX3, TX3, 4)) (q0 := 0) (ci := 3) hK hP rfl rfl, hp_R_pre (hP.sub (ws' := [(x0, .inr (3, [.ref hh, .ref h, .ref w, .ref k0]))]) [0] rfl) hz⟩ rfl rfl hl.1 rfl (lv_room (Nat.le_of_ble_eq_true rfl)) dX3_piece_14 ⟨Nat.zero_le _, Nat.zero_le _⟩) (fun _h => ?_)
  refine lv_aload hx hb dX3_piece_17 (lv_at hl 0 rfl) ?_
  refine va_getN (D := D) (ci := 1) (v := .int (nI n)) (C := RX1) (T := TX1) (N := 7) hx hb htg hi_X1 hown hK hP 1 rfl rfl 5 (by decide) (hz_useF hz hn_42) (fun _ h9 => h9) rfl dX3_piece_19 ?_
  refine lv_iconst (v := nI 5) hx hb dX3_piece_22 (by decide) ?_
  refine hw_icmp_ne hx hb (by omega) (by omega) dX3_piece_23 rfl (fun hc => ?_) (fun hc => absurd hc (by omega))
  refine lv_aload hx hb dX3_piece_36 (lv_at hl 0 rfl) ?_
  refine lv_iload_n hx hb dX3_piece_38 rfl (lv_at hl 3 rfl) ?_
  refine lv_iload_n hx hb dX3_piece_39 rfl (lv_at hl 4 rfl) ?_
  refine lv_iload hx hb dX3_piece_40 (lv_at hl 5 rfl) ?_
  refine hv_callv (w1 := fun u : (Nat → Int32) × (Nat → Int32) × (Nat → Int32) × Int32 × Int32 => [(h, .inr (1, [.ref a1, .ref a2, .ref a3, .ref a4, .ref a5, .int u.2.2.2.1, .int u.2.2.2.2])), (a3, .inl (cI, 5, .inl u.1)), (a4, .inl (cI, 5, .inl u.2.1)), (a5, .inl (cZ, 5, .inl u.2.2.1))]) (va_runV (C := RX1) (b := h) (As := [.int (nI a), .int (nI b), .int (hc_b o)]) (rest := []) ⟨hx, hb, hml, hown, htg⟩ (k_X1_addPiece l D cI cZ cJ _ a b o n Fr To Li nm h a1 a2 a3 a4 a5 hn) (cwV 3 htg (hg_V hm_323 hm_324 hm_325 hm_2 hm_326) rfl rfl rfl (by decide +kernel) ⟨Nat.le_of_ble_eq_true rfl, Nat.le_of_ble_eq_true rfl⟩) ⟨hp_M_blind, va_recv (q := (RX1, TX1, 7)) (q0 := 1) (ci := 1) hK hP rfl rfl, hp_M_pre (hP.sub (ws' := [(h, .inr (1, [.ref a1, .ref a2, .ref a3, .ref a4, .ref a5, .int (nI n), .int nm])), (a3, .inl (cI, 5, .inl Fr)), (a4, .inl (cI, 5, .inl To)), (a5, .inl (cZ, 5, .inl Li))]) [1, 2, 3, 4] rfl) (hD.sub (ws' := [(h, .inr (1, [.ref a1, .ref a2, .ref a3, .ref a4, .ref a5, .int (nI n), .int nm])), (a3, .inl (cI, 5, .inl Fr)), (a4, .inl (cI, 5, .inl To)), (a5, .inl (cZ, 5, .inl Li))]) [1, 2, 3, 4] (by decide) rfl) hz⟩ rfl rfl hl.1 rfl (lv_room (Nat.le_of_ble_eq_true rfl)) dX3_piece_42 ⟨Nat.zero_le _, Nat.zero_le _⟩) hP hD hS hA [1, 2, 3, 4] rfl (fun _ => rfl) (fun u1 H locs h1 hP hD hS => ?_)
  replace hP : va_P D vwCl [(x0, .inr (3, [.ref hh, .ref h, .ref w, .ref k0])), (h, .inr (1, [.ref a1, .ref a2, .ref a3, .ref a4, .ref a5, .int u1.2.2.2.1, .int u1.2.2.2.2])), (a3, .inl (cI, 5, .inl u1.1)), (a4, .inl (cI, 5, .inl u1.2.1)), (a5, .inl (cZ, 5, .inl u1.2.2.1))] H := hP
  replace hD : va_D A [(x0, .inr (3, [.ref hh, .ref h, .ref w, .ref k0])), (h, .inr (1, [.ref a1, .ref a2, .ref a3, .ref a4, .ref a5, .int u1.2.2.2.1, .int u1.2.2.2.2])), (a3, .inl (cI, 5, .inl u1.1)), (a4, .inl (cI, 5, .inl u1.2.1)), (a5, .inl (cZ, 5, .inl u1.2.2.1))] := hD
  obtain ⟨u1a, u1b, u1c, u1d, u1e⟩ := u1
  obtain ⟨hu1, hu2, hu3, hu4, hu5⟩ := h1
  dsimp only at hu1 hu2 hu3 hu4 hu5
  subst hu1 hu2 hu3 hu4 hu5
  replace hP : va_P D vwCl [(x0, .inr (3, [.ref hh, .ref h, .ref w, .ref k0])), (h, .inr (1, [.ref a1, .ref a2, .ref a3, .ref a4, .ref a5, .int (nI (n + 1)), .int (nm ||| ((nI 1 <<< (nI a &&& 31)) ||| (nI 1 <<< (nI b &&& 31))))])), (a3, .inl (cI, 5, .inl (upd Fr n (nI a)))), (a4, .inl (cI, 5, .inl (upd To n (nI b)))), (a5, .inl (cZ, 5, .inl (upd Li n (hc_b o))))] H := hP
  replace hD : va_D A [(x0, .inr (3, [.ref hh, .ref h, .ref w, .ref k0])), (h, .inr (1, [.ref a1, .ref a2, .ref a3, .ref a4, .ref a5, .int (nI (n + 1)), .int (nm ||| ((nI 1 <<< (nI a &&& 31)) ||| (nI 1 <<< (nI b &&& 31))))])), (a3, .inl (cI, 5, .inl (upd Fr n (nI a)))), (a4, .inl (cI, 5, .inl (upd To n (nI b)))), (a5, .inl (cZ, 5, .inl (upd Li n (hc_b o))))] := hD
  refine lv_aload hx hb dX3_piece_45 (lv_at hl 0 rfl) ?_
  refine va_getN (D := D) (ci := 1) (v := .int (nI (n + 1))) (C := RX1) (T := TX1) (N := 7) hx hb htg hi_X1 hown hK hP 1 rfl rfl 5 (by decide) (hz_useF hz hn_42) (fun _ h9 => h9) rfl dX3_piece_47 ?_
  refine lv_iconst (v := nI 1) hx hb dX3_piece_50 (by decide) ?_
  refine hw_isub hx hb (by omega) dX3_piece_51 ?_
  exact W.iret (v := nI (n + 1 - 1)) hx hb hr (fun t9 ht9 hW9 => ⟨⟨_, (upd Fr n (nI a), upd To n (nI b), upd Li n (hc_b o), nI (n + 1), nm ||| ((nI 1 <<< (nI a &&& 31)) ||| (nI 1 <<< (nI b &&& 31)))), rfl, ⟨rfl, rfl, rfl, rfl, rfl, rfl⟩, by show va_P D vwCl [(x0, .inr (3, [.ref hh, .ref h, .ref w, .ref k0])), (h, .inr (1, [.ref a1, .ref a2, .ref a3, .ref a4, .ref a5, .int (nI (n + 1)), .int (nm ||| ((nI 1 <<< (nI a &&& 31)) ||| (nI 1 <<< (nI b &&& 31))))])), (a3, .inl (cI, 5, .inl (upd Fr n (nI a)))), (a4, .inl (cI, 5, .inl (upd To n (nI b)))), (a5, .inl (cZ, 5, .inl (upd Li n (hc_b o))))] t9.heap; rw [ht9]; exact hP⟩, hS.F ht9⟩) hS.2.2 dX3_piece_52

set_option maxHeartbeats 4000000 in
set_option maxRecDepth 100000 in
/-- full -/
theorem kf_X3_piece1 (l : Launch) (hst : l.stackTraces = false) (D : va_G) (cI cZ cJ : ClassId) (sa : Nat → Nat) (a b : Nat) (o : Bool) (nm : Int32) (h a1 a2 a3 a4 a5 : Nat) (x0 hh w k0 : Nat) (ha : a < 6) (hb6 : b < 6) : hx_Met l yX3_piece (Cond.code yX3_piece cX3_piece 6 (some .int) :: hwG) { frames := 6, cells := 1, slots := 6, locals := 82 } (hp_X [.ref x0, .int (nI 1), .int (nI a), .int (nI b), .int (hc_b o)] D cI cZ cJ [(x0, .inr (3, [.ref hh, .ref h, .ref w, .ref k0])), (h, .inr (1, [.ref a1, .ref a2, .ref a3, .ref a4, .ref a5, .int (nI 5), .int nm]))] sa) hxG := by
  refine hx_ofW (cc := cX3_piece) (maxL := 6) (ret := (some .int)) (by decide) rfl ?_
  intro p e s m args below meth c s₁ B hml hout hv
  obtain ⟨rfl, hP, hz, hE⟩ := hv
  have hx := B.exec
  have hb := B.bytes
  have hts := atoms_spec (ws := (Cond.code yX3_piece cX3_piece 6 (some .int) :: hwG)) B.pre
  have htg := fun w h => hts w (List.mem_cons_of_mem _ h)
  have hown : s.vm.findClass RX3 = some m.cls := findClass_of_methodNamed B.named
  have hlocks := B.notSynchronized
  have hK := hz.1
  have hl := lv_entry ([.ref x0, .int (nI 1), .int (nI a), .int (nI b), .int (hc_b o)]) (n := 6) (Nat.le_of_ble_eq_true rfl)
  rw [lg_entry_eq]
  generalize (lg_sl ([.ref x0, .int (nI 1), .int (nI a), .int (nI b), .int (hc_b o)]) ++ List.replicate (6 - (lg_sl ([.ref x0, .int (nI 1), .int (nI a), .int (nI b), .int (hc_b o)])).length) Slot.unset).toArray = ls at hl ⊢
  replace hl : lv_has ls 6 [(0, .ref x0), (1, .int (nI 1)), (2, .int (nI a)), (3, .int (nI b)), (4, .int (hc_b o))] := hl
  refine lv_aload_n hx hb dX3_piece_0 rfl (lv_at hl 0 rfl) ?_
  refine lv_iload_n hx hb dX3_piece_1 rfl (lv_at hl 1 rfl) ?_
  refine hw_csr (va_runV (C := RX3) (b := x0) (As := [.int (nI 1)]) (rest := []) ⟨hx, hb, hml, hown, htg⟩ (k_X3_claimAt1 l D cI cZ cJ x0 hh h w k0) (cwV 1 htg (hg_V hm_217 hm_219 hs_yX3_claimAt hm_1 hm_220) rfl rfl rfl (by decide +kernel) ⟨Nat.le_of_ble_eq_true rfl, Nat.le_of_ble_eq_true rfl⟩) ⟨hp_R_blind, va_recv (q := (RX3, TX3, 4)) (q0 := 0) (ci := 3) hK hP rfl rfl, hp_R_pre (hP.sub (ws' := [(x0, .inr (3, [.ref hh, .ref h, .ref w, .ref k0]))]) [0] rfl) hz⟩ rfl rfl hl.1 rfl (lv_room (Nat.le_of_ble_eq_true rfl)) dX3_piece_2 ⟨Nat.zero_le _, Nat.zero_le _⟩) (fun r _h => ?_)
  refine lv_astore hx hb dX3_piece_5 hl (by decide) rfl (fun ls hl => ?_)
  replace hl : lv_has ls 6 [(5, .ref h), (0, .ref x0), (1, .int (nI 1)), (2, .int (nI a)), (3, .int (nI b)), (4, .int (hc_b o))] := hl
  refine lv_aload_n hx hb dX3_piece_7 rfl (lv_at hl 1 rfl) ?_
  refine lv_iload_n hx hb dX3_piece_8 rfl (lv_at hl 3 rfl) ?_
  refine hw_csv (va_runV (C := RX3) (b := x0) (As := [.int (nI a)]) (rest := []) ⟨hx, hb, hml, hown, htg⟩ (k_X3_checkTerm l D cI cZ cJ a x0 hh h w k0 (by omega)) (cwV 1 htg (hg_V hm_290 hm_292 hs_yX3_checkTerm hm_1 hm_293) rfl rfl rfl (by decide +kernel) ⟨Nat.le_of_ble_eq_true rfl, Nat.le_of_ble_eq_true rfl⟩) ⟨hp_R_blind, va_recv (q := (RX3, TX3, 4)) (q0 := 0) (ci := 3) hK hP rfl rfl, hp_R_pre (hP.sub (ws' := [(x0, .inr (3, [.ref hh, .ref h, .ref w, .ref k0]))]) [0] rfl) hz⟩ rfl rfl hl.1 rfl (lv_room (Nat.le_of_ble_eq_true rfl)) dX3_piece_9 ⟨Nat.zero_le _, Nat.zero_le _⟩) (fun _h => ?_)
  refine lv_aload_n hx hb dX3_piece_12 rfl (lv_at hl 1 rfl) ?_
  refine lv_iload_n hx hb dX3_piece_13 rfl (lv_at hl 4 rfl) ?_
  refine hw_csv (va_runV (C := RX3) (b := x0) (As := [.int (nI b)]) (rest := []) ⟨hx, hb, hml, hown, htg⟩ (k_X3_checkTerm l D cI cZ cJ b x0 hh h w k0 (by omega)) (cwV 1 htg (hg_V hm_290 hm_292 hs_yX3_checkTerm hm_1 hm_293) rfl rfl rfl (by decide +kernel) ⟨Nat.le_of_ble_eq_true rfl, Nat.le_of_ble_eq_true rfl⟩) ⟨hp_R_blind, va_recv (q := (RX3, TX3, 4)) (q0 := 0) (ci := 3) hK hP rfl rfl, hp_R_pre (hP.sub (ws' := [(x0, .inr (3, [.ref hh, .ref h, .ref w, .ref k0]))]) [0] rfl) hz⟩ rfl rfl hl.1 rfl (lv_room (Nat.le_of_ble_eq_true rfl)) dX3_piece_14 ⟨Nat.zero_le _, Nat.zero_le _⟩) (fun _h => ?_)
  refine lv_aload hx hb dX3_piece_17 (lv_at hl 0 rfl) ?_
  refine va_getN (D := D) (ci := 1) (v := .int (nI 5)) (C := RX1) (T := TX1) (N := 7) hx hb htg hi_X1 hown hK hP 1 rfl rfl 5 (by decide) (hz_useF hz hn_42) (fun _ h9 => h9) rfl dX3_piece_19 ?_
  refine lv_iconst (v := nI 5) hx hb dX3_piece_22 (by decide) ?_
  refine hw_icmp_ne hx hb (by omega) (by omega) dX3_piece_23 rfl (fun hc => absurd rfl hc) (fun hc => ?_)
  exact hx_throw hx hb hst (own := RX3) (cls := hxG) (names := hxN) (ik := 50) (is := 52) (ic := 54) hown (by decide) (by decide) (htg _ hm_307) (htg _ hm_11) (hE.2 (52, "the claim has 5 pieces") (by decide)) (hx_own hx_oG htg hE.1) (hl.1.trans hml.symm) dX3_piece_26 dX3_piece_29 dX3_piece_30 dX3_piece_32 dX3_piece_35 hout (Nat.le_of_ble_eq_true rfl) (Nat.le_of_ble_eq_true rfl) (Nat.le_of_ble_eq_true rfl) (Nat.le_of_ble_eq_true rfl) hlocks

set_option maxHeartbeats 4000000 in
set_option maxRecDepth 100000 in
/-- clear -/
theorem k_X3_clear1 (l : Launch) (D : va_G) (cI cZ cJ : ClassId) (sz : Nat) (n : Nat) (S O : Nat → Int32) (nm : Int32) (h a1 a2 a3 a4 a5 : Nat) (x0 hh w k0 : Nat) : Met l yX3_clear (Cond.code yX3_clear cX3_clear 2 none :: hwG) { frames := 2, cells := 0, slots := 0, locals := 43 } (hp_M [.ref x0, .int (nI 1)] D cI cZ cJ [(x0, .inr (3, [.ref hh, .ref h, .ref w, .ref k0])), (h, .inr (1, [.ref a1, .ref a2, .ref a3, .ref a4, .ref a5, .int (nI n), .int nm])), (a1, .inl (cI, 6, .inl S)), (a2, .inl (cI, 6, .inl O))] sz) (va_Qv (S := (Nat → Int32) × (Nat → Int32)) (fun u => (∀ j, j < 6 → u.1 j = nI 0) ∧ ∀ j, j < 6 → u.2 j = nI 0) (fun u t => va_P D vwCl (((x0, .inr (3, [.ref hh, .ref h, .ref w, .ref k0]))) :: [(h, .inr (1, [.ref a1, .ref a2, .ref a3, .ref a4, .ref a5, .int (nI 0), .int (nI 0)])), (a1, .inl (cI, 6, .inl u.1)), (a2, .inl (cI, 6, .inl u.2))]) t.heap) (va_A [(x0, .inr (3, [.ref hh, .ref h, .ref w, .ref k0])), (h, .inr (1, [.ref a1, .ref a2, .ref a3, .ref a4, .ref a5, .int (nI n), .int nm])), (a1, .inl (cI, 6, .inl S)), (a2, .inl (cI, 6, .inl O))] sz)) 0 0 (va_A [(x0, .inr (3, [.ref hh, .ref h, .ref w, .ref k0])), (h, .inr (1, [.ref a1, .ref a2, .ref a3, .ref a4, .ref a5, .int (nI n), .int nm])), (a1, .inl (cI, 6, .inl S)), (a2, .inl (cI, 6, .inl O))] sz) := by
  refine Met.ofW (cc := cX3_clear) (maxL := 2) (ret := none) (by decide) rfl ?_
  intro p e s m args below meth c s₁ B hml hv
  obtain ⟨rfl, hsz, hP, hz, hD0⟩ := hv
  have hx := B.exec
  have hb := B.bytes
  have hr := B.returns
  have hts := atoms_spec (ws := (Cond.code yX3_clear cX3_clear 2 none :: hwG)) B.pre
  have htg := fun w h => hts w (List.mem_cons_of_mem _ h)
  have hown : s.vm.findClass RX3 = some m.cls := findClass_of_methodNamed B.named
  have hlocks := B.notSynchronized
  have hK := hz.1
  subst hsz
  have hD := hD0.self (sz := s.heap.size)
  generalize hAe : va_A [(x0, .inr (3, [.ref hh, .ref h, .ref w, .ref k0])), (h, .inr (1, [.ref a1, .ref a2, .ref a3, .ref a4, .ref a5, .int (nI n), .int nm])), (a1, .inl (cI, 6, .inl S)), (a2, .inl (cI, 6, .inl O))] s.heap.size = A at hD ⊢
  have hA : ∀ q : Nat, s.heap.size ≤ q → A q := fun q h => by rw [← hAe]; exact Or.inr h
  have hS : va_S A s.heap s.heap [] := va_S.rf
  have hl := lv_entry ([.ref x0, .int (nI 1)]) (n := 2) (Nat.le_of_ble_eq_true rfl)
  rw [lg_entry_eq]
  generalize (lg_sl ([.ref x0, .int (nI 1)]) ++ List.replicate (2 - (lg_sl ([.ref x0, .int (nI 1)])).length) Slot.unset).toArray = ls at hl ⊢
  replace hl : lv_has ls 2 [(0, .ref x0), (1, .int (nI 1))] := hl
  replace hP : va_P D vwCl [(x0, .inr (3, [.ref hh, .ref h, .ref w, .ref k0])), (h, .inr (1, [.ref a1, .ref a2, .ref a3, .ref a4, .ref a5, .int (nI n), .int nm])), (a1, .inl (cI, 6, .inl S)), (a2, .inl (cI, 6, .inl O))] s.heap := hP
  refine lv_aload_n hx hb dX3_clear_0 rfl (lv_at hl 0 rfl) ?_
  refine lv_iload_n hx hb dX3_clear_1 rfl (lv_at hl 1 rfl) ?_
  refine hw_csr (va_runV (C := RX3) (b := x0) (As := [.int (nI 1)]) (rest := []) ⟨hx, hb, hml, hown, htg⟩ (k_X3_claimAt1 l D cI cZ cJ x0 hh h w k0) (cwV 1 htg (hg_V hm_217 hm_219 hs_yX3_claimAt hm_1 hm_220) rfl rfl rfl (by decide +kernel) ⟨Nat.le_of_ble_eq_true rfl, Nat.le_of_ble_eq_true rfl⟩) ⟨hp_R_blind, va_recv (q := (RX3, TX3, 4)) (q0 := 0) (ci := 3) hK hP rfl rfl, hp_R_pre (hP.sub (ws' := [(x0, .inr (3, [.ref hh, .ref h, .ref w, .ref k0]))]) [0] rfl) hz⟩ rfl rfl hl.1 rfl (lv_room (Nat.le_of_ble_eq_true rfl)) dX3_clear_2 ⟨Nat.zero_le _, Nat.zero_le _⟩) (fun r _h => ?_)
  refine hv_callv (w1 := fun u : (Nat → Int32) × (Nat → Int32) => [(h, .inr (1, [.ref a1, .ref a2, .ref a3, .ref a4, .ref a5, .int (nI 0), .int (nI 0)])), (a1, .inl (cI, 6, .inl u.1)), (a2, .inl (cI, 6, .inl u.2))]) (va_runV (C := RX1) (b := h) (As := []) (rest := []) ⟨hx, hb, hml, hown, htg⟩ (k_X1_forgetAll l D cI cZ cJ _ n S O nm h a1 a2 a3 a4 a5) (cwV 0 htg (hg_V hm_334 hm_335 hm_336 hm_2 hm_337) rfl rfl rfl (by decide +kernel) ⟨Nat.le_of_ble_eq_true rfl, Nat.le_of_ble_eq_true rfl⟩) ⟨hp_M_blind, va_recv (q := (RX1, TX1, 7)) (q0 := 1) (ci := 1) hK hP rfl rfl, hp_M_pre (hP.sub (ws' := [(h, .inr (1, [.ref a1, .ref a2, .ref a3, .ref a4, .ref a5, .int (nI n), .int nm])), (a1, .inl (cI, 6, .inl S)), (a2, .inl (cI, 6, .inl O))]) [1, 2, 3] rfl) (hD.sub (ws' := [(h, .inr (1, [.ref a1, .ref a2, .ref a3, .ref a4, .ref a5, .int (nI n), .int nm])), (a1, .inl (cI, 6, .inl S)), (a2, .inl (cI, 6, .inl O))]) [1, 2, 3] (by decide) rfl) hz⟩ rfl rfl hl.1 rfl (lv_room (Nat.le_of_ble_eq_true rfl)) dX3_clear_5 ⟨Nat.zero_le _, Nat.zero_le _⟩) hP hD hS hA [1, 2, 3] rfl (fun _ => rfl) (fun u1 H locs h1 hP hD hS => ?_)
  replace hP : va_P D vwCl [(x0, .inr (3, [.ref hh, .ref h, .ref w, .ref k0])), (h, .inr (1, [.ref a1, .ref a2, .ref a3, .ref a4, .ref a5, .int (nI 0), .int (nI 0)])), (a1, .inl (cI, 6, .inl u1.1)), (a2, .inl (cI, 6, .inl u1.2))] H := hP
  replace hD : va_D A [(x0, .inr (3, [.ref hh, .ref h, .ref w, .ref k0])), (h, .inr (1, [.ref a1, .ref a2, .ref a3, .ref a4, .ref a5, .int (nI 0), .int (nI 0)])), (a1, .inl (cI, 6, .inl u1.1)), (a2, .inl (cI, 6, .inl u1.2))] := hD
  exact W.vret hx hb hr (fun t9 ht9 hW9 => ⟨⟨u1, rfl, h1, by show va_P D vwCl [(x0, .inr (3, [.ref hh, .ref h, .ref w, .ref k0])), (h, .inr (1, [.ref a1, .ref a2, .ref a3, .ref a4, .ref a5, .int (nI 0), .int (nI 0)])), (a1, .inl (cI, 6, .inl u1.1)), (a2, .inl (cI, 6, .inl u1.2))] t9.heap; rw [ht9]; exact hP⟩, hS.F ht9⟩) hS.2.2 dX3_clear_8

set_option maxHeartbeats 4000000 in
set_option maxRecDepth 100000 in
/-- pieces -/
theorem k_X3_pieces1 (l : Launch) (D : va_G) (cI cZ cJ : ClassId) (n : Nat) (nm : Int32) (h a1 a2 a3 a4 a5 : Nat) (x0 hh w k0 : Nat) : Met l yX3_pieces (Cond.code yX3_pieces cX3_pieces 2 (some .int) :: hwG) { frames := 1, cells := 0, slots := 0, locals := 21 } (hp_R [.ref x0, .int (nI 1)] D cI cZ cJ [(x0, .inr (3, [.ref hh, .ref h, .ref w, .ref k0])), (h, .inr (1, [.ref a1, .ref a2, .ref a3, .ref a4, .ref a5, .int (nI n), .int nm]))]) (vp_Si (fun r => r = nI n)) 0 0 (fun _ => False) := by
  refine Met.ofW (cc := cX3_pieces) (maxL := 2) (ret := (some .int)) (by decide) rfl ?_
  intro p e s m args below meth c s₁ B hml hv
  obtain ⟨rfl, hP, hz⟩ := hv
  have hx := B.exec
  have hb := B.bytes
  have hr := B.returns
  have hts := atoms_spec (ws := (Cond.code yX3_pieces cX3_pieces 2 (some .int) :: hwG)) B.pre
  have htg := fun w h => hts w (List.mem_cons_of_mem _ h)
  have hown : s.vm.findClass RX3 = some m.cls := findClass_of_methodNamed B.named
  have hlocks := B.notSynchronized
  have hK := hz.1
  have hl := lv_entry ([.ref x0, .int (nI 1)]) (n := 2) (Nat.le_of_ble_eq_true rfl)
  rw [lg_entry_eq]
  generalize (lg_sl ([.ref x0, .int (nI 1)]) ++ List.replicate (2 - (lg_sl ([.ref x0, .int (nI 1)])).length) Slot.unset).toArray = ls at hl ⊢
  replace hl : lv_has ls 2 [(0, .ref x0), (1, .int (nI 1))] := hl
  refine lv_aload_n hx hb dX3_pieces_0 rfl (lv_at hl 0 rfl) ?_
  refine lv_iload_n hx hb dX3_pieces_1 rfl (lv_at hl 1 rfl) ?_
  refine hw_csr (va_runV (C := RX3) (b := x0) (As := [.int (nI 1)]) (rest := []) ⟨hx, hb, hml, hown, htg⟩ (k_X3_claimAt1 l D cI cZ cJ x0 hh h w k0) (cwV 1 htg (hg_V hm_217 hm_219 hs_yX3_claimAt hm_1 hm_220) rfl rfl rfl (by decide +kernel) ⟨Nat.le_of_ble_eq_true rfl, Nat.le_of_ble_eq_true rfl⟩) ⟨hp_R_blind, va_recv (q := (RX3, TX3, 4)) (q0 := 0) (ci := 3) hK hP rfl rfl, hp_R_pre (hP.sub (ws' := [(x0, .inr (3, [.ref hh, .ref h, .ref w, .ref k0]))]) [0] rfl) hz⟩ rfl rfl hl.1 rfl (lv_room (Nat.le_of_ble_eq_true rfl)) dX3_pieces_2 ⟨Nat.zero_le _, Nat.zero_le _⟩) (fun r _h => ?_)
  refine va_getN (D := D) (ci := 1) (v := .int (nI n)) (C := RX1) (T := TX1) (N := 7) hx hb htg hi_X1 hown hK hP 1 rfl rfl 5 (by decide) (hz_useF hz hn_42) (fun _ h9 => h9) rfl dX3_pieces_5 ?_
  exact W.iret (v := nI n) hx hb hr (fun t9 ht9 hW9 => ⟨_, rfl, rfl, ht9⟩) (fun _ h => nomatch h) dX3_pieces_8

set_option maxHeartbeats 4000000 in
set_option maxRecDepth 100000 in
/-- a number is wrong -/
theorem kx_X3_clear (l : Launch) (hst : l.stackTraces = false) (D : va_G) (cI cZ cJ : ClassId) (sa : Nat → Nat) (cx : Nat) (x0 h hh w k0 : Nat) (hcx : cx < 2 ^ 32) (hbad : ¬ cx < 2) : hx_Met l yX3_clear (Cond.code yX3_clear cX3_clear 2 none :: hwG) { frames := 7, cells := 1, slots := 6, locals := 103 } (hp_X [.ref x0, .int (nI cx)] D cI cZ cJ [(x0, .inr (3, [.ref h, .ref hh, .ref w, .ref k0]))] sa) hxI := by
  refine hx_ofW (cc := cX3_clear) (maxL := 2) (ret := none) (by decide) rfl ?_
  intro p e s m args below meth c s₁ B hml hout hv
  obtain ⟨rfl, hP, hz, hE⟩ := hv
  have hx := B.exec
  have hb := B.bytes
  have hts := atoms_spec (ws := (Cond.code yX3_clear cX3_clear 2 none :: hwG)) B.pre
  have htg := fun w h => hts w (List.mem_cons_of_mem _ h)
  have hown : s.vm.findClass RX3 = some m.cls := findClass_of_methodNamed B.named
  have hlocks := B.notSynchronized
  have hK := hz.1
  have hl := lv_entry ([.ref x0, .int (nI cx)]) (n := 2) (Nat.le_of_ble_eq_true rfl)
  rw [lg_entry_eq]
  generalize (lg_sl ([.ref x0, .int (nI cx)]) ++ List.replicate (2 - (lg_sl ([.ref x0, .int (nI cx)])).length) Slot.unset).toArray = ls at hl ⊢
  replace hl : lv_has ls 2 [(0, .ref x0), (1, .int (nI cx))] := hl
  refine lv_aload_n hx hb dX3_clear_0 rfl (lv_at hl 0 rfl) ?_
  refine lv_iload_n hx hb dX3_clear_1 rfl (lv_at hl 1 rfl) ?_
  by_cases hk0 : cx < 2
  · rcases (by omega : cx = 0 ∨ cx = 1) with rfl | rfl
    · refine hw_csr (va_runV (C := RX3) (b := x0) (As := [.int (nI 0)]) (rest := []) ⟨hx, hb, hml, hown, htg⟩ (k_X3_claimAt0 l D cI cZ cJ x0 h hh w k0) (cwV 1 htg (hg_V hm_217 hm_219 hs_yX3_claimAt hm_1 hm_220) rfl rfl rfl (by decide +kernel) ⟨Nat.le_of_ble_eq_true rfl, Nat.le_of_ble_eq_true rfl⟩) ⟨hp_R_blind, va_recv (q := (RX3, TX3, 4)) (q0 := 0) (ci := 3) hK hP rfl rfl, hp_R_pre (hP.sub (ws' := [(x0, .inr (3, [.ref h, .ref hh, .ref w, .ref k0]))]) [0] rfl) hz⟩ rfl rfl hl.1 rfl (lv_room (Nat.le_of_ble_eq_true rfl)) dX3_clear_2 ⟨Nat.zero_le _, Nat.zero_le _⟩) (fun r _h => ?_)
      exact absurd hk0 hbad
    · refine hw_csr (va_runV (C := RX3) (b := x0) (As := [.int (nI 1)]) (rest := []) ⟨hx, hb, hml, hown, htg⟩ (k_X3_claimAt1 l D cI cZ cJ x0 h hh w k0) (cwV 1 htg (hg_V hm_217 hm_219 hs_yX3_claimAt hm_1 hm_220) rfl rfl rfl (by decide +kernel) ⟨Nat.le_of_ble_eq_true rfl, Nat.le_of_ble_eq_true rfl⟩) ⟨hp_R_blind, va_recv (q := (RX3, TX3, 4)) (q0 := 0) (ci := 3) hK hP rfl rfl, hp_R_pre (hP.sub (ws' := [(x0, .inr (3, [.ref h, .ref hh, .ref w, .ref k0]))]) [0] rfl) hz⟩ rfl rfl hl.1 rfl (lv_room (Nat.le_of_ble_eq_true rfl)) dX3_clear_2 ⟨Nat.zero_le _, Nat.zero_le _⟩) (fun r _h => ?_)
      exact absurd hk0 hbad
  · exact hx_out (hx_runV (C := RX3) (b := x0) (As := [.int (nI cx)]) (rest := []) ⟨hx, hb, hml, hown, htg⟩ (kx_X3_claimAt l hst D cI cZ cJ sa cx x0 h hh w k0 (by omega) hk0) (cwV 1 htg (hg_V hm_217 hm_219 hs_yX3_claimAt hm_1 hm_220) rfl rfl rfl (by decide +kernel) ⟨Nat.le_of_ble_eq_true rfl, Nat.le_of_ble_eq_true rfl⟩) ⟨hp_X_blind, va_recv (q := (RX3, TX3, 4)) (q0 := 0) (ci := 3) hK hP rfl rfl, hp_X_pre (hP.sub (ws' := [(x0, .inr (3, [.ref h, .ref hh, .ref w, .ref k0]))]) [0] rfl) hz hE⟩ rfl rfl hl.1 rfl (lv_room (Nat.le_of_ble_eq_true rfl)) dX3_clear_2 ⟨Nat.le_of_ble_eq_true rfl, Nat.le_of_ble_eq_true rfl⟩) hout hlocks

set_option maxHeartbeats 4000000 in
set_option maxRecDepth 100000 in
/-- a number is wrong -/
theorem kx_X3_pieces (l : Launch) (hst : l.stackTraces = false) (D : va_G) (cI cZ cJ : ClassId) (sa : Nat → Nat) (cx : Nat) (x0 h hh w k0 : Nat) (hcx : cx < 2 ^ 32) (hbad : ¬ cx < 2) : hx_Met l yX3_pieces (Cond.code yX3_pieces cX3_pieces 2 (some .int) :: hwG) { frames := 7, cells := 1, slots := 6, locals := 103 } (hp_X [.ref x0, .int (nI cx)] D cI cZ cJ [(x0, .inr (3, [.ref h, .ref hh, .ref w, .ref k0]))] sa) hxI := by
  refine hx_ofW (cc := cX3_pieces) (maxL := 2) (ret := (some .int)) (by decide) rfl ?_
  intro p e s m args below meth c s₁ B hml hout hv
  obtain ⟨rfl, hP, hz, hE⟩ := hv
  have hx := B.exec
  have hb := B.bytes
  have hts := atoms_spec (ws := (Cond.code yX3_pieces cX3_pieces 2 (some .int) :: hwG)) B.pre
  have htg := fun w h => hts w (List.mem_cons_of_mem _ h)
  have hown : s.vm.findClass RX3 = some m.cls := findClass_of_methodNamed B.named
  have hlocks := B.notSynchronized
  have hK := hz.1
  have hl := lv_entry ([.ref x0, .int (nI cx)]) (n := 2) (Nat.le_of_ble_eq_true rfl)
  rw [lg_entry_eq]
  generalize (lg_sl ([.ref x0, .int (nI cx)]) ++ List.replicate (2 - (lg_sl ([.ref x0, .int (nI cx)])).length) Slot.unset).toArray = ls at hl ⊢
  replace hl : lv_has ls 2 [(0, .ref x0), (1, .int (nI cx))] := hl
  refine lv_aload_n hx hb dX3_pieces_0 rfl (lv_at hl 0 rfl) ?_
  refine lv_iload_n hx hb dX3_pieces_1 rfl (lv_at hl 1 rfl) ?_
  by_cases hk0 : cx < 2
  · rcases (by omega : cx = 0 ∨ cx = 1) with rfl | rfl
    · refine hw_csr (va_runV (C := RX3) (b := x0) (As := [.int (nI 0)]) (rest := []) ⟨hx, hb, hml, hown, htg⟩ (k_X3_claimAt0 l D cI cZ cJ x0 h hh w k0) (cwV 1 htg (hg_V hm_217 hm_219 hs_yX3_claimAt hm_1 hm_220) rfl rfl rfl (by decide +kernel) ⟨Nat.le_of_ble_eq_true rfl, Nat.le_of_ble_eq_true rfl⟩) ⟨hp_R_blind, va_recv (q := (RX3, TX3, 4)) (q0 := 0) (ci := 3) hK hP rfl rfl, hp_R_pre (hP.sub (ws' := [(x0, .inr (3, [.ref h, .ref hh, .ref w, .ref k0]))]) [0] rfl) hz⟩ rfl rfl hl.1 rfl (lv_room (Nat.le_of_ble_eq_true rfl)) dX3_pieces_2 ⟨Nat.zero_le _, Nat.zero_le _⟩) (fun r _h => ?_)
      exact absurd hk0 hbad
    · refine hw_csr (va_runV (C := RX3) (b := x0) (As := [.int (nI 1)]) (rest := []) ⟨hx, hb, hml, hown, htg⟩ (k_X3_claimAt1 l D cI cZ cJ x0 h hh w k0) (cwV 1 htg (hg_V hm_217 hm_219 hs_yX3_claimAt hm_1 hm_220) rfl rfl rfl (by decide +kernel) ⟨Nat.le_of_ble_eq_true rfl, Nat.le_of_ble_eq_true rfl⟩) ⟨hp_R_blind, va_recv (q := (RX3, TX3, 4)) (q0 := 0) (ci := 3) hK hP rfl rfl, hp_R_pre (hP.sub (ws' := [(x0, .inr (3, [.ref h, .ref hh, .ref w, .ref k0]))]) [0] rfl) hz⟩ rfl rfl hl.1 rfl (lv_room (Nat.le_of_ble_eq_true rfl)) dX3_pieces_2 ⟨Nat.zero_le _, Nat.zero_le _⟩) (fun r _h => ?_)
      exact absurd hk0 hbad
  · exact hx_out (hx_runV (C := RX3) (b := x0) (As := [.int (nI cx)]) (rest := []) ⟨hx, hb, hml, hown, htg⟩ (kx_X3_claimAt l hst D cI cZ cJ sa cx x0 h hh w k0 (by omega) hk0) (cwV 1 htg (hg_V hm_217 hm_219 hs_yX3_claimAt hm_1 hm_220) rfl rfl rfl (by decide +kernel) ⟨Nat.le_of_ble_eq_true rfl, Nat.le_of_ble_eq_true rfl⟩) ⟨hp_X_blind, va_recv (q := (RX3, TX3, 4)) (q0 := 0) (ci := 3) hK hP rfl rfl, hp_X_pre (hP.sub (ws' := [(x0, .inr (3, [.ref h, .ref hh, .ref w, .ref k0]))]) [0] rfl) hz hE⟩ rfl rfl hl.1 rfl (lv_room (Nat.le_of_ble_eq_true rfl)) dX3_pieces_2 ⟨Nat.le_of_ble_eq_true rfl, Nat.le_of_ble_eq_true rfl⟩) hout hlocks

set_option maxHeartbeats 4000000 in
set_option maxRecDepth 100000 in
/-- a number is wrong -/
theorem kx_X3_possible (l : Launch) (hst : l.stackTraces = false) (D : va_G) (cI cZ cJ : ClassId) (sa : Nat → Nat) (cx : Nat) (x0 h hh w k0 : Nat) (hcx : cx < 2 ^ 32) (hbad : ¬ cx < 2) : hx_Met l yX3_possible (Cond.code yX3_possible cX3_possible 5 (some .boolean) :: hwG) { frames := 7, cells := 1, slots := 6, locals := 103 } (hp_X [.ref x0, .int (nI cx)] D cI cZ cJ [(x0, .inr (3, [.ref h, .ref hh, .ref w, .ref k0]))] sa) hxI := by
  refine hx_ofW (cc := cX3_possible) (maxL := 5) (ret := (some .boolean)) (by decide) rfl ?_
  intro p e s m args below meth c s₁ B hml hout hv
  obtain ⟨rfl, hP, hz, hE⟩ := hv
  have hx := B.exec
  have hb := B.bytes
  have hts := atoms_spec (ws := (Cond.code yX3_possible cX3_possible 5 (some .boolean) :: hwG)) B.pre
  have htg := fun w h => hts w (List.mem_cons_of_mem _ h)
  have hown : s.vm.findClass RX3 = some m.cls := findClass_of_methodNamed B.named
  have hlocks := B.notSynchronized
  have hK := hz.1
  have hl := lv_entry ([.ref x0, .int (nI cx)]) (n := 5) (Nat.le_of_ble_eq_true rfl)
  rw [lg_entry_eq]
  generalize (lg_sl ([.ref x0, .int (nI cx)]) ++ List.replicate (5 - (lg_sl ([.ref x0, .int (nI cx)])).length) Slot.unset).toArray = ls at hl ⊢
  replace hl : lv_has ls 5 [(0, .ref x0), (1, .int (nI cx))] := hl
  refine lv_aload_n hx hb dX3_possible_0 rfl (lv_at hl 0 rfl) ?_
  refine lv_iload_n hx hb dX3_possible_1 rfl (lv_at hl 1 rfl) ?_
  by_cases hk0 : cx < 2
  · rcases (by omega : cx = 0 ∨ cx = 1) with rfl | rfl
    · refine hw_csr (va_runV (C := RX3) (b := x0) (As := [.int (nI 0)]) (rest := []) ⟨hx, hb, hml, hown, htg⟩ (k_X3_claimAt0 l D cI cZ cJ x0 h hh w k0) (cwV 1 htg (hg_V hm_217 hm_219 hs_yX3_claimAt hm_1 hm_220) rfl rfl rfl (by decide +kernel) ⟨Nat.le_of_ble_eq_true rfl, Nat.le_of_ble_eq_true rfl⟩) ⟨hp_R_blind, va_recv (q := (RX3, TX3, 4)) (q0 := 0) (ci := 3) hK hP rfl rfl, hp_R_pre (hP.sub (ws' := [(x0, .inr (3, [.ref h, .ref hh, .ref w, .ref k0]))]) [0] rfl) hz⟩ rfl rfl hl.1 rfl (lv_room (Nat.le_of_ble_eq_true rfl)) dX3_possible_2 ⟨Nat.zero_le _, Nat.zero_le _⟩) (fun r _h => ?_)
      exact absurd hk0 hbad
    · refine hw_csr (va_runV (C := RX3) (b := x0) (As := [.int (nI 1)]) (rest := []) ⟨hx, hb, hml, hown, htg⟩ (k_X3_claimAt1 l D cI cZ cJ x0 h hh w k0) (cwV 1 htg (hg_V hm_217 hm_219 hs_yX3_claimAt hm_1 hm_220) rfl rfl rfl (by decide +kernel) ⟨Nat.le_of_ble_eq_true rfl, Nat.le_of_ble_eq_true rfl⟩) ⟨hp_R_blind, va_recv (q := (RX3, TX3, 4)) (q0 := 0) (ci := 3) hK hP rfl rfl, hp_R_pre (hP.sub (ws' := [(x0, .inr (3, [.ref h, .ref hh, .ref w, .ref k0]))]) [0] rfl) hz⟩ rfl rfl hl.1 rfl (lv_room (Nat.le_of_ble_eq_true rfl)) dX3_possible_2 ⟨Nat.zero_le _, Nat.zero_le _⟩) (fun r _h => ?_)
      exact absurd hk0 hbad
  · exact hx_out (hx_runV (C := RX3) (b := x0) (As := [.int (nI cx)]) (rest := []) ⟨hx, hb, hml, hown, htg⟩ (kx_X3_claimAt l hst D cI cZ cJ sa cx x0 h hh w k0 (by omega) hk0) (cwV 1 htg (hg_V hm_217 hm_219 hs_yX3_claimAt hm_1 hm_220) rfl rfl rfl (by decide +kernel) ⟨Nat.le_of_ble_eq_true rfl, Nat.le_of_ble_eq_true rfl⟩) ⟨hp_X_blind, va_recv (q := (RX3, TX3, 4)) (q0 := 0) (ci := 3) hK hP rfl rfl, hp_X_pre (hP.sub (ws' := [(x0, .inr (3, [.ref h, .ref hh, .ref w, .ref k0]))]) [0] rfl) hz hE⟩ rfl rfl hl.1 rfl (lv_room (Nat.le_of_ble_eq_true rfl)) dX3_possible_2 ⟨Nat.le_of_ble_eq_true rfl, Nat.le_of_ble_eq_true rfl⟩) hout hlocks

set_option maxHeartbeats 4000000 in
set_option maxRecDepth 100000 in
/-- a number is wrong -/
theorem kx_X3_holds (l : Launch) (hst : l.stackTraces = false) (D : va_G) (cI cZ cJ : ClassId) (sa : Nat → Nat) (cx : Nat) (x0 h hh w k0 : Nat) (hcx : cx < 2 ^ 32) (hbad : ¬ cx < 2) : hx_Met l yX3_holds (Cond.code yX3_holds cX3_holds 2 (some .boolean) :: hwG) { frames := 7, cells := 1, slots := 6, locals := 103 } (hp_X [.ref x0, .int (nI cx)] D cI cZ cJ [(x0, .inr (3, [.ref h, .ref hh, .ref w, .ref k0]))] sa) hxI := by
  refine hx_ofW (cc := cX3_holds) (maxL := 2) (ret := (some .boolean)) (by decide) rfl ?_
  intro p e s m args below meth c s₁ B hml hout hv
  obtain ⟨rfl, hP, hz, hE⟩ := hv
  have hx := B.exec
  have hb := B.bytes
  have hts := atoms_spec (ws := (Cond.code yX3_holds cX3_holds 2 (some .boolean) :: hwG)) B.pre
  have htg := fun w h => hts w (List.mem_cons_of_mem _ h)
  have hown : s.vm.findClass RX3 = some m.cls := findClass_of_methodNamed B.named
  have hlocks := B.notSynchronized
  have hK := hz.1
  have hl := lv_entry ([.ref x0, .int (nI cx)]) (n := 2) (Nat.le_of_ble_eq_true rfl)
  rw [lg_entry_eq]
  generalize (lg_sl ([.ref x0, .int (nI cx)]) ++ List.replicate (2 - (lg_sl ([.ref x0, .int (nI cx)])).length) Slot.unset).toArray = ls at hl ⊢
  replace hl : lv_has ls 2 [(0, .ref x0), (1, .int (nI cx))] := hl
  refine lv_aload_n hx hb dX3_holds_0 rfl (lv_at hl 0 rfl) ?_
  refine va_get (D := D) (ci := 3) (v := .ref w) (C := RX3) (T := TX3) (N := 4) hx hb htg hi_X3 hown hK hP 0 rfl rfl 2 (by decide) (htg _ hm_114) (fun _ h9 => h9) rfl dX3_holds_1 ?_
  refine lv_aload_n hx hb dX3_holds_4 rfl (lv_at hl 0 rfl) ?_
  refine lv_iload_n hx hb dX3_holds_5 rfl (lv_at hl 1 rfl) ?_
  by_cases hk0 : cx < 2
  · rcases (by omega : cx = 0 ∨ cx = 1) with rfl | rfl
    · refine hw_csr (va_runV (C := RX3) (b := x0) (As := [.int (nI 0)]) (rest := [.ref w]) ⟨hx, hb, hml, hown, htg⟩ (k_X3_claimAt0 l D cI cZ cJ x0 h hh w k0) (cwV 1 htg (hg_V hm_217 hm_219 hs_yX3_claimAt hm_1 hm_220) rfl rfl rfl (by decide +kernel) ⟨Nat.le_of_ble_eq_true rfl, Nat.le_of_ble_eq_true rfl⟩) ⟨hp_R_blind, va_recv (q := (RX3, TX3, 4)) (q0 := 0) (ci := 3) hK hP rfl rfl, hp_R_pre (hP.sub (ws' := [(x0, .inr (3, [.ref h, .ref hh, .ref w, .ref k0]))]) [0] rfl) hz⟩ rfl rfl hl.1 rfl (lv_room (Nat.le_of_ble_eq_true rfl)) dX3_holds_6 ⟨Nat.zero_le _, Nat.zero_le _⟩) (fun r _h => ?_)
      exact absurd hk0 hbad
    · refine hw_csr (va_runV (C := RX3) (b := x0) (As := [.int (nI 1)]) (rest := [.ref w]) ⟨hx, hb, hml, hown, htg⟩ (k_X3_claimAt1 l D cI cZ cJ x0 h hh w k0) (cwV 1 htg (hg_V hm_217 hm_219 hs_yX3_claimAt hm_1 hm_220) rfl rfl rfl (by decide +kernel) ⟨Nat.le_of_ble_eq_true rfl, Nat.le_of_ble_eq_true rfl⟩) ⟨hp_R_blind, va_recv (q := (RX3, TX3, 4)) (q0 := 0) (ci := 3) hK hP rfl rfl, hp_R_pre (hP.sub (ws' := [(x0, .inr (3, [.ref h, .ref hh, .ref w, .ref k0]))]) [0] rfl) hz⟩ rfl rfl hl.1 rfl (lv_room (Nat.le_of_ble_eq_true rfl)) dX3_holds_6 ⟨Nat.zero_le _, Nat.zero_le _⟩) (fun r _h => ?_)
      exact absurd hk0 hbad
  · exact hx_out (hx_runV (C := RX3) (b := x0) (As := [.int (nI cx)]) (rest := [.ref w]) ⟨hx, hb, hml, hown, htg⟩ (kx_X3_claimAt l hst D cI cZ cJ sa cx x0 h hh w k0 (by omega) hk0) (cwV 1 htg (hg_V hm_217 hm_219 hs_yX3_claimAt hm_1 hm_220) rfl rfl rfl (by decide +kernel) ⟨Nat.le_of_ble_eq_true rfl, Nat.le_of_ble_eq_true rfl⟩) ⟨hp_X_blind, va_recv (q := (RX3, TX3, 4)) (q0 := 0) (ci := 3) hK hP rfl rfl, hp_X_pre (hP.sub (ws' := [(x0, .inr (3, [.ref h, .ref hh, .ref w, .ref k0]))]) [0] rfl) hz hE⟩ rfl rfl hl.1 rfl (lv_room (Nat.le_of_ble_eq_true rfl)) dX3_holds_6 ⟨Nat.le_of_ble_eq_true rfl, Nat.le_of_ble_eq_true rfl⟩) hout hlocks

set_option maxHeartbeats 4000000 in
set_option maxRecDepth 100000 in
/-- swap -/
theorem k_X3_swap (l : Launch) (D : va_G) (cI cZ cJ : ClassId) (sz : Nat) (x0 h hh w k0 : Nat) : Met l yX3_swap (Cond.code yX3_swap cX3_swap 2 none :: hwG) { frames := 0, cells := 0, slots := 0, locals := 0 } (hp_M [.ref x0] D cI cZ cJ [(x0, .inr (3, [.ref h, .ref hh, .ref w, .ref k0]))] sz) (va_Qv (S := Unit) (fun _ => True) (fun u t => va_P D vwCl ([(x0, .inr (3, [.ref hh, .ref h, .ref w, .ref k0]))]) t.heap) (va_A [(x0, .inr (3, [.ref h, .ref hh, .ref w, .ref k0]))] sz)) 0 0 (va_A [(x0, .inr (3, [.ref h, .ref hh, .ref w, .ref k0]))] sz) := by
  refine Met.ofW (cc := cX3_swap) (maxL := 2) (ret := none) (by decide) rfl ?_
  intro p e s m args below meth c s₁ B hml hv
  obtain ⟨rfl, hsz, hP, hz, hD0⟩ := hv
  have hx := B.exec
  have hb := B.bytes
  have hr := B.returns
  have hts := atoms_spec (ws := (Cond.code yX3_swap cX3_swap 2 none :: hwG)) B.pre
  have htg := fun w h => hts w (List.mem_cons_of_mem _ h)
  have hown : s.vm.findClass RX3 = some m.cls := findClass_of_methodNamed B.named
  have hlocks := B.notSynchronized
  have hK := hz.1
  subst hsz
  have hD := hD0.self (sz := s.heap.size)
  generalize hAe : va_A [(x0, .inr (3, [.ref h, .ref hh, .ref w, .ref k0]))] s.heap.size = A at hD ⊢
  have hA : ∀ q : Nat, s.heap.size ≤ q → A q := fun q h => by rw [← hAe]; exact Or.inr h
  have hS : va_S A s.heap s.heap [] := va_S.rf
  have hl := lv_entry ([.ref x0]) (n := 2) (Nat.le_of_ble_eq_true rfl)
  rw [lg_entry_eq]
  generalize (lg_sl ([.ref x0]) ++ List.replicate (2 - (lg_sl ([.ref x0])).length) Slot.unset).toArray = ls at hl ⊢
  replace hl : lv_has ls 2 [(0, .ref x0)] := hl
  replace hP : va_P D vwCl [(x0, .inr (3, [.ref h, .ref hh, .ref w, .ref k0]))] s.heap := hP
  refine lv_aload_n hx hb dX3_swap_0 rfl (lv_at hl 0 rfl) ?_
  refine va_get (D := D) (ci := 3) (v := .ref h) (C := RX3) (T := TX3) (N := 4) hx hb htg hi_X3 hown hK hP 0 rfl rfl 0 (by decide) (htg _ hm_112) (fun _ h9 => h9) rfl dX3_swap_1 ?_
  refine lv_astore_n hx hb dX3_swap_4 rfl hl (by decide) rfl (fun ls hl => ?_)
  replace hl : lv_has ls 2 [(1, .ref h), (0, .ref x0)] := hl
  refine lv_aload_n hx hb dX3_swap_5 rfl (lv_at hl 1 rfl) ?_
  refine lv_aload_n hx hb dX3_swap_6 rfl (lv_at hl 1 rfl) ?_
  refine va_get (D := D) (ci := 3) (v := .ref hh) (C := RX3) (T := TX3) (N := 4) hx hb htg hi_X3 hown hK hP 0 rfl rfl 1 (by decide) (htg _ hm_113) (fun _ h9 => h9) rfl dX3_swap_7 ?_
  refine va_put (D := D) (ci := 3) (v := .ref hh) (ty := .object "HeapClaims$Claim") (C := RX3) (T := TX3) (N := 4) hx hb htg hi_X3 tyX3 tyX3_ok nmX3 hown hK hP hD hS 0 rfl rfl 0 (by decide) (htg _ hm_112) (fun _ h9 => h9) rfl (by decide +kernel) rfl rfl (Nat.le_of_ble_eq_true rfl) dX3_swap_10 (fun H locs hP hD hS => ?_)
  replace hP : va_P D vwCl [(x0, .inr (3, [.ref hh, .ref hh, .ref w, .ref k0]))] H := hP
  replace hD : va_D A [(x0, .inr (3, [.ref hh, .ref hh, .ref w, .ref k0]))] := hD
  refine lv_aload_n hx hb dX3_swap_13 rfl (lv_at hl 1 rfl) ?_
  refine lv_aload_n hx hb dX3_swap_14 rfl (lv_at hl 0 rfl) ?_
  refine va_put (D := D) (ci := 3) (v := .ref h) (ty := .object "HeapClaims$Claim") (C := RX3) (T := TX3) (N := 4) hx hb htg hi_X3 tyX3 tyX3_ok nmX3 hown hK hP hD hS 0 rfl rfl 1 (by decide) (htg _ hm_113) (fun _ h9 => h9) rfl (by decide +kernel) rfl rfl (Nat.le_of_ble_eq_true rfl) dX3_swap_15 (fun H locs hP hD hS => ?_)
  replace hP : va_P D vwCl [(x0, .inr (3, [.ref hh, .ref h, .ref w, .ref k0]))] H := hP
  replace hD : va_D A [(x0, .inr (3, [.ref hh, .ref h, .ref w, .ref k0]))] := hD
  exact W.vret hx hb hr (fun t9 ht9 hW9 => ⟨⟨(), rfl, trivial, by show va_P D vwCl [(x0, .inr (3, [.ref hh, .ref h, .ref w, .ref k0]))] t9.heap; rw [ht9]; exact hP⟩, hS.F ht9⟩) hS.2.2 dX3_swap_18
