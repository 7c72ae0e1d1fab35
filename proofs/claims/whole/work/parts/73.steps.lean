def hb_u (x : Int32) (n : Nat) : Int32 := (x.toUInt32 >>> ((nI n).toUInt32 &&& Int32.toUInt32 31)).toInt32
def hb_pc (x : Int32) : Int32 := (((((((x - ((hb_u x 1) &&& 1431655765)) &&& 858993459) + ((hb_u (x - ((hb_u x 1) &&& 1431655765)) 2) &&& 858993459)) + (hb_u (((x - ((hb_u x 1) &&& 1431655765)) &&& 858993459) + ((hb_u (x - ((hb_u x 1) &&& 1431655765)) 2) &&& 858993459)) 4)) &&& 252645135) + (hb_u (((((x - ((hb_u x 1) &&& 1431655765)) &&& 858993459) + ((hb_u (x - ((hb_u x 1) &&& 1431655765)) 2) &&& 858993459)) + (hb_u (((x - ((hb_u x 1) &&& 1431655765)) &&& 858993459) + ((hb_u (x - ((hb_u x 1) &&& 1431655765)) 2) &&& 858993459)) 4)) &&& 252645135) 8)) + (hb_u ((((((x - ((hb_u x 1) &&& 1431655765)) &&& 858993459) + ((hb_u (x - ((hb_u x 1) &&& 1431655765)) 2) &&& 858993459)) + (hb_u (((x - ((hb_u x 1) &&& 1431655765)) &&& 858993459) + ((hb_u (x - ((hb_u x 1) &&& 1431655765)) 2) &&& 858993459)) 4)) &&& 252645135) + (hb_u (((((x - ((hb_u x 1) &&& 1431655765)) &&& 858993459) + ((hb_u (x - ((hb_u x 1) &&& 1431655765)) 2) &&& 858993459)) + (hb_u (((x - ((hb_u x 1) &&& 1431655765)) &&& 858993459) + ((hb_u (x - ((hb_u x 1) &&& 1431655765)) 2) &&& 858993459)) 4)) &&& 252645135) 8)) 16)) &&& (nI 63)
set_option maxRecDepth 100000 in
theorem hb_pc10 : ∀ b, b < 1024 → hb_pc (nI b) = nI ((b.testBit 0).toNat + (b.testBit 1).toNat + (b.testBit 2).toNat + (b.testBit 3).toNat + (b.testBit 4).toNat + (b.testBit 5).toNat + (b.testBit 6).toNat + (b.testBit 7).toNat + (b.testBit 8).toNat + (b.testBit 9).toNat) := by decide +kernel
theorem hb_cnt {fl : Int32} {HA : Nat → Option Nat} (h : ∀ j, j < 32 → (bt fl j = true ↔ HA j ≠ none)) (hr : ∀ a, HA a ≠ none → 1 ≤ a ∧ a ≤ 9) : hb_pc fl = nI (hh_c HA 9) := by
  obtain ⟨b, hb, rfl⟩ := hm_all fl
  have hbit : ∀ j, j < 32 → b.testBit j = bt (nI b) j := fun j hj => (hb_nI b hj).symm
  have hlt : b < 1024 := by
    refine Nat.lt_pow_two_of_testBit (n := 10) b (fun i hi => ?_)
    by_cases h32 : i < 32
    · rw [hbit i h32]
      cases h9 : bt (nI b) i with
      | false => rfl
      | true => have := hr i ((h i h32).mp h9); omega
    · exact Nat.testBit_lt_two_pow (Nat.lt_of_lt_of_le hb (Nat.pow_le_pow_right (by omega) (by omega)))
  have hv : ∀ j, j < 32 → (b.testBit j).toNat = if HA j = none then 0 else 1 := fun j hj => by
    rw [hbit j hj]
    by_cases h9 : HA j = none
    · rw [if_pos h9]
      cases h8 : bt (nI b) j with
      | false => rfl
      | true => exact absurd h9 ((h j hj).mp h8)
    · rw [if_neg h9, (h j hj).mpr h9]; rfl
  rw [hb_pc10 b hlt, hv 0 (by omega), hv 1 (by omega), hv 2 (by omega), hv 3 (by omega), hv 4 (by omega), hv 5 (by omega), hv 6 (by omega), hv 7 (by omega), hv 8 (by omega), hv 9 (by omega)]
  have h0 : HA 0 = none := by
    cases h9 : HA 0 with
    | none => rfl
    | some z => have := hr 0 (by rw [h9]; exact fun q => (by cases q)); omega
  rw [if_pos h0]
  congr 1
set_option maxHeartbeats 4000000 in
set_option maxRecDepth 100000 in
/-- give -/
theorem k_X3_give (l : Launch) (D : va_G) (cI cZ cJ : ClassId) (sz : Nat) (x y : Nat) (VW EW LW BW : Nat → Int32) (flw : Int32) (VA : Nat → Nat) (HA : Nat → Option Nat) (x0 h hh w k0 : Nat) (w0 w1 w2 w3 : Nat) (hx5 : x < 5) (hy10 : y < 10) : Met l yX3_give (Cond.code yX3_give cX3_give 3 none :: hwG) { frames := 1, cells := 0, slots := 0, locals := 21 } (hp_M [.ref x0, .int (nI x), .int (nI y)] D cI cZ cJ [(x0, .inr (3, [.ref h, .ref hh, .ref w, .ref k0])), (w, .inr (2, [.ref w0, .int (nI 9), .ref w1, .ref w2, .ref w3, .int flw])), (w0, .inl (cI, 6, .inl VW))] sz) (va_Qv (S := (Nat → Int32)) (fun u => u = upd VW x (nI y)) (fun u t => va_P D vwCl ([(x0, .inr (3, [.ref h, .ref hh, .ref w, .ref k0])), (w, .inr (2, [.ref w0, .int (nI 9), .ref w1, .ref w2, .ref w3, .int flw])), (w0, .inl (cI, 6, .inl u))]) t.heap) (va_A [(x0, .inr (3, [.ref h, .ref hh, .ref w, .ref k0])), (w, .inr (2, [.ref w0, .int (nI 9), .ref w1, .ref w2, .ref w3, .int flw])), (w0, .inl (cI, 6, .inl VW))] sz)) 0 0 (va_A [(x0, .inr (3, [.ref h, .ref hh, .ref w, .ref k0])), (w, .inr (2, [.ref w0, .int (nI 9), .ref w1, .ref w2, .ref w3, .int flw])), (w0, .inl (cI, 6, .inl VW))] sz) := by
  refine Met.ofW (cc := cX3_give) (maxL := 3) (ret := none) (by decide) rfl ?_
  intro p e s m args below meth c s₁ B hml hv
  obtain ⟨rfl, hsz, hP, hz, hD0⟩ := hv
  have hx := B.exec
  have hb := B.bytes
  have hr := B.returns
  have hts := atoms_spec (ws := (Cond.code yX3_give cX3_give 3 none :: hwG)) B.pre
  have htg := fun w h => hts w (List.mem_cons_of_mem _ h)
  have hown : s.vm.findClass RX3 = some m.cls := findClass_of_methodNamed B.named
  have hlocks := B.notSynchronized
  have hK := hz.1
  subst hsz
  have hD := hD0.self (sz := s.heap.size)
  generalize hAe : va_A [(x0, .inr (3, [.ref h, .ref hh, .ref w, .ref k0])), (w, .inr (2, [.ref w0, .int (nI 9), .ref w1, .ref w2, .ref w3, .int flw])), (w0, .inl (cI, 6, .inl VW))] s.heap.size = A at hD ⊢
  have hA : ∀ q : Nat, s.heap.size ≤ q → A q := fun q h => by rw [← hAe]; exact Or.inr h
  have hS : va_S A s.heap s.heap [] := va_S.rf
  have hl := lv_entry ([.ref x0, .int (nI x), .int (nI y)]) (n := 3) (Nat.le_of_ble_eq_true rfl)
  rw [lg_entry_eq]
  generalize (lg_sl ([.ref x0, .int (nI x), .int (nI y)]) ++ List.replicate (3 - (lg_sl ([.ref x0, .int (nI x), .int (nI y)])).length) Slot.unset).toArray = ls at hl ⊢
  replace hl : lv_has ls 3 [(0, .ref x0), (1, .int (nI x)), (2, .int (nI y))] := hl
  replace hP : va_P D vwCl [(x0, .inr (3, [.ref h, .ref hh, .ref w, .ref k0])), (w, .inr (2, [.ref w0, .int (nI 9), .ref w1, .ref w2, .ref w3, .int flw])), (w0, .inl (cI, 6, .inl VW))] s.heap := hP
  refine lv_aload_n hx hb dX3_give_0 rfl (lv_at hl 0 rfl) ?_
  refine lv_iload_n hx hb dX3_give_1 rfl (lv_at hl 1 rfl) ?_
  refine hw_csv (va_runV (C := RX3) (b := x0) (As := [.int (nI x)]) (rest := []) ⟨hx, hb, hml, hown, htg⟩ (k_X3_checkVariable l D cI cZ cJ x x0 h hh w k0 (by omega)) (cwV 1 htg (hg_V hm_388 hm_390 hs_yX3_checkVariable hm_1 hm_391) rfl rfl rfl (by decide +kernel) ⟨Nat.le_of_ble_eq_true rfl, Nat.le_of_ble_eq_true rfl⟩) ⟨hp_R_blind, va_recv (q := (RX3, TX3, 4)) (q0 := 0) (ci := 3) hK hP rfl rfl, hp_R_pre (hP.sub (ws' := [(x0, .inr (3, [.ref h, .ref hh, .ref w, .ref k0]))]) [0] rfl) hz⟩ rfl rfl hl.1 rfl (lv_room (Nat.le_of_ble_eq_true rfl)) dX3_give_2 ⟨Nat.zero_le _, Nat.zero_le _⟩) (fun _h => ?_)
  refine lv_aload_n hx hb dX3_give_5 rfl (lv_at hl 0 rfl) ?_
  refine lv_iload_n hx hb dX3_give_6 rfl (lv_at hl 2 rfl) ?_
  refine hw_csv (va_runV (C := RX3) (b := x0) (As := [.int (nI y)]) (rest := []) ⟨hx, hb, hml, hown, htg⟩ (k_X3_checkValue l D cI cZ cJ y x0 h hh w k0 (by omega)) (cwV 1 htg (hg_V hm_393 hm_395 hs_yX3_checkValue hm_1 hm_396) rfl rfl rfl (by decide +kernel) ⟨Nat.le_of_ble_eq_true rfl, Nat.le_of_ble_eq_true rfl⟩) ⟨hp_R_blind, va_recv (q := (RX3, TX3, 4)) (q0 := 0) (ci := 3) hK hP rfl rfl, hp_R_pre (hP.sub (ws' := [(x0, .inr (3, [.ref h, .ref hh, .ref w, .ref k0]))]) [0] rfl) hz⟩ rfl rfl hl.1 rfl (lv_room (Nat.le_of_ble_eq_true rfl)) dX3_give_7 ⟨Nat.zero_le _, Nat.zero_le _⟩) (fun _h => ?_)
  refine lv_aload_n hx hb dX3_give_10 rfl (lv_at hl 0 rfl) ?_
  refine va_get (D := D) (ci := 3) (v := .ref w) (C := RX3) (T := TX3) (N := 4) hx hb htg hi_X3 hown hK hP 0 rfl rfl 2 (by decide) (htg _ hm_114) (fun _ h9 => h9) rfl dX3_give_11 ?_
  refine va_getN (D := D) (ci := 2) (v := .ref w0) (C := RX2) (T := TX2) (N := 6) hx hb htg hi_X2 hown hK hP 1 rfl rfl 0 (by decide) (hz_useF hz hn_75) (fun _ h9 => h9) rfl dX3_give_14 ?_
  refine lv_iload_n hx hb dX3_give_17 rfl (lv_at hl 1 rfl) ?_
  refine lv_iload_n hx hb dX3_give_18 rfl (lv_at hl 2 rfl) ?_
  refine hw_iast hx hb hK hP hD hS 2 0 rfl rfl (j := x) (by omega) (by first | decide | omega) dX3_give_19 (fun H locs hP hD hS => ?_)
  replace hP : va_P D vwCl [(x0, .inr (3, [.ref h, .ref hh, .ref w, .ref k0])), (w, .inr (2, [.ref w0, .int (nI 9), .ref w1, .ref w2, .ref w3, .int flw])), (w0, .inl (cI, 6, .inl (upd VW x (nI y))))] H := hP
  replace hD : va_D A [(x0, .inr (3, [.ref h, .ref hh, .ref w, .ref k0])), (w, .inr (2, [.ref w0, .int (nI 9), .ref w1, .ref w2, .ref w3, .int flw])), (w0, .inl (cI, 6, .inl (upd VW x (nI y))))] := hD
  exact W.vret hx hb hr (fun t9 ht9 hW9 => ⟨⟨upd VW x (nI y), rfl, rfl, by show va_P D vwCl [(x0, .inr (3, [.ref h, .ref hh, .ref w, .ref k0])), (w, .inr (2, [.ref w0, .int (nI 9), .ref w1, .ref w2, .ref w3, .int flw])), (w0, .inl (cI, 6, .inl (upd VW x (nI y))))] t9.heap; rw [ht9]; exact hP⟩, hS.F ht9⟩) hS.2.2 dX3_give_20

set_option maxHeartbeats 4000000 in
set_option maxRecDepth 100000 in
/-- a number is wrong -/
theorem kx_X3_give (l : Launch) (hst : l.stackTraces = false) (D : va_G) (cI cZ cJ : ClassId) (sa : Nat → Nat) (x y : Nat) (x0 h hh w k0 : Nat) (hx9 : x < 2 ^ 32) (hy : y < 2 ^ 32) (hbad : ¬ x < 5) : hx_Met l yX3_give (Cond.code yX3_give cX3_give 3 none :: hwG) { frames := 7, cells := 1, slots := 6, locals := 103 } (hp_X [.ref x0, .int (nI x), .int (nI y)] D cI cZ cJ [(x0, .inr (3, [.ref h, .ref hh, .ref w, .ref k0]))] sa) hxI := by
  refine hx_ofW (cc := cX3_give) (maxL := 3) (ret := none) (by decide) rfl ?_
  intro p e s m args below meth c s₁ B hml hout hv
  obtain ⟨rfl, hP, hz, hE⟩ := hv
  have hx := B.exec
  have hb := B.bytes
  have hts := atoms_spec (ws := (Cond.code yX3_give cX3_give 3 none :: hwG)) B.pre
  have htg := fun w h => hts w (List.mem_cons_of_mem _ h)
  have hown : s.vm.findClass RX3 = some m.cls := findClass_of_methodNamed B.named
  have hlocks := B.notSynchronized
  have hK := hz.1
  have hl := lv_entry ([.ref x0, .int (nI x), .int (nI y)]) (n := 3) (Nat.le_of_ble_eq_true rfl)
  rw [lg_entry_eq]
  generalize (lg_sl ([.ref x0, .int (nI x), .int (nI y)]) ++ List.replicate (3 - (lg_sl ([.ref x0, .int (nI x), .int (nI y)])).length) Slot.unset).toArray = ls at hl ⊢
  replace hl : lv_has ls 3 [(0, .ref x0), (1, .int (nI x)), (2, .int (nI y))] := hl
  refine lv_aload_n hx hb dX3_give_0 rfl (lv_at hl 0 rfl) ?_
  refine lv_iload_n hx hb dX3_give_1 rfl (lv_at hl 1 rfl) ?_
  by_cases hk0 : x < 5
  · refine hw_csv (va_runV (C := RX3) (b := x0) (As := [.int (nI x)]) (rest := []) ⟨hx, hb, hml, hown, htg⟩ (k_X3_checkVariable l D cI cZ cJ x x0 h hh w k0 (by omega)) (cwV 1 htg (hg_V hm_388 hm_390 hs_yX3_checkVariable hm_1 hm_391) rfl rfl rfl (by decide +kernel) ⟨Nat.le_of_ble_eq_true rfl, Nat.le_of_ble_eq_true rfl⟩) ⟨hp_R_blind, va_recv (q := (RX3, TX3, 4)) (q0 := 0) (ci := 3) hK hP rfl rfl, hp_R_pre (hP.sub (ws' := [(x0, .inr (3, [.ref h, .ref hh, .ref w, .ref k0]))]) [0] rfl) hz⟩ rfl rfl hl.1 rfl (lv_room (Nat.le_of_ble_eq_true rfl)) dX3_give_2 ⟨Nat.zero_le _, Nat.zero_le _⟩) (fun _h => ?_)
    exact absurd hk0 hbad
  · exact hx_out (hx_runV (C := RX3) (b := x0) (As := [.int (nI x)]) (rest := []) ⟨hx, hb, hml, hown, htg⟩ (kx_X3_checkVariable l hst D cI cZ cJ sa x x0 h hh w k0 (by omega) hk0) (cwV 1 htg (hg_V hm_388 hm_390 hs_yX3_checkVariable hm_1 hm_391) rfl rfl rfl (by decide +kernel) ⟨Nat.le_of_ble_eq_true rfl, Nat.le_of_ble_eq_true rfl⟩) ⟨hp_X_blind, va_recv (q := (RX3, TX3, 4)) (q0 := 0) (ci := 3) hK hP rfl rfl, hp_X_pre (hP.sub (ws' := [(x0, .inr (3, [.ref h, .ref hh, .ref w, .ref k0]))]) [0] rfl) hz hE⟩ rfl rfl hl.1 rfl (lv_room (Nat.le_of_ble_eq_true rfl)) dX3_give_2 ⟨Nat.le_of_ble_eq_true rfl, Nat.le_of_ble_eq_true rfl⟩) hout hlocks

set_option maxHeartbeats 4000000 in
set_option maxRecDepth 100000 in
/-- no such value -/
theorem kf_X3_give (l : Launch) (hst : l.stackTraces = false) (D : va_G) (cI cZ cJ : ClassId) (sa : Nat → Nat) (x y : Nat) (x0 h hh w k0 : Nat) (hx5 : x < 5) (hy : y < 2 ^ 32) (hbad : ¬ y < 10) : hx_Met l yX3_give (Cond.code yX3_give cX3_give 3 none :: hwG) { frames := 7, cells := 1, slots := 6, locals := 103 } (hp_X [.ref x0, .int (nI x), .int (nI y)] D cI cZ cJ [(x0, .inr (3, [.ref h, .ref hh, .ref w, .ref k0]))] sa) hxA := by
  refine hx_ofW (cc := cX3_give) (maxL := 3) (ret := none) (by decide) rfl ?_
  intro p e s m args below meth c s₁ B hml hout hv
  obtain ⟨rfl, hP, hz, hE⟩ := hv
  have hx := B.exec
  have hb := B.bytes
  have hts := atoms_spec (ws := (Cond.code yX3_give cX3_give 3 none :: hwG)) B.pre
  have htg := fun w h => hts w (List.mem_cons_of_mem _ h)
  have hown : s.vm.findClass RX3 = some m.cls := findClass_of_methodNamed B.named
  have hlocks := B.notSynchronized
  have hK := hz.1
  have hl := lv_entry ([.ref x0, .int (nI x), .int (nI y)]) (n := 3) (Nat.le_of_ble_eq_true rfl)
  rw [lg_entry_eq]
  generalize (lg_sl ([.ref x0, .int (nI x), .int (nI y)]) ++ List.replicate (3 - (lg_sl ([.ref x0, .int (nI x), .int (nI y)])).length) Slot.unset).toArray = ls at hl ⊢
  replace hl : lv_has ls 3 [(0, .ref x0), (1, .int (nI x)), (2, .int (nI y))] := hl
  refine lv_aload_n hx hb dX3_give_0 rfl (lv_at hl 0 rfl) ?_
  refine lv_iload_n hx hb dX3_give_1 rfl (lv_at hl 1 rfl) ?_
  refine hw_csv (va_runV (C := RX3) (b := x0) (As := [.int (nI x)]) (rest := []) ⟨hx, hb, hml, hown, htg⟩ (k_X3_checkVariable l D cI cZ cJ x x0 h hh w k0 (by omega)) (cwV 1 htg (hg_V hm_388 hm_390 hs_yX3_checkVariable hm_1 hm_391) rfl rfl rfl (by decide +kernel) ⟨Nat.le_of_ble_eq_true rfl, Nat.le_of_ble_eq_true rfl⟩) ⟨hp_R_blind, va_recv (q := (RX3, TX3, 4)) (q0 := 0) (ci := 3) hK hP rfl rfl, hp_R_pre (hP.sub (ws' := [(x0, .inr (3, [.ref h, .ref hh, .ref w, .ref k0]))]) [0] rfl) hz⟩ rfl rfl hl.1 rfl (lv_room (Nat.le_of_ble_eq_true rfl)) dX3_give_2 ⟨Nat.zero_le _, Nat.zero_le _⟩) (fun _h => ?_)
  refine lv_aload_n hx hb dX3_give_5 rfl (lv_at hl 0 rfl) ?_
  refine lv_iload_n hx hb dX3_give_6 rfl (lv_at hl 2 rfl) ?_
  exact hx_out (hx_runV (C := RX3) (b := x0) (As := [.int (nI y)]) (rest := []) ⟨hx, hb, hml, hown, htg⟩ (kx_X3_checkValue l hst D cI cZ cJ sa y x0 h hh w k0 hy (by omega)) (cwV 1 htg (hg_V hm_393 hm_395 hs_yX3_checkValue hm_1 hm_396) rfl rfl rfl (by decide +kernel) ⟨Nat.le_of_ble_eq_true rfl, Nat.le_of_ble_eq_true rfl⟩) ⟨hp_X_blind, va_recv (q := (RX3, TX3, 4)) (q0 := 0) (ci := 3) hK hP rfl rfl, hp_X_pre (hP.sub (ws' := [(x0, .inr (3, [.ref h, .ref hh, .ref w, .ref k0]))]) [0] rfl) hz hE⟩ rfl rfl hl.1 rfl (lv_room (Nat.le_of_ble_eq_true rfl)) dX3_give_7 ⟨Nat.le_of_ble_eq_true rfl, Nat.le_of_ble_eq_true rfl⟩) hout hlocks

set_option maxHeartbeats 4000000 in
set_option maxRecDepth 100000 in
/-- put -/
theorem k_X3_put (l : Launch) (D : va_G) (cI cZ cJ : ClassId) (sz : Nat) (x y : Nat) (VW EW LW BW : Nat → Int32) (flw : Int32) (VA : Nat → Nat) (HA : Nat → Option Nat) (x0 h hh w k0 : Nat) (w0 w1 w2 w3 : Nat) (hx1 : 1 ≤ x) (hx5 : x ≤ 9) (hy10 : y < 10) : Met l yX3_put (Cond.code yX3_put cX3_put 3 none :: hwG) { frames := 2, cells := 0, slots := 0, locals := 46 } (hp_M [.ref x0, .int (nI x), .int (nI y)] D cI cZ cJ [(x0, .inr (3, [.ref h, .ref hh, .ref w, .ref k0])), (w, .inr (2, [.ref w0, .int (nI 9), .ref w1, .ref w2, .ref w3, .int flw])), (w1, .inl (cI, 9 + 1, .inl EW)), (w2, .inl (cZ, 9 + 1, .inl LW)), (w3, .inl (cI, 9 + 1, .inl BW))] sz) (va_Qv (S := (Nat → Int32) × (Nat → Int32) × (Nat → Int32) × Int32) (fun u => u.1 = upd EW (x) (nI y) ∧ u.2.1 = upd LW (x) (hc_b false) ∧ u.2.2.1 = upd BW (x) (nI 1 <<< (nI (x) &&& 31)) ∧ u.2.2.2 = flw ||| (nI 1 <<< (nI (x) &&& 31))) (fun u t => va_P D vwCl (((x0, .inr (3, [.ref h, .ref hh, .ref w, .ref k0]))) :: [(w, .inr (2, [.ref w0, .int (nI 9), .ref w1, .ref w2, .ref w3, .int u.2.2.2])), (w1, .inl (cI, 9 + 1, .inl u.1)), (w2, .inl (cZ, 9 + 1, .inl u.2.1)), (w3, .inl (cI, 9 + 1, .inl u.2.2.1))]) t.heap) (va_A [(x0, .inr (3, [.ref h, .ref hh, .ref w, .ref k0])), (w, .inr (2, [.ref w0, .int (nI 9), .ref w1, .ref w2, .ref w3, .int flw])), (w1, .inl (cI, 9 + 1, .inl EW)), (w2, .inl (cZ, 9 + 1, .inl LW)), (w3, .inl (cI, 9 + 1, .inl BW))] sz)) 0 0 (va_A [(x0, .inr (3, [.ref h, .ref hh, .ref w, .ref k0])), (w, .inr (2, [.ref w0, .int (nI 9), .ref w1, .ref w2, .ref w3, .int flw])), (w1, .inl (cI, 9 + 1, .inl EW)), (w2, .inl (cZ, 9 + 1, .inl LW)), (w3, .inl (cI, 9 + 1, .inl BW))] sz) := by
  refine Met.ofW (cc := cX3_put) (maxL := 3) (ret := none) (by decide) rfl ?_
  intro p e s m args below meth c s₁ B hml hv
  obtain ⟨rfl, hsz, hP, hz, hD0⟩ := hv
  have hx := B.exec
  have hb := B.bytes
  have hr := B.returns
  have hts := atoms_spec (ws := (Cond.code yX3_put cX3_put 3 none :: hwG)) B.pre
  have htg := fun w h => hts w (List.mem_cons_of_mem _ h)
  have hown : s.vm.findClass RX3 = some m.cls := findClass_of_methodNamed B.named
  have hlocks := B.notSynchronized
  have hK := hz.1
  subst hsz
  have hD := hD0.self (sz := s.heap.size)
  generalize hAe : va_A [(x0, .inr (3, [.ref h, .ref hh, .ref w, .ref k0])), (w, .inr (2, [.ref w0, .int (nI 9), .ref w1, .ref w2, .ref w3, .int flw])), (w1, .inl (cI, 9 + 1, .inl EW)), (w2, .inl (cZ, 9 + 1, .inl LW)), (w3, .inl (cI, 9 + 1, .inl BW))] s.heap.size = A at hD ⊢
  have hA : ∀ q : Nat, s.heap.size ≤ q → A q := fun q h => by rw [← hAe]; exact Or.inr h
  have hS : va_S A s.heap s.heap [] := va_S.rf
  have hl := lv_entry ([.ref x0, .int (nI x), .int (nI y)]) (n := 3) (Nat.le_of_ble_eq_true rfl)
  rw [lg_entry_eq]
  generalize (lg_sl ([.ref x0, .int (nI x), .int (nI y)]) ++ List.replicate (3 - (lg_sl ([.ref x0, .int (nI x), .int (nI y)])).length) Slot.unset).toArray = ls at hl ⊢
  replace hl : lv_has ls 3 [(0, .ref x0), (1, .int (nI x)), (2, .int (nI y))] := hl
  replace hP : va_P D vwCl [(x0, .inr (3, [.ref h, .ref hh, .ref w, .ref k0])), (w, .inr (2, [.ref w0, .int (nI 9), .ref w1, .ref w2, .ref w3, .int flw])), (w1, .inl (cI, 9 + 1, .inl EW)), (w2, .inl (cZ, 9 + 1, .inl LW)), (w3, .inl (cI, 9 + 1, .inl BW))] s.heap := hP
  refine lv_iload_n hx hb dX3_put_0 rfl (lv_at hl 1 rfl) ?_
  refine lv_if_ne hx hb dX3_put_1 rfl (fun hc => ?_) (fun hc => absurd ((hm_eq (b := 0) (by omega) (by omega)).mp hc) (by omega))
  refine lv_aload_n hx hb dX3_put_14 rfl (lv_at hl 0 rfl) ?_
  refine lv_iload_n hx hb dX3_put_15 rfl (lv_at hl 1 rfl) ?_
  refine hw_csv (va_runV (C := RX3) (b := x0) (As := [.int (nI x)]) (rest := []) ⟨hx, hb, hml, hown, htg⟩ (k_X3_checkValue l D cI cZ cJ x x0 h hh w k0 (by omega)) (cwV 1 htg (hg_V hm_393 hm_395 hs_yX3_checkValue hm_1 hm_396) rfl rfl rfl (by decide +kernel) ⟨Nat.le_of_ble_eq_true rfl, Nat.le_of_ble_eq_true rfl⟩) ⟨hp_R_blind, va_recv (q := (RX3, TX3, 4)) (q0 := 0) (ci := 3) hK hP rfl rfl, hp_R_pre (hP.sub (ws' := [(x0, .inr (3, [.ref h, .ref hh, .ref w, .ref k0]))]) [0] rfl) hz⟩ rfl rfl hl.1 rfl (lv_room (Nat.le_of_ble_eq_true rfl)) dX3_put_16 ⟨Nat.zero_le _, Nat.zero_le _⟩) (fun _h => ?_)
  refine lv_aload_n hx hb dX3_put_19 rfl (lv_at hl 0 rfl) ?_
  refine lv_iload_n hx hb dX3_put_20 rfl (lv_at hl 2 rfl) ?_
  refine hw_csv (va_runV (C := RX3) (b := x0) (As := [.int (nI y)]) (rest := []) ⟨hx, hb, hml, hown, htg⟩ (k_X3_checkValue l D cI cZ cJ y x0 h hh w k0 (by omega)) (cwV 1 htg (hg_V hm_393 hm_395 hs_yX3_checkValue hm_1 hm_396) rfl rfl rfl (by decide +kernel) ⟨Nat.le_of_ble_eq_true rfl, Nat.le_of_ble_eq_true rfl⟩) ⟨hp_R_blind, va_recv (q := (RX3, TX3, 4)) (q0 := 0) (ci := 3) hK hP rfl rfl, hp_R_pre (hP.sub (ws' := [(x0, .inr (3, [.ref h, .ref hh, .ref w, .ref k0]))]) [0] rfl) hz⟩ rfl rfl hl.1 rfl (lv_room (Nat.le_of_ble_eq_true rfl)) dX3_put_21 ⟨Nat.zero_le _, Nat.zero_le _⟩) (fun _h => ?_)
  refine lv_aload_n hx hb dX3_put_24 rfl (lv_at hl 0 rfl) ?_
  refine va_get (D := D) (ci := 3) (v := .ref w) (C := RX3) (T := TX3) (N := 4) hx hb htg hi_X3 hown hK hP 0 rfl rfl 2 (by decide) (htg _ hm_114) (fun _ h9 => h9) rfl dX3_put_25 ?_
  refine lv_iload_n hx hb dX3_put_28 rfl (lv_at hl 1 rfl) ?_
  refine lv_iload_n hx hb dX3_put_29 rfl (lv_at hl 2 rfl) ?_
  refine hv_callv (w1 := fun u : (Nat → Int32) × (Nat → Int32) × (Nat → Int32) × Int32 => [(w, .inr (2, [.ref w0, .int (nI 9), .ref w1, .ref w2, .ref w3, .int u.2.2.2])), (w1, .inl (cI, 9 + 1, .inl u.1)), (w2, .inl (cZ, 9 + 1, .inl u.2.1)), (w3, .inl (cI, 9 + 1, .inl u.2.2.1))]) (va_runV (C := RX2) (b := w) (As := [.int (nI x), .int (nI y)]) (rest := []) ⟨hx, hb, hml, hown, htg⟩ (k_X2_setCell l D cI cZ cJ _ x (nI y) 9 EW LW BW flw w w0 w1 w2 w3 (by decide) (by omega)) (cwV 2 htg (hg_V hm_406 hm_407 hm_408 hm_3 hm_409) rfl rfl rfl (by decide +kernel) ⟨Nat.le_of_ble_eq_true rfl, Nat.le_of_ble_eq_true rfl⟩) ⟨hp_M_blind, va_recv (q := (RX2, TX2, 6)) (q0 := 1) (ci := 2) hK hP rfl rfl, hp_M_pre (hP.sub (ws' := [(w, .inr (2, [.ref w0, .int (nI 9), .ref w1, .ref w2, .ref w3, .int flw])), (w1, .inl (cI, 9 + 1, .inl EW)), (w2, .inl (cZ, 9 + 1, .inl LW)), (w3, .inl (cI, 9 + 1, .inl BW))]) [1, 2, 3, 4] rfl) (hD.sub (ws' := [(w, .inr (2, [.ref w0, .int (nI 9), .ref w1, .ref w2, .ref w3, .int flw])), (w1, .inl (cI, 9 + 1, .inl EW)), (w2, .inl (cZ, 9 + 1, .inl LW)), (w3, .inl (cI, 9 + 1, .inl BW))]) [1, 2, 3, 4] (by decide) rfl) hz⟩ rfl rfl hl.1 rfl (lv_room (Nat.le_of_ble_eq_true rfl)) dX3_put_30 ⟨Nat.zero_le _, Nat.zero_le _⟩) hP hD hS hA [1, 2, 3, 4] rfl (fun _ => rfl) (fun u1 H locs h1 hP hD hS => ?_)
  replace hP : va_P D vwCl [(x0, .inr (3, [.ref h, .ref hh, .ref w, .ref k0])), (w, .inr (2, [.ref w0, .int (nI 9), .ref w1, .ref w2, .ref w3, .int u1.2.2.2])), (w1, .inl (cI, 9 + 1, .inl u1.1)), (w2, .inl (cZ, 9 + 1, .inl u1.2.1)), (w3, .inl (cI, 9 + 1, .inl u1.2.2.1))] H := hP
  replace hD : va_D A [(x0, .inr (3, [.ref h, .ref hh, .ref w, .ref k0])), (w, .inr (2, [.ref w0, .int (nI 9), .ref w1, .ref w2, .ref w3, .int u1.2.2.2])), (w1, .inl (cI, 9 + 1, .inl u1.1)), (w2, .inl (cZ, 9 + 1, .inl u1.2.1)), (w3, .inl (cI, 9 + 1, .inl u1.2.2.1))] := hD
  exact W.vret hx hb hr (fun t9 ht9 hW9 => ⟨⟨u1, rfl, h1, by show va_P D vwCl [(x0, .inr (3, [.ref h, .ref hh, .ref w, .ref k0])), (w, .inr (2, [.ref w0, .int (nI 9), .ref w1, .ref w2, .ref w3, .int u1.2.2.2])), (w1, .inl (cI, 9 + 1, .inl u1.1)), (w2, .inl (cZ, 9 + 1, .inl u1.2.1)), (w3, .inl (cI, 9 + 1, .inl u1.2.2.1))] t9.heap; rw [ht9]; exact hP⟩, hS.F ht9⟩) hS.2.2 dX3_put_33

set_option maxHeartbeats 4000000 in
set_option maxRecDepth 100000 in
/-- no address or value -/
theorem kx_X3_put (l : Launch) (hst : l.stackTraces = false) (D : va_G) (cI cZ cJ : ClassId) (sa : Nat → Nat) (x y : Nat) (x0 h hh w k0 : Nat) (hx9 : x < 2 ^ 32) (hy : y < 2 ^ 32) (hbad : ¬ (1 ≤ x ∧ x ≤ 9 ∧ y < 10)) : hx_Met l yX3_put (Cond.code yX3_put cX3_put 3 none :: hwG) { frames := 7, cells := 1, slots := 6, locals := 103 } (hp_X [.ref x0, .int (nI x), .int (nI y)] D cI cZ cJ [(x0, .inr (3, [.ref h, .ref hh, .ref w, .ref k0]))] sa) hxA := by
  refine hx_ofW (cc := cX3_put) (maxL := 3) (ret := none) (by decide) rfl ?_
  intro p e s m args below meth c s₁ B hml hout hv
  obtain ⟨rfl, hP, hz, hE⟩ := hv
  have hx := B.exec
  have hb := B.bytes
  have hts := atoms_spec (ws := (Cond.code yX3_put cX3_put 3 none :: hwG)) B.pre
  have htg := fun w h => hts w (List.mem_cons_of_mem _ h)
  have hown : s.vm.findClass RX3 = some m.cls := findClass_of_methodNamed B.named
  have hlocks := B.notSynchronized
  have hK := hz.1
  have hl := lv_entry ([.ref x0, .int (nI x), .int (nI y)]) (n := 3) (Nat.le_of_ble_eq_true rfl)
  rw [lg_entry_eq]
  generalize (lg_sl ([.ref x0, .int (nI x), .int (nI y)]) ++ List.replicate (3 - (lg_sl ([.ref x0, .int (nI x), .int (nI y)])).length) Slot.unset).toArray = ls at hl ⊢
  replace hl : lv_has ls 3 [(0, .ref x0), (1, .int (nI x)), (2, .int (nI y))] := hl
  refine lv_iload_n hx hb dX3_put_0 rfl (lv_at hl 1 rfl) ?_
  refine lv_if_ne hx hb dX3_put_1 rfl (fun h0 => ?_) (fun h0 => ?_)
  · have h0 : x ≠ 0 := fun q => h0 (by rw [q]; rfl)
    refine lv_aload_n hx hb dX3_put_14 rfl (lv_at hl 0 rfl) ?_
    refine lv_iload_n hx hb dX3_put_15 rfl (lv_at hl 1 rfl) ?_
    by_cases hk0 : x < 10
    · refine hw_csv (va_runV (C := RX3) (b := x0) (As := [.int (nI x)]) (rest := []) ⟨hx, hb, hml, hown, htg⟩ (k_X3_checkValue l D cI cZ cJ x x0 h hh w k0 (by omega)) (cwV 1 htg (hg_V hm_393 hm_395 hs_yX3_checkValue hm_1 hm_396) rfl rfl rfl (by decide +kernel) ⟨Nat.le_of_ble_eq_true rfl, Nat.le_of_ble_eq_true rfl⟩) ⟨hp_R_blind, va_recv (q := (RX3, TX3, 4)) (q0 := 0) (ci := 3) hK hP rfl rfl, hp_R_pre (hP.sub (ws' := [(x0, .inr (3, [.ref h, .ref hh, .ref w, .ref k0]))]) [0] rfl) hz⟩ rfl rfl hl.1 rfl (lv_room (Nat.le_of_ble_eq_true rfl)) dX3_put_16 ⟨Nat.zero_le _, Nat.zero_le _⟩) (fun _h => ?_)
      refine lv_aload_n hx hb dX3_put_19 rfl (lv_at hl 0 rfl) ?_
      refine lv_iload_n hx hb dX3_put_20 rfl (lv_at hl 2 rfl) ?_
      exact hx_out (hx_runV (C := RX3) (b := x0) (As := [.int (nI y)]) (rest := []) ⟨hx, hb, hml, hown, htg⟩ (kx_X3_checkValue l hst D cI cZ cJ sa y x0 h hh w k0 hy (by omega)) (cwV 1 htg (hg_V hm_393 hm_395 hs_yX3_checkValue hm_1 hm_396) rfl rfl rfl (by decide +kernel) ⟨Nat.le_of_ble_eq_true rfl, Nat.le_of_ble_eq_true rfl⟩) ⟨hp_X_blind, va_recv (q := (RX3, TX3, 4)) (q0 := 0) (ci := 3) hK hP rfl rfl, hp_X_pre (hP.sub (ws' := [(x0, .inr (3, [.ref h, .ref hh, .ref w, .ref k0]))]) [0] rfl) hz hE⟩ rfl rfl hl.1 rfl (lv_room (Nat.le_of_ble_eq_true rfl)) dX3_put_21 ⟨Nat.le_of_ble_eq_true rfl, Nat.le_of_ble_eq_true rfl⟩) hout hlocks
    · exact hx_out (hx_runV (C := RX3) (b := x0) (As := [.int (nI x)]) (rest := []) ⟨hx, hb, hml, hown, htg⟩ (kx_X3_checkValue l hst D cI cZ cJ sa x x0 h hh w k0 hx9 hk0) (cwV 1 htg (hg_V hm_393 hm_395 hs_yX3_checkValue hm_1 hm_396) rfl rfl rfl (by decide +kernel) ⟨Nat.le_of_ble_eq_true rfl, Nat.le_of_ble_eq_true rfl⟩) ⟨hp_X_blind, va_recv (q := (RX3, TX3, 4)) (q0 := 0) (ci := 3) hK hP rfl rfl, hp_X_pre (hP.sub (ws' := [(x0, .inr (3, [.ref h, .ref hh, .ref w, .ref k0]))]) [0] rfl) hz hE⟩ rfl rfl hl.1 rfl (lv_room (Nat.le_of_ble_eq_true rfl)) dX3_put_16 ⟨Nat.le_of_ble_eq_true rfl, Nat.le_of_ble_eq_true rfl⟩) hout hlocks
  · exact hx_throw hx hb hst (own := RX3) (cls := hxA) (names := hxN) (ik := 81) (is := 100) (ic := 85) hown (by decide) (by decide) (htg _ hm_361) (htg _ hm_13) (hE.2 (100, "0 is no address") (by decide)) (hx_own hx_oA htg hE.1) (hl.1.trans hml.symm) dX3_put_4 dX3_put_7 dX3_put_8 dX3_put_10 dX3_put_13 hout (Nat.le_of_ble_eq_true rfl) (Nat.le_of_ble_eq_true rfl) (Nat.le_of_ble_eq_true rfl) (Nat.le_of_ble_eq_true rfl) hlocks

set_option maxHeartbeats 4000000 in
set_option maxRecDepth 100000 in
/-- copy -/
theorem k_X3_copy (l : Launch) (D : va_G) (cI cZ cJ : ClassId) (sz : Nat) (x y : Nat) (VW EW LW BW : Nat → Int32) (flw : Int32) (VA : Nat → Nat) (HA : Nat → Option Nat) (x0 h hh w k0 : Nat) (w0 w1 w2 w3 : Nat) (hV : ∀ j, j < 6 → VW j = nI (VA j)) (hx5 : x < 5) (hy6 : y < 6) : Met l yX3_copy (Cond.code yX3_copy cX3_copy 3 none :: hwG) { frames := 1, cells := 0, slots := 0, locals := 21 } (hp_M [.ref x0, .int (nI x), .int (nI y)] D cI cZ cJ [(x0, .inr (3, [.ref h, .ref hh, .ref w, .ref k0])), (w, .inr (2, [.ref w0, .int (nI 9), .ref w1, .ref w2, .ref w3, .int flw])), (w0, .inl (cI, 6, .inl VW))] sz) (va_Qv (S := (Nat → Int32)) (fun u => u = upd VW x (nI (VA y))) (fun u t => va_P D vwCl ([(x0, .inr (3, [.ref h, .ref hh, .ref w, .ref k0])), (w, .inr (2, [.ref w0, .int (nI 9), .ref w1, .ref w2, .ref w3, .int flw])), (w0, .inl (cI, 6, .inl u))]) t.heap) (va_A [(x0, .inr (3, [.ref h, .ref hh, .ref w, .ref k0])), (w, .inr (2, [.ref w0, .int (nI 9), .ref w1, .ref w2, .ref w3, .int flw])), (w0, .inl (cI, 6, .inl VW))] sz)) 0 0 (va_A [(x0, .inr (3, [.ref h, .ref hh, .ref w, .ref k0])), (w, .inr (2, [.ref w0, .int (nI 9), .ref w1, .ref w2, .ref w3, .int flw])), (w0, .inl (cI, 6, .inl VW))] sz) := by
  refine Met.ofW (cc := cX3_copy) (maxL := 3) (ret := none) (by decide) rfl ?_
  intro p e s m args below meth c s₁ B hml hv
  obtain ⟨rfl, hsz, hP, hz, hD0⟩ := hv
  have hx := B.exec
  have hb := B.bytes
  have hr := B.returns
  have hts := atoms_spec (ws := (Cond.code yX3_copy cX3_copy 3 none :: hwG)) B.pre
  have htg := fun w h => hts w (List.mem_cons_of_mem _ h)
  have hown : s.vm.findClass RX3 = some m.cls := findClass_of_methodNamed B.named
  have hlocks := B.notSynchronized
  have hK := hz.1
  subst hsz
  have hD := hD0.self (sz := s.heap.size)
  generalize hAe : va_A [(x0, .inr (3, [.ref h, .ref hh, .ref w, .ref k0])), (w, .inr (2, [.ref w0, .int (nI 9), .ref w1, .ref w2, .ref w3, .int flw])), (w0, .inl (cI, 6, .inl VW))] s.heap.size = A at hD ⊢
  have hA : ∀ q : Nat, s.heap.size ≤ q → A q := fun q h => by rw [← hAe]; exact Or.inr h
  have hS : va_S A s.heap s.heap [] := va_S.rf
  have hl := lv_entry ([.ref x0, .int (nI x), .int (nI y)]) (n := 3) (Nat.le_of_ble_eq_true rfl)
  rw [lg_entry_eq]
  generalize (lg_sl ([.ref x0, .int (nI x), .int (nI y)]) ++ List.replicate (3 - (lg_sl ([.ref x0, .int (nI x), .int (nI y)])).length) Slot.unset).toArray = ls at hl ⊢
  replace hl : lv_has ls 3 [(0, .ref x0), (1, .int (nI x)), (2, .int (nI y))] := hl
  replace hP : va_P D vwCl [(x0, .inr (3, [.ref h, .ref hh, .ref w, .ref k0])), (w, .inr (2, [.ref w0, .int (nI 9), .ref w1, .ref w2, .ref w3, .int flw])), (w0, .inl (cI, 6, .inl VW))] s.heap := hP
  refine lv_aload_n hx hb dX3_copy_0 rfl (lv_at hl 0 rfl) ?_
  refine lv_iload_n hx hb dX3_copy_1 rfl (lv_at hl 1 rfl) ?_
  refine hw_csv (va_runV (C := RX3) (b := x0) (As := [.int (nI x)]) (rest := []) ⟨hx, hb, hml, hown, htg⟩ (k_X3_checkVariable l D cI cZ cJ x x0 h hh w k0 (by omega)) (cwV 1 htg (hg_V hm_388 hm_390 hs_yX3_checkVariable hm_1 hm_391) rfl rfl rfl (by decide +kernel) ⟨Nat.le_of_ble_eq_true rfl, Nat.le_of_ble_eq_true rfl⟩) ⟨hp_R_blind, va_recv (q := (RX3, TX3, 4)) (q0 := 0) (ci := 3) hK hP rfl rfl, hp_R_pre (hP.sub (ws' := [(x0, .inr (3, [.ref h, .ref hh, .ref w, .ref k0]))]) [0] rfl) hz⟩ rfl rfl hl.1 rfl (lv_room (Nat.le_of_ble_eq_true rfl)) dX3_copy_2 ⟨Nat.zero_le _, Nat.zero_le _⟩) (fun _h => ?_)
  refine lv_aload_n hx hb dX3_copy_5 rfl (lv_at hl 0 rfl) ?_
  refine lv_iload_n hx hb dX3_copy_6 rfl (lv_at hl 2 rfl) ?_
  refine hw_csv (va_runV (C := RX3) (b := x0) (As := [.int (nI y)]) (rest := []) ⟨hx, hb, hml, hown, htg⟩ (k_X3_checkTerm l D cI cZ cJ y x0 h hh w k0 (by omega)) (cwV 1 htg (hg_V hm_290 hm_292 hs_yX3_checkTerm hm_1 hm_293) rfl rfl rfl (by decide +kernel) ⟨Nat.le_of_ble_eq_true rfl, Nat.le_of_ble_eq_true rfl⟩) ⟨hp_R_blind, va_recv (q := (RX3, TX3, 4)) (q0 := 0) (ci := 3) hK hP rfl rfl, hp_R_pre (hP.sub (ws' := [(x0, .inr (3, [.ref h, .ref hh, .ref w, .ref k0]))]) [0] rfl) hz⟩ rfl rfl hl.1 rfl (lv_room (Nat.le_of_ble_eq_true rfl)) dX3_copy_7 ⟨Nat.zero_le _, Nat.zero_le _⟩) (fun _h => ?_)
  refine lv_aload_n hx hb dX3_copy_10 rfl (lv_at hl 0 rfl) ?_
  refine va_get (D := D) (ci := 3) (v := .ref w) (C := RX3) (T := TX3) (N := 4) hx hb htg hi_X3 hown hK hP 0 rfl rfl 2 (by decide) (htg _ hm_114) (fun _ h9 => h9) rfl dX3_copy_11 ?_
  refine va_getN (D := D) (ci := 2) (v := .ref w0) (C := RX2) (T := TX2) (N := 6) hx hb htg hi_X2 hown hK hP 1 rfl rfl 0 (by decide) (hz_useF hz hn_75) (fun _ h9 => h9) rfl dX3_copy_14 ?_
  refine lv_iload_n hx hb dX3_copy_17 rfl (lv_at hl 1 rfl) ?_
  refine lv_aload_n hx hb dX3_copy_18 rfl (lv_at hl 0 rfl) ?_
  refine va_get (D := D) (ci := 3) (v := .ref w) (C := RX3) (T := TX3) (N := 4) hx hb htg hi_X3 hown hK hP 0 rfl rfl 2 (by decide) (htg _ hm_114) (fun _ h9 => h9) rfl dX3_copy_19 ?_
  refine va_getN (D := D) (ci := 2) (v := .ref w0) (C := RX2) (T := TX2) (N := 6) hx hb htg hi_X2 hown hK hP 1 rfl rfl 0 (by decide) (hz_useF hz hn_75) (fun _ h9 => h9) rfl dX3_copy_22 ?_
  refine lv_iload_n hx hb dX3_copy_25 rfl (lv_at hl 2 rfl) ?_
  refine hw_iald hx hb hK hP 2 0 rfl rfl (j := y) (by omega) (by first | decide | omega) (v := nI (VA y)) (hV y (by omega)) dX3_copy_26 ?_
  refine hw_iast hx hb hK hP hD hS 2 0 rfl rfl (j := x) (by omega) (by first | decide | omega) dX3_copy_27 (fun H locs hP hD hS => ?_)
  replace hP : va_P D vwCl [(x0, .inr (3, [.ref h, .ref hh, .ref w, .ref k0])), (w, .inr (2, [.ref w0, .int (nI 9), .ref w1, .ref w2, .ref w3, .int flw])), (w0, .inl (cI, 6, .inl (upd VW x (nI (VA y)))))] H := hP
  replace hD : va_D A [(x0, .inr (3, [.ref h, .ref hh, .ref w, .ref k0])), (w, .inr (2, [.ref w0, .int (nI 9), .ref w1, .ref w2, .ref w3, .int flw])), (w0, .inl (cI, 6, .inl (upd VW x (nI (VA y)))))] := hD
  exact W.vret hx hb hr (fun t9 ht9 hW9 => ⟨⟨upd VW x (nI (VA y)), rfl, rfl, by show va_P D vwCl [(x0, .inr (3, [.ref h, .ref hh, .ref w, .ref k0])), (w, .inr (2, [.ref w0, .int (nI 9), .ref w1, .ref w2, .ref w3, .int flw])), (w0, .inl (cI, 6, .inl (upd VW x (nI (VA y)))))] t9.heap; rw [ht9]; exact hP⟩, hS.F ht9⟩) hS.2.2 dX3_copy_28

set_option maxHeartbeats 4000000 in
set_option maxRecDepth 100000 in
/-- a number is wrong -/
theorem kx_X3_copy (l : Launch) (hst : l.stackTraces = false) (D : va_G) (cI cZ cJ : ClassId) (sa : Nat → Nat) (x y : Nat) (x0 h hh w k0 : Nat) (hx9 : x < 2 ^ 32) (hy : y < 2 ^ 32) (hbad : ¬ (x < 5 ∧ y < 6)) : hx_Met l yX3_copy (Cond.code yX3_copy cX3_copy 3 none :: hwG) { frames := 7, cells := 1, slots := 6, locals := 103 } (hp_X [.ref x0, .int (nI x), .int (nI y)] D cI cZ cJ [(x0, .inr (3, [.ref h, .ref hh, .ref w, .ref k0]))] sa) hxI := by
  refine hx_ofW (cc := cX3_copy) (maxL := 3) (ret := none) (by decide) rfl ?_
  intro p e s m args below meth c s₁ B hml hout hv
  obtain ⟨rfl, hP, hz, hE⟩ := hv
  have hx := B.exec
  have hb := B.bytes
  have hts := atoms_spec (ws := (Cond.code yX3_copy cX3_copy 3 none :: hwG)) B.pre
  have htg := fun w h => hts w (List.mem_cons_of_mem _ h)
  have hown : s.vm.findClass RX3 = some m.cls := findClass_of_methodNamed B.named
  have hlocks := B.notSynchronized
  have hK := hz.1
  have hl := lv_entry ([.ref x0, .int (nI x), .int (nI y)]) (n := 3) (Nat.le_of_ble_eq_true rfl)
  rw [lg_entry_eq]
  generalize (lg_sl ([.ref x0, .int (nI x), .int (nI y)]) ++ List.replicate (3 - (lg_sl ([.ref x0, .int (nI x), .int (nI y)])).length) Slot.unset).toArray = ls at hl ⊢
  replace hl : lv_has ls 3 [(0, .ref x0), (1, .int (nI x)), (2, .int (nI y))] := hl
  refine lv_aload_n hx hb dX3_copy_0 rfl (lv_at hl 0 rfl) ?_
  refine lv_iload_n hx hb dX3_copy_1 rfl (lv_at hl 1 rfl) ?_
  by_cases hk0 : x < 5
  · refine hw_csv (va_runV (C := RX3) (b := x0) (As := [.int (nI x)]) (rest := []) ⟨hx, hb, hml, hown, htg⟩ (k_X3_checkVariable l D cI cZ cJ x x0 h hh w k0 (by omega)) (cwV 1 htg (hg_V hm_388 hm_390 hs_yX3_checkVariable hm_1 hm_391) rfl rfl rfl (by decide +kernel) ⟨Nat.le_of_ble_eq_true rfl, Nat.le_of_ble_eq_true rfl⟩) ⟨hp_R_blind, va_recv (q := (RX3, TX3, 4)) (q0 := 0) (ci := 3) hK hP rfl rfl, hp_R_pre (hP.sub (ws' := [(x0, .inr (3, [.ref h, .ref hh, .ref w, .ref k0]))]) [0] rfl) hz⟩ rfl rfl hl.1 rfl (lv_room (Nat.le_of_ble_eq_true rfl)) dX3_copy_2 ⟨Nat.zero_le _, Nat.zero_le _⟩) (fun _h => ?_)
    refine lv_aload_n hx hb dX3_copy_5 rfl (lv_at hl 0 rfl) ?_
    refine lv_iload_n hx hb dX3_copy_6 rfl (lv_at hl 2 rfl) ?_
    by_cases hk1 : y < 6
    · refine hw_csv (va_runV (C := RX3) (b := x0) (As := [.int (nI y)]) (rest := []) ⟨hx, hb, hml, hown, htg⟩ (k_X3_checkTerm l D cI cZ cJ y x0 h hh w k0 (by omega)) (cwV 1 htg (hg_V hm_290 hm_292 hs_yX3_checkTerm hm_1 hm_293) rfl rfl rfl (by decide +kernel) ⟨Nat.le_of_ble_eq_true rfl, Nat.le_of_ble_eq_true rfl⟩) ⟨hp_R_blind, va_recv (q := (RX3, TX3, 4)) (q0 := 0) (ci := 3) hK hP rfl rfl, hp_R_pre (hP.sub (ws' := [(x0, .inr (3, [.ref h, .ref hh, .ref w, .ref k0]))]) [0] rfl) hz⟩ rfl rfl hl.1 rfl (lv_room (Nat.le_of_ble_eq_true rfl)) dX3_copy_7 ⟨Nat.zero_le _, Nat.zero_le _⟩) (fun _h => ?_)
      exact absurd ⟨hk0, hk1⟩ hbad
    · exact hx_out (hx_runV (C := RX3) (b := x0) (As := [.int (nI y)]) (rest := []) ⟨hx, hb, hml, hown, htg⟩ (kx_X3_checkTerm l hst D cI cZ cJ sa y x0 h hh w k0 (by omega) hk1) (cwV 1 htg (hg_V hm_290 hm_292 hs_yX3_checkTerm hm_1 hm_293) rfl rfl rfl (by decide +kernel) ⟨Nat.le_of_ble_eq_true rfl, Nat.le_of_ble_eq_true rfl⟩) ⟨hp_X_blind, va_recv (q := (RX3, TX3, 4)) (q0 := 0) (ci := 3) hK hP rfl rfl, hp_X_pre (hP.sub (ws' := [(x0, .inr (3, [.ref h, .ref hh, .ref w, .ref k0]))]) [0] rfl) hz hE⟩ rfl rfl hl.1 rfl (lv_room (Nat.le_of_ble_eq_true rfl)) dX3_copy_7 ⟨Nat.le_of_ble_eq_true rfl, Nat.le_of_ble_eq_true rfl⟩) hout hlocks
  · exact hx_out (hx_runV (C := RX3) (b := x0) (As := [.int (nI x)]) (rest := []) ⟨hx, hb, hml, hown, htg⟩ (kx_X3_checkVariable l hst D cI cZ cJ sa x x0 h hh w k0 (by omega) hk0) (cwV 1 htg (hg_V hm_388 hm_390 hs_yX3_checkVariable hm_1 hm_391) rfl rfl rfl (by decide +kernel) ⟨Nat.le_of_ble_eq_true rfl, Nat.le_of_ble_eq_true rfl⟩) ⟨hp_X_blind, va_recv (q := (RX3, TX3, 4)) (q0 := 0) (ci := 3) hK hP rfl rfl, hp_X_pre (hP.sub (ws' := [(x0, .inr (3, [.ref h, .ref hh, .ref w, .ref k0]))]) [0] rfl) hz hE⟩ rfl rfl hl.1 rfl (lv_room (Nat.le_of_ble_eq_true rfl)) dX3_copy_2 ⟨Nat.le_of_ble_eq_true rfl, Nat.le_of_ble_eq_true rfl⟩) hout hlocks

set_option maxHeartbeats 4000000 in
set_option maxRecDepth 100000 in
/-- load -/
theorem k_X3_load (l : Launch) (D : va_G) (cI cZ cJ : ClassId) (sz : Nat) (x y z9 : Nat) (VW EW LW BW : Nat → Int32) (flw : Int32) (VA : Nat → Nat) (HA : Nat → Option Nat) (x0 h hh w k0 : Nat) (w0 w1 w2 w3 : Nat) (hV : ∀ j, j < 6 → VW j = nI (VA j)) (hV9 : ∀ j, j < 6 → VA j ≤ 9) (hW : hs_hp 9 EW LW BW HA (fun _ => false) (fun a => a)) (hx5 : x < 5) (hy6 : y < 5) (hz9 : HA (VA y) = some z9) : Met l yX3_load (Cond.code yX3_load cX3_load 3 none :: hwG) { frames := 2, cells := 0, slots := 0, locals := 42 } (hp_M [.ref x0, .int (nI x), .int (nI y)] D cI cZ cJ [(x0, .inr (3, [.ref h, .ref hh, .ref w, .ref k0])), (w, .inr (2, [.ref w0, .int (nI 9), .ref w1, .ref w2, .ref w3, .int flw])), (w0, .inl (cI, 6, .inl VW)), (w1, .inl (cI, 9 + 1, .inl EW))] sz) (va_Qv (S := (Nat → Int32)) (fun u => u = upd VW x (nI z9)) (fun u t => va_P D vwCl ([(x0, .inr (3, [.ref h, .ref hh, .ref w, .ref k0])), (w, .inr (2, [.ref w0, .int (nI 9), .ref w1, .ref w2, .ref w3, .int flw])), (w0, .inl (cI, 6, .inl u)), (w1, .inl (cI, 9 + 1, .inl EW))]) t.heap) (va_A [(x0, .inr (3, [.ref h, .ref hh, .ref w, .ref k0])), (w, .inr (2, [.ref w0, .int (nI 9), .ref w1, .ref w2, .ref w3, .int flw])), (w0, .inl (cI, 6, .inl VW)), (w1, .inl (cI, 9 + 1, .inl EW))] sz)) 0 0 (va_A [(x0, .inr (3, [.ref h, .ref hh, .ref w, .ref k0])), (w, .inr (2, [.ref w0, .int (nI 9), .ref w1, .ref w2, .ref w3, .int flw])), (w0, .inl (cI, 6, .inl VW)), (w1, .inl (cI, 9 + 1, .inl EW))] sz) := by
  refine Met.ofW (cc := cX3_load) (maxL := 3) (ret := none) (by decide) rfl ?_
  intro p e s m args below meth c s₁ B hml hv
  obtain ⟨rfl, hsz, hP, hz, hD0⟩ := hv
  have hx := B.exec
  have hb := B.bytes
  have hr := B.returns
  have hts := atoms_spec (ws := (Cond.code yX3_load cX3_load 3 none :: hwG)) B.pre
  have htg := fun w h => hts w (List.mem_cons_of_mem _ h)
  have hown : s.vm.findClass RX3 = some m.cls := findClass_of_methodNamed B.named
  have hlocks := B.notSynchronized
  have hK := hz.1
  subst hsz
  have hD := hD0.self (sz := s.heap.size)
  generalize hAe : va_A [(x0, .inr (3, [.ref h, .ref hh, .ref w, .ref k0])), (w, .inr (2, [.ref w0, .int (nI 9), .ref w1, .ref w2, .ref w3, .int flw])), (w0, .inl (cI, 6, .inl VW)), (w1, .inl (cI, 9 + 1, .inl EW))] s.heap.size = A at hD ⊢
  have hA : ∀ q : Nat, s.heap.size ≤ q → A q := fun q h => by rw [← hAe]; exact Or.inr h
  have hS : va_S A s.heap s.heap [] := va_S.rf
  have hl := lv_entry ([.ref x0, .int (nI x), .int (nI y)]) (n := 3) (Nat.le_of_ble_eq_true rfl)
  rw [lg_entry_eq]
  generalize (lg_sl ([.ref x0, .int (nI x), .int (nI y)]) ++ List.replicate (3 - (lg_sl ([.ref x0, .int (nI x), .int (nI y)])).length) Slot.unset).toArray = ls at hl ⊢
  replace hl : lv_has ls 3 [(0, .ref x0), (1, .int (nI x)), (2, .int (nI y))] := hl
  replace hP : va_P D vwCl [(x0, .inr (3, [.ref h, .ref hh, .ref w, .ref k0])), (w, .inr (2, [.ref w0, .int (nI 9), .ref w1, .ref w2, .ref w3, .int flw])), (w0, .inl (cI, 6, .inl VW)), (w1, .inl (cI, 9 + 1, .inl EW))] s.heap := hP
  have hvy := hV9 y (by omega)
  have hnn : HA (VA y) ≠ none := by rw [hz9]; exact fun q => (by cases q)
  have hww := (hW.2 (VA y) (hW.1 _ hnn).1 (hW.1 _ hnn).2).2 z9 hz9
  refine lv_aload_n hx hb dX3_load_0 rfl (lv_at hl 0 rfl) ?_
  refine lv_iload_n hx hb dX3_load_1 rfl (lv_at hl 1 rfl) ?_
  refine hw_csv (va_runV (C := RX3) (b := x0) (As := [.int (nI x)]) (rest := []) ⟨hx, hb, hml, hown, htg⟩ (k_X3_checkVariable l D cI cZ cJ x x0 h hh w k0 (by omega)) (cwV 1 htg (hg_V hm_388 hm_390 hs_yX3_checkVariable hm_1 hm_391) rfl rfl rfl (by decide +kernel) ⟨Nat.le_of_ble_eq_true rfl, Nat.le_of_ble_eq_true rfl⟩) ⟨hp_R_blind, va_recv (q := (RX3, TX3, 4)) (q0 := 0) (ci := 3) hK hP rfl rfl, hp_R_pre (hP.sub (ws' := [(x0, .inr (3, [.ref h, .ref hh, .ref w, .ref k0]))]) [0] rfl) hz⟩ rfl rfl hl.1 rfl (lv_room (Nat.le_of_ble_eq_true rfl)) dX3_load_2 ⟨Nat.zero_le _, Nat.zero_le _⟩) (fun _h => ?_)
  refine lv_aload_n hx hb dX3_load_5 rfl (lv_at hl 0 rfl) ?_
  refine lv_iload_n hx hb dX3_load_6 rfl (lv_at hl 2 rfl) ?_
  refine hw_csv (va_runV (C := RX3) (b := x0) (As := [.int (nI y)]) (rest := []) ⟨hx, hb, hml, hown, htg⟩ (k_X3_checkVariable l D cI cZ cJ y x0 h hh w k0 (by omega)) (cwV 1 htg (hg_V hm_388 hm_390 hs_yX3_checkVariable hm_1 hm_391) rfl rfl rfl (by decide +kernel) ⟨Nat.le_of_ble_eq_true rfl, Nat.le_of_ble_eq_true rfl⟩) ⟨hp_R_blind, va_recv (q := (RX3, TX3, 4)) (q0 := 0) (ci := 3) hK hP rfl rfl, hp_R_pre (hP.sub (ws' := [(x0, .inr (3, [.ref h, .ref hh, .ref w, .ref k0]))]) [0] rfl) hz⟩ rfl rfl hl.1 rfl (lv_room (Nat.le_of_ble_eq_true rfl)) dX3_load_7 ⟨Nat.zero_le _, Nat.zero_le _⟩) (fun _h => ?_)
  refine lv_aload_n hx hb dX3_load_10 rfl (lv_at hl 0 rfl) ?_
  refine lv_aload_n hx hb dX3_load_11 rfl (lv_at hl 0 rfl) ?_
  refine va_get (D := D) (ci := 3) (v := .ref w) (C := RX3) (T := TX3) (N := 4) hx hb htg hi_X3 hown hK hP 0 rfl rfl 2 (by decide) (htg _ hm_114) (fun _ h9 => h9) rfl dX3_load_12 ?_
  refine va_getN (D := D) (ci := 2) (v := .ref w0) (C := RX2) (T := TX2) (N := 6) hx hb htg hi_X2 hown hK hP 1 rfl rfl 0 (by decide) (hz_useF hz hn_75) (fun _ h9 => h9) rfl dX3_load_15 ?_
  refine lv_iload_n hx hb dX3_load_18 rfl (lv_at hl 2 rfl) ?_
  refine hw_iald hx hb hK hP 2 0 rfl rfl (j := y) (by omega) (by first | decide | omega) (v := nI (VA y)) (hV y (by omega)) dX3_load_19 ?_
  refine hw_csv (va_runV (C := RX3) (b := x0) (As := [.int (nI (VA y))]) (rest := []) ⟨hx, hb, hml, hown, htg⟩ (k_X3_checkCell l D cI cZ cJ (VA y) EW LW BW flw HA x0 h hh w k0 w0 w1 w2 w3 hW (by omega) hnn) (cwV 1 htg (hg_V hm_432 hm_434 hs_yX3_checkCell hm_1 hm_435) rfl rfl rfl (by decide +kernel) ⟨Nat.le_of_ble_eq_true rfl, Nat.le_of_ble_eq_true rfl⟩) ⟨hp_R_blind, va_recv (q := (RX3, TX3, 4)) (q0 := 0) (ci := 3) hK hP rfl rfl, hp_R_pre (hP.sub (ws' := [(x0, .inr (3, [.ref h, .ref hh, .ref w, .ref k0])), (w, .inr (2, [.ref w0, .int (nI 9), .ref w1, .ref w2, .ref w3, .int flw])), (w1, .inl (cI, 9 + 1, .inl EW))]) [0, 1, 3] rfl) hz⟩ rfl rfl hl.1 rfl (lv_room (Nat.le_of_ble_eq_true rfl)) dX3_load_20 ⟨Nat.zero_le _, Nat.zero_le _⟩) (fun _h => ?_)
  refine lv_aload_n hx hb dX3_load_23 rfl (lv_at hl 0 rfl) ?_
  refine va_get (D := D) (ci := 3) (v := .ref w) (C := RX3) (T := TX3) (N := 4) hx hb htg hi_X3 hown hK hP 0 rfl rfl 2 (by decide) (htg _ hm_114) (fun _ h9 => h9) rfl dX3_load_24 ?_
  refine va_getN (D := D) (ci := 2) (v := .ref w0) (C := RX2) (T := TX2) (N := 6) hx hb htg hi_X2 hown hK hP 1 rfl rfl 0 (by decide) (hz_useF hz hn_75) (fun _ h9 => h9) rfl dX3_load_27 ?_
  refine lv_iload_n hx hb dX3_load_30 rfl (lv_at hl 1 rfl) ?_
  refine lv_aload_n hx hb dX3_load_31 rfl (lv_at hl 0 rfl) ?_
  refine va_get (D := D) (ci := 3) (v := .ref w) (C := RX3) (T := TX3) (N := 4) hx hb htg hi_X3 hown hK hP 0 rfl rfl 2 (by decide) (htg _ hm_114) (fun _ h9 => h9) rfl dX3_load_32 ?_
  refine va_getN (D := D) (ci := 2) (v := .ref w1) (C := RX2) (T := TX2) (N := 6) hx hb htg hi_X2 hown hK hP 1 rfl rfl 2 (by decide) (hz_useF hz hn_78) (fun _ h9 => h9) rfl dX3_load_35 ?_
  refine lv_aload_n hx hb dX3_load_38 rfl (lv_at hl 0 rfl) ?_
  refine va_get (D := D) (ci := 3) (v := .ref w) (C := RX3) (T := TX3) (N := 4) hx hb htg hi_X3 hown hK hP 0 rfl rfl 2 (by decide) (htg _ hm_114) (fun _ h9 => h9) rfl dX3_load_39 ?_
  refine va_getN (D := D) (ci := 2) (v := .ref w0) (C := RX2) (T := TX2) (N := 6) hx hb htg hi_X2 hown hK hP 1 rfl rfl 0 (by decide) (hz_useF hz hn_75) (fun _ h9 => h9) rfl dX3_load_42 ?_
  refine lv_iload_n hx hb dX3_load_45 rfl (lv_at hl 2 rfl) ?_
  refine hw_iald hx hb hK hP 2 0 rfl rfl (j := y) (by omega) (by first | decide | omega) (v := nI (VA y)) (hV y (by omega)) dX3_load_46 ?_
  refine hw_iald hx hb hK hP 3 0 rfl rfl (j := (VA y)) (by omega) (by first | decide | omega) (v := nI z9) (hww.2.1) dX3_load_47 ?_
  refine hw_iast hx hb hK hP hD hS 2 0 rfl rfl (j := x) (by omega) (by first | decide | omega) dX3_load_48 (fun H locs hP hD hS => ?_)
  replace hP : va_P D vwCl [(x0, .inr (3, [.ref h, .ref hh, .ref w, .ref k0])), (w, .inr (2, [.ref w0, .int (nI 9), .ref w1, .ref w2, .ref w3, .int flw])), (w0, .inl (cI, 6, .inl (upd VW x (nI z9)))), (w1, .inl (cI, 9 + 1, .inl EW))] H := hP
  replace hD : va_D A [(x0, .inr (3, [.ref h, .ref hh, .ref w, .ref k0])), (w, .inr (2, [.ref w0, .int (nI 9), .ref w1, .ref w2, .ref w3, .int flw])), (w0, .inl (cI, 6, .inl (upd VW x (nI z9)))), (w1, .inl (cI, 9 + 1, .inl EW))] := hD
  exact W.vret hx hb hr (fun t9 ht9 hW9 => ⟨⟨upd VW x (nI z9), rfl, rfl, by show va_P D vwCl [(x0, .inr (3, [.ref h, .ref hh, .ref w, .ref k0])), (w, .inr (2, [.ref w0, .int (nI 9), .ref w1, .ref w2, .ref w3, .int flw])), (w0, .inl (cI, 6, .inl (upd VW x (nI z9)))), (w1, .inl (cI, 9 + 1, .inl EW))] t9.heap; rw [ht9]; exact hP⟩, hS.F ht9⟩) hS.2.2 dX3_load_49

set_option maxHeartbeats 4000000 in
set_option maxRecDepth 100000 in
/-- a number is wrong -/
theorem kx_X3_load (l : Launch) (hst : l.stackTraces = false) (D : va_G) (cI cZ cJ : ClassId) (sa : Nat → Nat) (x y : Nat) (x0 h hh w k0 : Nat) (hx9 : x < 2 ^ 32) (hy : y < 2 ^ 32) (hbad : ¬ (x < 5 ∧ y < 5)) : hx_Met l yX3_load (Cond.code yX3_load cX3_load 3 none :: hwG) { frames := 7, cells := 1, slots := 6, locals := 103 } (hp_X [.ref x0, .int (nI x), .int (nI y)] D cI cZ cJ [(x0, .inr (3, [.ref h, .ref hh, .ref w, .ref k0]))] sa) hxI := by
  refine hx_ofW (cc := cX3_load) (maxL := 3) (ret := none) (by decide) rfl ?_
  intro p e s m args below meth c s₁ B hml hout hv
  obtain ⟨rfl, hP, hz, hE⟩ := hv
  have hx := B.exec
  have hb := B.bytes
  have hts := atoms_spec (ws := (Cond.code yX3_load cX3_load 3 none :: hwG)) B.pre
  have htg := fun w h => hts w (List.mem_cons_of_mem _ h)
  have hown : s.vm.findClass RX3 = some m.cls := findClass_of_methodNamed B.named
  have hlocks := B.notSynchronized
  have hK := hz.1
  have hl := lv_entry ([.ref x0, .int (nI x), .int (nI y)]) (n := 3) (Nat.le_of_ble_eq_true rfl)
  rw [lg_entry_eq]
  generalize (lg_sl ([.ref x0, .int (nI x), .int (nI y)]) ++ List.replicate (3 - (lg_sl ([.ref x0, .int (nI x), .int (nI y)])).length) Slot.unset).toArray = ls at hl ⊢
  replace hl : lv_has ls 3 [(0, .ref x0), (1, .int (nI x)), (2, .int (nI y))] := hl
  refine lv_aload_n hx hb dX3_load_0 rfl (lv_at hl 0 rfl) ?_
  refine lv_iload_n hx hb dX3_load_1 rfl (lv_at hl 1 rfl) ?_
  by_cases hk0 : x < 5
  · refine hw_csv (va_runV (C := RX3) (b := x0) (As := [.int (nI x)]) (rest := []) ⟨hx, hb, hml, hown, htg⟩ (k_X3_checkVariable l D cI cZ cJ x x0 h hh w k0 (by omega)) (cwV 1 htg (hg_V hm_388 hm_390 hs_yX3_checkVariable hm_1 hm_391) rfl rfl rfl (by decide +kernel) ⟨Nat.le_of_ble_eq_true rfl, Nat.le_of_ble_eq_true rfl⟩) ⟨hp_R_blind, va_recv (q := (RX3, TX3, 4)) (q0 := 0) (ci := 3) hK hP rfl rfl, hp_R_pre (hP.sub (ws' := [(x0, .inr (3, [.ref h, .ref hh, .ref w, .ref k0]))]) [0] rfl) hz⟩ rfl rfl hl.1 rfl (lv_room (Nat.le_of_ble_eq_true rfl)) dX3_load_2 ⟨Nat.zero_le _, Nat.zero_le _⟩) (fun _h => ?_)
    refine lv_aload_n hx hb dX3_load_5 rfl (lv_at hl 0 rfl) ?_
    refine lv_iload_n hx hb dX3_load_6 rfl (lv_at hl 2 rfl) ?_
    by_cases hk1 : y < 5
    · refine hw_csv (va_runV (C := RX3) (b := x0) (As := [.int (nI y)]) (rest := []) ⟨hx, hb, hml, hown, htg⟩ (k_X3_checkVariable l D cI cZ cJ y x0 h hh w k0 (by omega)) (cwV 1 htg (hg_V hm_388 hm_390 hs_yX3_checkVariable hm_1 hm_391) rfl rfl rfl (by decide +kernel) ⟨Nat.le_of_ble_eq_true rfl, Nat.le_of_ble_eq_true rfl⟩) ⟨hp_R_blind, va_recv (q := (RX3, TX3, 4)) (q0 := 0) (ci := 3) hK hP rfl rfl, hp_R_pre (hP.sub (ws' := [(x0, .inr (3, [.ref h, .ref hh, .ref w, .ref k0]))]) [0] rfl) hz⟩ rfl rfl hl.1 rfl (lv_room (Nat.le_of_ble_eq_true rfl)) dX3_load_7 ⟨Nat.zero_le _, Nat.zero_le _⟩) (fun _h => ?_)
      exact absurd ⟨hk0, hk1⟩ hbad
    · exact hx_out (hx_runV (C := RX3) (b := x0) (As := [.int (nI y)]) (rest := []) ⟨hx, hb, hml, hown, htg⟩ (kx_X3_checkVariable l hst D cI cZ cJ sa y x0 h hh w k0 (by omega) hk1) (cwV 1 htg (hg_V hm_388 hm_390 hs_yX3_checkVariable hm_1 hm_391) rfl rfl rfl (by decide +kernel) ⟨Nat.le_of_ble_eq_true rfl, Nat.le_of_ble_eq_true rfl⟩) ⟨hp_X_blind, va_recv (q := (RX3, TX3, 4)) (q0 := 0) (ci := 3) hK hP rfl rfl, hp_X_pre (hP.sub (ws' := [(x0, .inr (3, [.ref h, .ref hh, .ref w, .ref k0]))]) [0] rfl) hz hE⟩ rfl rfl hl.1 rfl (lv_room (Nat.le_of_ble_eq_true rfl)) dX3_load_7 ⟨Nat.le_of_ble_eq_true rfl, Nat.le_of_ble_eq_true rfl⟩) hout hlocks
  · exact hx_out (hx_runV (C := RX3) (b := x0) (As := [.int (nI x)]) (rest := []) ⟨hx, hb, hml, hown, htg⟩ (kx_X3_checkVariable l hst D cI cZ cJ sa x x0 h hh w k0 (by omega) hk0) (cwV 1 htg (hg_V hm_388 hm_390 hs_yX3_checkVariable hm_1 hm_391) rfl rfl rfl (by decide +kernel) ⟨Nat.le_of_ble_eq_true rfl, Nat.le_of_ble_eq_true rfl⟩) ⟨hp_X_blind, va_recv (q := (RX3, TX3, 4)) (q0 := 0) (ci := 3) hK hP rfl rfl, hp_X_pre (hP.sub (ws' := [(x0, .inr (3, [.ref h, .ref hh, .ref w, .ref k0]))]) [0] rfl) hz hE⟩ rfl rfl hl.1 rfl (lv_room (Nat.le_of_ble_eq_true rfl)) dX3_load_2 ⟨Nat.le_of_ble_eq_true rfl, Nat.le_of_ble_eq_true rfl⟩) hout hlocks

set_option maxHeartbeats 4000000 in
set_option maxRecDepth 100000 in
/-- no cell -/
theorem kf_X3_load (l : Launch) (hst : l.stackTraces = false) (D : va_G) (cI cZ cJ : ClassId) (sa : Nat → Nat) (x y : Nat) (VW EW LW BW : Nat → Int32) (flw : Int32) (VA : Nat → Nat) (HA : Nat → Option Nat) (x0 h hh w k0 : Nat) (w0 w1 w2 w3 : Nat) (hV : ∀ j, j < 6 → VW j = nI (VA j)) (hV9 : ∀ j, j < 6 → VA j ≤ 9) (hW : hs_hp 9 EW LW BW HA (fun _ => false) (fun a => a)) (hx5 : x < 5) (hy6 : y < 5) (hn : HA (VA y) = none) : hx_Met l yX3_load (Cond.code yX3_load cX3_load 3 none :: hwG) { frames := 7, cells := 1, slots := 6, locals := 103 } (hp_X [.ref x0, .int (nI x), .int (nI y)] D cI cZ cJ [(x0, .inr (3, [.ref h, .ref hh, .ref w, .ref k0])), (w, .inr (2, [.ref w0, .int (nI 9), .ref w1, .ref w2, .ref w3, .int flw])), (w0, .inl (cI, 6, .inl VW)), (w1, .inl (cI, 9 + 1, .inl EW))] sa) hxG := by
  refine hx_ofW (cc := cX3_load) (maxL := 3) (ret := none) (by decide) rfl ?_
  intro p e s m args below meth c s₁ B hml hout hv
  obtain ⟨rfl, hP, hz, hE⟩ := hv
  have hx := B.exec
  have hb := B.bytes
  have hts := atoms_spec (ws := (Cond.code yX3_load cX3_load 3 none :: hwG)) B.pre
  have htg := fun w h => hts w (List.mem_cons_of_mem _ h)
  have hown : s.vm.findClass RX3 = some m.cls := findClass_of_methodNamed B.named
  have hlocks := B.notSynchronized
  have hK := hz.1
  have hl := lv_entry ([.ref x0, .int (nI x), .int (nI y)]) (n := 3) (Nat.le_of_ble_eq_true rfl)
  rw [lg_entry_eq]
  generalize (lg_sl ([.ref x0, .int (nI x), .int (nI y)]) ++ List.replicate (3 - (lg_sl ([.ref x0, .int (nI x), .int (nI y)])).length) Slot.unset).toArray = ls at hl ⊢
  replace hl : lv_has ls 3 [(0, .ref x0), (1, .int (nI x)), (2, .int (nI y))] := hl
  have hvy := hV9 y (by omega)
  refine lv_aload_n hx hb dX3_load_0 rfl (lv_at hl 0 rfl) ?_
  refine lv_iload_n hx hb dX3_load_1 rfl (lv_at hl 1 rfl) ?_
  refine hw_csv (va_runV (C := RX3) (b := x0) (As := [.int (nI x)]) (rest := []) ⟨hx, hb, hml, hown, htg⟩ (k_X3_checkVariable l D cI cZ cJ x x0 h hh w k0 (by omega)) (cwV 1 htg (hg_V hm_388 hm_390 hs_yX3_checkVariable hm_1 hm_391) rfl rfl rfl (by decide +kernel) ⟨Nat.le_of_ble_eq_true rfl, Nat.le_of_ble_eq_true rfl⟩) ⟨hp_R_blind, va_recv (q := (RX3, TX3, 4)) (q0 := 0) (ci := 3) hK hP rfl rfl, hp_R_pre (hP.sub (ws' := [(x0, .inr (3, [.ref h, .ref hh, .ref w, .ref k0]))]) [0] rfl) hz⟩ rfl rfl hl.1 rfl (lv_room (Nat.le_of_ble_eq_true rfl)) dX3_load_2 ⟨Nat.zero_le _, Nat.zero_le _⟩) (fun _h => ?_)
  refine lv_aload_n hx hb dX3_load_5 rfl (lv_at hl 0 rfl) ?_
  refine lv_iload_n hx hb dX3_load_6 rfl (lv_at hl 2 rfl) ?_
  refine hw_csv (va_runV (C := RX3) (b := x0) (As := [.int (nI y)]) (rest := []) ⟨hx, hb, hml, hown, htg⟩ (k_X3_checkVariable l D cI cZ cJ y x0 h hh w k0 (by omega)) (cwV 1 htg (hg_V hm_388 hm_390 hs_yX3_checkVariable hm_1 hm_391) rfl rfl rfl (by decide +kernel) ⟨Nat.le_of_ble_eq_true rfl, Nat.le_of_ble_eq_true rfl⟩) ⟨hp_R_blind, va_recv (q := (RX3, TX3, 4)) (q0 := 0) (ci := 3) hK hP rfl rfl, hp_R_pre (hP.sub (ws' := [(x0, .inr (3, [.ref h, .ref hh, .ref w, .ref k0]))]) [0] rfl) hz⟩ rfl rfl hl.1 rfl (lv_room (Nat.le_of_ble_eq_true rfl)) dX3_load_7 ⟨Nat.zero_le _, Nat.zero_le _⟩) (fun _h => ?_)
  refine lv_aload_n hx hb dX3_load_10 rfl (lv_at hl 0 rfl) ?_
  refine lv_aload_n hx hb dX3_load_11 rfl (lv_at hl 0 rfl) ?_
  refine va_get (D := D) (ci := 3) (v := .ref w) (C := RX3) (T := TX3) (N := 4) hx hb htg hi_X3 hown hK hP 0 rfl rfl 2 (by decide) (htg _ hm_114) (fun _ h9 => h9) rfl dX3_load_12 ?_
  refine va_getN (D := D) (ci := 2) (v := .ref w0) (C := RX2) (T := TX2) (N := 6) hx hb htg hi_X2 hown hK hP 1 rfl rfl 0 (by decide) (hz_useF hz hn_75) (fun _ h9 => h9) rfl dX3_load_15 ?_
  refine lv_iload_n hx hb dX3_load_18 rfl (lv_at hl 2 rfl) ?_
  refine hw_iald hx hb hK hP 2 0 rfl rfl (j := y) (by omega) (by first | decide | omega) (v := nI (VA y)) (hV y (by omega)) dX3_load_19 ?_
  exact hx_out (hx_runV (C := RX3) (b := x0) (As := [.int (nI (VA y))]) (rest := []) ⟨hx, hb, hml, hown, htg⟩ (kx_X3_checkCell l hst D cI cZ cJ sa (VA y) EW LW BW flw HA x0 h hh w k0 w0 w1 w2 w3 hW (by omega) hn) (cwV 1 htg (hg_V hm_432 hm_434 hs_yX3_checkCell hm_1 hm_435) rfl rfl rfl (by decide +kernel) ⟨Nat.le_of_ble_eq_true rfl, Nat.le_of_ble_eq_true rfl⟩) ⟨hp_X_blind, va_recv (q := (RX3, TX3, 4)) (q0 := 0) (ci := 3) hK hP rfl rfl, hp_X_pre (hP.sub (ws' := [(x0, .inr (3, [.ref h, .ref hh, .ref w, .ref k0])), (w, .inr (2, [.ref w0, .int (nI 9), .ref w1, .ref w2, .ref w3, .int flw])), (w1, .inl (cI, 9 + 1, .inl EW))]) [0, 1, 3] rfl) hz hE⟩ rfl rfl hl.1 rfl (lv_room (Nat.le_of_ble_eq_true rfl)) dX3_load_20 ⟨Nat.le_of_ble_eq_true rfl, Nat.le_of_ble_eq_true rfl⟩) hout hlocks

set_option maxHeartbeats 4000000 in
set_option maxRecDepth 100000 in
/-- store -/
theorem k_X3_store (l : Launch) (D : va_G) (cI cZ cJ : ClassId) (sz : Nat) (x y : Nat) (VW EW LW BW : Nat → Int32) (flw : Int32) (VA : Nat → Nat) (HA : Nat → Option Nat) (x0 h hh w k0 : Nat) (w0 w1 w2 w3 : Nat) (hV : ∀ j, j < 6 → VW j = nI (VA j)) (hV9 : ∀ j, j < 6 → VA j ≤ 9) (hW : hs_hp 9 EW LW BW HA (fun _ => false) (fun a => a)) (hx5 : x < 5) (hy6 : y < 6) (hn : HA (VA x) ≠ none) : Met l yX3_store (Cond.code yX3_store cX3_store 3 none :: hwG) { frames := 2, cells := 0, slots := 0, locals := 46 } (hp_M [.ref x0, .int (nI x), .int (nI y)] D cI cZ cJ [(x0, .inr (3, [.ref h, .ref hh, .ref w, .ref k0])), (w, .inr (2, [.ref w0, .int (nI 9), .ref w1, .ref w2, .ref w3, .int flw])), (w0, .inl (cI, 6, .inl VW)), (w1, .inl (cI, 9 + 1, .inl EW)), (w2, .inl (cZ, 9 + 1, .inl LW)), (w3, .inl (cI, 9 + 1, .inl BW))] sz) (va_Qv (S := (Nat → Int32) × (Nat → Int32) × (Nat → Int32) × Int32) (fun u => u.1 = upd EW (VA x) (nI (VA y)) ∧ u.2.1 = upd LW (VA x) (hc_b false) ∧ u.2.2.1 = upd BW (VA x) (nI 1 <<< (nI (VA x) &&& 31)) ∧ u.2.2.2 = flw ||| (nI 1 <<< (nI (VA x) &&& 31))) (fun u t => va_P D vwCl ([(x0, .inr (3, [.ref h, .ref hh, .ref w, .ref k0])), (w, .inr (2, [.ref w0, .int (nI 9), .ref w1, .ref w2, .ref w3, .int u.2.2.2])), (w0, .inl (cI, 6, .inl VW)), (w1, .inl (cI, 9 + 1, .inl u.1)), (w2, .inl (cZ, 9 + 1, .inl u.2.1)), (w3, .inl (cI, 9 + 1, .inl u.2.2.1))]) t.heap) (va_A [(x0, .inr (3, [.ref h, .ref hh, .ref w, .ref k0])), (w, .inr (2, [.ref w0, .int (nI 9), .ref w1, .ref w2, .ref w3, .int flw])), (w0, .inl (cI, 6, .inl VW)), (w1, .inl (cI, 9 + 1, .inl EW)), (w2, .inl (cZ, 9 + 1, .inl LW)), (w3, .inl (cI, 9 + 1, .inl BW))] sz)) 0 0 (va_A [(x0, .inr (3, [.ref h, .ref hh, .ref w, .ref k0])), (w, .inr (2, [.ref w0, .int (nI 9), .ref w1, .ref w2, .ref w3, .int flw])), (w0, .inl (cI, 6, .inl VW)), (w1, .inl (cI, 9 + 1, .inl EW)), (w2, .inl (cZ, 9 + 1, .inl LW)), (w3, .inl (cI, 9 + 1, .inl BW))] sz) := by
  refine Met.ofW (cc := cX3_store) (maxL := 3) (ret := none) (by decide) rfl ?_
  intro p e s m args below meth c s₁ B hml hv
  obtain ⟨rfl, hsz, hP, hz, hD0⟩ := hv
  have hx := B.exec
  have hb := B.bytes
  have hr := B.returns
  have hts := atoms_spec (ws := (Cond.code yX3_store cX3_store 3 none :: hwG)) B.pre
  have htg := fun w h => hts w (List.mem_cons_of_mem _ h)
  have hown : s.vm.findClass RX3 = some m.cls := findClass_of_methodNamed B.named
  have hlocks := B.notSynchronized
  have hK := hz.1
  subst hsz
  have hD := hD0.self (sz := s.heap.size)
  generalize hAe : va_A [(x0, .inr (3, [.ref h, .ref hh, .ref w, .ref k0])), (w, .inr (2, [.ref w0, .int (nI 9), .ref w1, .ref w2, .ref w3, .int flw])), (w0, .inl (cI, 6, .inl VW)), (w1, .inl (cI, 9 + 1, .inl EW)), (w2, .inl (cZ, 9 + 1, .inl LW)), (w3, .inl (cI, 9 + 1, .inl BW))] s.heap.size = A at hD ⊢
  have hA : ∀ q : Nat, s.heap.size ≤ q → A q := fun q h => by rw [← hAe]; exact Or.inr h
  have hS : va_S A s.heap s.heap [] := va_S.rf
  have hl := lv_entry ([.ref x0, .int (nI x), .int (nI y)]) (n := 3) (Nat.le_of_ble_eq_true rfl)
  rw [lg_entry_eq]
  generalize (lg_sl ([.ref x0, .int (nI x), .int (nI y)]) ++ List.replicate (3 - (lg_sl ([.ref x0, .int (nI x), .int (nI y)])).length) Slot.unset).toArray = ls at hl ⊢
  replace hl : lv_has ls 3 [(0, .ref x0), (1, .int (nI x)), (2, .int (nI y))] := hl
  replace hP : va_P D vwCl [(x0, .inr (3, [.ref h, .ref hh, .ref w, .ref k0])), (w, .inr (2, [.ref w0, .int (nI 9), .ref w1, .ref w2, .ref w3, .int flw])), (w0, .inl (cI, 6, .inl VW)), (w1, .inl (cI, 9 + 1, .inl EW)), (w2, .inl (cZ, 9 + 1, .inl LW)), (w3, .inl (cI, 9 + 1, .inl BW))] s.heap := hP
  have hvx := hV9 x (by omega)
  refine lv_aload_n hx hb dX3_store_0 rfl (lv_at hl 0 rfl) ?_
  refine lv_iload_n hx hb dX3_store_1 rfl (lv_at hl 1 rfl) ?_
  refine hw_csv (va_runV (C := RX3) (b := x0) (As := [.int (nI x)]) (rest := []) ⟨hx, hb, hml, hown, htg⟩ (k_X3_checkVariable l D cI cZ cJ x x0 h hh w k0 (by omega)) (cwV 1 htg (hg_V hm_388 hm_390 hs_yX3_checkVariable hm_1 hm_391) rfl rfl rfl (by decide +kernel) ⟨Nat.le_of_ble_eq_true rfl, Nat.le_of_ble_eq_true rfl⟩) ⟨hp_R_blind, va_recv (q := (RX3, TX3, 4)) (q0 := 0) (ci := 3) hK hP rfl rfl, hp_R_pre (hP.sub (ws' := [(x0, .inr (3, [.ref h, .ref hh, .ref w, .ref k0]))]) [0] rfl) hz⟩ rfl rfl hl.1 rfl (lv_room (Nat.le_of_ble_eq_true rfl)) dX3_store_2 ⟨Nat.zero_le _, Nat.zero_le _⟩) (fun _h => ?_)
  refine lv_aload_n hx hb dX3_store_5 rfl (lv_at hl 0 rfl) ?_
  refine lv_iload_n hx hb dX3_store_6 rfl (lv_at hl 2 rfl) ?_
  refine hw_csv (va_runV (C := RX3) (b := x0) (As := [.int (nI y)]) (rest := []) ⟨hx, hb, hml, hown, htg⟩ (k_X3_checkTerm l D cI cZ cJ y x0 h hh w k0 (by omega)) (cwV 1 htg (hg_V hm_290 hm_292 hs_yX3_checkTerm hm_1 hm_293) rfl rfl rfl (by decide +kernel) ⟨Nat.le_of_ble_eq_true rfl, Nat.le_of_ble_eq_true rfl⟩) ⟨hp_R_blind, va_recv (q := (RX3, TX3, 4)) (q0 := 0) (ci := 3) hK hP rfl rfl, hp_R_pre (hP.sub (ws' := [(x0, .inr (3, [.ref h, .ref hh, .ref w, .ref k0]))]) [0] rfl) hz⟩ rfl rfl hl.1 rfl (lv_room (Nat.le_of_ble_eq_true rfl)) dX3_store_7 ⟨Nat.zero_le _, Nat.zero_le _⟩) (fun _h => ?_)
  refine lv_aload_n hx hb dX3_store_10 rfl (lv_at hl 0 rfl) ?_
  refine lv_aload_n hx hb dX3_store_11 rfl (lv_at hl 0 rfl) ?_
  refine va_get (D := D) (ci := 3) (v := .ref w) (C := RX3) (T := TX3) (N := 4) hx hb htg hi_X3 hown hK hP 0 rfl rfl 2 (by decide) (htg _ hm_114) (fun _ h9 => h9) rfl dX3_store_12 ?_
  refine va_getN (D := D) (ci := 2) (v := .ref w0) (C := RX2) (T := TX2) (N := 6) hx hb htg hi_X2 hown hK hP 1 rfl rfl 0 (by decide) (hz_useF hz hn_75) (fun _ h9 => h9) rfl dX3_store_15 ?_
  refine lv_iload_n hx hb dX3_store_18 rfl (lv_at hl 1 rfl) ?_
  refine hw_iald hx hb hK hP 2 0 rfl rfl (j := x) (by omega) (by first | decide | omega) (v := nI (VA x)) (hV x (by omega)) dX3_store_19 ?_
  refine hw_csv (va_runV (C := RX3) (b := x0) (As := [.int (nI (VA x))]) (rest := []) ⟨hx, hb, hml, hown, htg⟩ (k_X3_checkCell l D cI cZ cJ (VA x) EW LW BW flw HA x0 h hh w k0 w0 w1 w2 w3 hW (by omega) hn) (cwV 1 htg (hg_V hm_432 hm_434 hs_yX3_checkCell hm_1 hm_435) rfl rfl rfl (by decide +kernel) ⟨Nat.le_of_ble_eq_true rfl, Nat.le_of_ble_eq_true rfl⟩) ⟨hp_R_blind, va_recv (q := (RX3, TX3, 4)) (q0 := 0) (ci := 3) hK hP rfl rfl, hp_R_pre (hP.sub (ws' := [(x0, .inr (3, [.ref h, .ref hh, .ref w, .ref k0])), (w, .inr (2, [.ref w0, .int (nI 9), .ref w1, .ref w2, .ref w3, .int flw])), (w1, .inl (cI, 9 + 1, .inl EW))]) [0, 1, 3] rfl) hz⟩ rfl rfl hl.1 rfl (lv_room (Nat.le_of_ble_eq_true rfl)) dX3_store_20 ⟨Nat.zero_le _, Nat.zero_le _⟩) (fun _h => ?_)
  refine lv_aload_n hx hb dX3_store_23 rfl (lv_at hl 0 rfl) ?_
  refine va_get (D := D) (ci := 3) (v := .ref w) (C := RX3) (T := TX3) (N := 4) hx hb htg hi_X3 hown hK hP 0 rfl rfl 2 (by decide) (htg _ hm_114) (fun _ h9 => h9) rfl dX3_store_24 ?_
  refine lv_aload_n hx hb dX3_store_27 rfl (lv_at hl 0 rfl) ?_
  refine va_get (D := D) (ci := 3) (v := .ref w) (C := RX3) (T := TX3) (N := 4) hx hb htg hi_X3 hown hK hP 0 rfl rfl 2 (by decide) (htg _ hm_114) (fun _ h9 => h9) rfl dX3_store_28 ?_
  refine va_getN (D := D) (ci := 2) (v := .ref w0) (C := RX2) (T := TX2) (N := 6) hx hb htg hi_X2 hown hK hP 1 rfl rfl 0 (by decide) (hz_useF hz hn_75) (fun _ h9 => h9) rfl dX3_store_31 ?_
  refine lv_iload_n hx hb dX3_store_34 rfl (lv_at hl 1 rfl) ?_
  refine hw_iald hx hb hK hP 2 0 rfl rfl (j := x) (by omega) (by first | decide | omega) (v := nI (VA x)) (hV x (by omega)) dX3_store_35 ?_
  refine lv_aload_n hx hb dX3_store_36 rfl (lv_at hl 0 rfl) ?_
  refine va_get (D := D) (ci := 3) (v := .ref w) (C := RX3) (T := TX3) (N := 4) hx hb htg hi_X3 hown hK hP 0 rfl rfl 2 (by decide) (htg _ hm_114) (fun _ h9 => h9) rfl dX3_store_37 ?_
  refine va_getN (D := D) (ci := 2) (v := .ref w0) (C := RX2) (T := TX2) (N := 6) hx hb htg hi_X2 hown hK hP 1 rfl rfl 0 (by decide) (hz_useF hz hn_75) (fun _ h9 => h9) rfl dX3_store_40 ?_
  refine lv_iload_n hx hb dX3_store_43 rfl (lv_at hl 2 rfl) ?_
  refine hw_iald hx hb hK hP 2 0 rfl rfl (j := y) (by omega) (by first | decide | omega) (v := nI (VA y)) (hV y (by omega)) dX3_store_44 ?_
  refine hv_callv (w1 := fun u : (Nat → Int32) × (Nat → Int32) × (Nat → Int32) × Int32 => [(w, .inr (2, [.ref w0, .int (nI 9), .ref w1, .ref w2, .ref w3, .int u.2.2.2])), (w1, .inl (cI, 9 + 1, .inl u.1)), (w2, .inl (cZ, 9 + 1, .inl u.2.1)), (w3, .inl (cI, 9 + 1, .inl u.2.2.1))]) (va_runV (C := RX2) (b := w) (As := [.int (nI (VA x)), .int (nI (VA y))]) (rest := []) ⟨hx, hb, hml, hown, htg⟩ (k_X2_setCell l D cI cZ cJ _ (VA x) (nI (VA y)) 9 EW LW BW flw w w0 w1 w2 w3 (by decide) (by omega)) (cwV 2 htg (hg_V hm_406 hm_407 hm_408 hm_3 hm_409) rfl rfl rfl (by decide +kernel) ⟨Nat.le_of_ble_eq_true rfl, Nat.le_of_ble_eq_true rfl⟩) ⟨hp_M_blind, va_recv (q := (RX2, TX2, 6)) (q0 := 1) (ci := 2) hK hP rfl rfl, hp_M_pre (hP.sub (ws' := [(w, .inr (2, [.ref w0, .int (nI 9), .ref w1, .ref w2, .ref w3, .int flw])), (w1, .inl (cI, 9 + 1, .inl EW)), (w2, .inl (cZ, 9 + 1, .inl LW)), (w3, .inl (cI, 9 + 1, .inl BW))]) [1, 3, 4, 5] rfl) (hD.sub (ws' := [(w, .inr (2, [.ref w0, .int (nI 9), .ref w1, .ref w2, .ref w3, .int flw])), (w1, .inl (cI, 9 + 1, .inl EW)), (w2, .inl (cZ, 9 + 1, .inl LW)), (w3, .inl (cI, 9 + 1, .inl BW))]) [1, 3, 4, 5] (by decide) rfl) hz⟩ rfl rfl hl.1 rfl (lv_room (Nat.le_of_ble_eq_true rfl)) dX3_store_45 ⟨Nat.zero_le _, Nat.zero_le _⟩) hP hD hS hA [1, 3, 4, 5] rfl (fun _ => rfl) (fun u1 H locs h1 hP hD hS => ?_)
  replace hP : va_P D vwCl [(x0, .inr (3, [.ref h, .ref hh, .ref w, .ref k0])), (w, .inr (2, [.ref w0, .int (nI 9), .ref w1, .ref w2, .ref w3, .int u1.2.2.2])), (w0, .inl (cI, 6, .inl VW)), (w1, .inl (cI, 9 + 1, .inl u1.1)), (w2, .inl (cZ, 9 + 1, .inl u1.2.1)), (w3, .inl (cI, 9 + 1, .inl u1.2.2.1))] H := hP
  replace hD : va_D A [(x0, .inr (3, [.ref h, .ref hh, .ref w, .ref k0])), (w, .inr (2, [.ref w0, .int (nI 9), .ref w1, .ref w2, .ref w3, .int u1.2.2.2])), (w0, .inl (cI, 6, .inl VW)), (w1, .inl (cI, 9 + 1, .inl u1.1)), (w2, .inl (cZ, 9 + 1, .inl u1.2.1)), (w3, .inl (cI, 9 + 1, .inl u1.2.2.1))] := hD
  exact W.vret hx hb hr (fun t9 ht9 hW9 => ⟨⟨u1, rfl, h1, by show va_P D vwCl [(x0, .inr (3, [.ref h, .ref hh, .ref w, .ref k0])), (w, .inr (2, [.ref w0, .int (nI 9), .ref w1, .ref w2, .ref w3, .int u1.2.2.2])), (w0, .inl (cI, 6, .inl VW)), (w1, .inl (cI, 9 + 1, .inl u1.1)), (w2, .inl (cZ, 9 + 1, .inl u1.2.1)), (w3, .inl (cI, 9 + 1, .inl u1.2.2.1))] t9.heap; rw [ht9]; exact hP⟩, hS.F ht9⟩) hS.2.2 dX3_store_48

set_option maxHeartbeats 4000000 in
set_option maxRecDepth 100000 in
/-- a number is wrong -/
theorem kx_X3_store (l : Launch) (hst : l.stackTraces = false) (D : va_G) (cI cZ cJ : ClassId) (sa : Nat → Nat) (x y : Nat) (x0 h hh w k0 : Nat) (hx9 : x < 2 ^ 32) (hy : y < 2 ^ 32) (hbad : ¬ (x < 5 ∧ y < 6)) : hx_Met l yX3_store (Cond.code yX3_store cX3_store 3 none :: hwG) { frames := 7, cells := 1, slots := 6, locals := 103 } (hp_X [.ref x0, .int (nI x), .int (nI y)] D cI cZ cJ [(x0, .inr (3, [.ref h, .ref hh, .ref w, .ref k0]))] sa) hxI := by
  refine hx_ofW (cc := cX3_store) (maxL := 3) (ret := none) (by decide) rfl ?_
  intro p e s m args below meth c s₁ B hml hout hv
  obtain ⟨rfl, hP, hz, hE⟩ := hv
  have hx := B.exec
  have hb := B.bytes
  have hts := atoms_spec (ws := (Cond.code yX3_store cX3_store 3 none :: hwG)) B.pre
  have htg := fun w h => hts w (List.mem_cons_of_mem _ h)
  have hown : s.vm.findClass RX3 = some m.cls := findClass_of_methodNamed B.named
  have hlocks := B.notSynchronized
  have hK := hz.1
  have hl := lv_entry ([.ref x0, .int (nI x), .int (nI y)]) (n := 3) (Nat.le_of_ble_eq_true rfl)
  rw [lg_entry_eq]
  generalize (lg_sl ([.ref x0, .int (nI x), .int (nI y)]) ++ List.replicate (3 - (lg_sl ([.ref x0, .int (nI x), .int (nI y)])).length) Slot.unset).toArray = ls at hl ⊢
  replace hl : lv_has ls 3 [(0, .ref x0), (1, .int (nI x)), (2, .int (nI y))] := hl
  refine lv_aload_n hx hb dX3_store_0 rfl (lv_at hl 0 rfl) ?_
  refine lv_iload_n hx hb dX3_store_1 rfl (lv_at hl 1 rfl) ?_
  by_cases hk0 : x < 5
  · refine hw_csv (va_runV (C := RX3) (b := x0) (As := [.int (nI x)]) (rest := []) ⟨hx, hb, hml, hown, htg⟩ (k_X3_checkVariable l D cI cZ cJ x x0 h hh w k0 (by omega)) (cwV 1 htg (hg_V hm_388 hm_390 hs_yX3_checkVariable hm_1 hm_391) rfl rfl rfl (by decide +kernel) ⟨Nat.le_of_ble_eq_true rfl, Nat.le_of_ble_eq_true rfl⟩) ⟨hp_R_blind, va_recv (q := (RX3, TX3, 4)) (q0 := 0) (ci := 3) hK hP rfl rfl, hp_R_pre (hP.sub (ws' := [(x0, .inr (3, [.ref h, .ref hh, .ref w, .ref k0]))]) [0] rfl) hz⟩ rfl rfl hl.1 rfl (lv_room (Nat.le_of_ble_eq_true rfl)) dX3_store_2 ⟨Nat.zero_le _, Nat.zero_le _⟩) (fun _h => ?_)
    refine lv_aload_n hx hb dX3_store_5 rfl (lv_at hl 0 rfl) ?_
    refine lv_iload_n hx hb dX3_store_6 rfl (lv_at hl 2 rfl) ?_
    by_cases hk1 : y < 6
    · refine hw_csv (va_runV (C := RX3) (b := x0) (As := [.int (nI y)]) (rest := []) ⟨hx, hb, hml, hown, htg⟩ (k_X3_checkTerm l D cI cZ cJ y x0 h hh w k0 (by omega)) (cwV 1 htg (hg_V hm_290 hm_292 hs_yX3_checkTerm hm_1 hm_293) rfl rfl rfl (by decide +kernel) ⟨Nat.le_of_ble_eq_true rfl, Nat.le_of_ble_eq_true rfl⟩) ⟨hp_R_blind, va_recv (q := (RX3, TX3, 4)) (q0 := 0) (ci := 3) hK hP rfl rfl, hp_R_pre (hP.sub (ws' := [(x0, .inr (3, [.ref h, .ref hh, .ref w, .ref k0]))]) [0] rfl) hz⟩ rfl rfl hl.1 rfl (lv_room (Nat.le_of_ble_eq_true rfl)) dX3_store_7 ⟨Nat.zero_le _, Nat.zero_le _⟩) (fun _h => ?_)
      exact absurd ⟨hk0, hk1⟩ hbad
    · exact hx_out (hx_runV (C := RX3) (b := x0) (As := [.int (nI y)]) (rest := []) ⟨hx, hb, hml, hown, htg⟩ (kx_X3_checkTerm l hst D cI cZ cJ sa y x0 h hh w k0 (by omega) hk1) (cwV 1 htg (hg_V hm_290 hm_292 hs_yX3_checkTerm hm_1 hm_293) rfl rfl rfl (by decide +kernel) ⟨Nat.le_of_ble_eq_true rfl, Nat.le_of_ble_eq_true rfl⟩) ⟨hp_X_blind, va_recv (q := (RX3, TX3, 4)) (q0 := 0) (ci := 3) hK hP rfl rfl, hp_X_pre (hP.sub (ws' := [(x0, .inr (3, [.ref h, .ref hh, .ref w, .ref k0]))]) [0] rfl) hz hE⟩ rfl rfl hl.1 rfl (lv_room (Nat.le_of_ble_eq_true rfl)) dX3_store_7 ⟨Nat.le_of_ble_eq_true rfl, Nat.le_of_ble_eq_true rfl⟩) hout hlocks
  · exact hx_out (hx_runV (C := RX3) (b := x0) (As := [.int (nI x)]) (rest := []) ⟨hx, hb, hml, hown, htg⟩ (kx_X3_checkVariable l hst D cI cZ cJ sa x x0 h hh w k0 (by omega) hk0) (cwV 1 htg (hg_V hm_388 hm_390 hs_yX3_checkVariable hm_1 hm_391) rfl rfl rfl (by decide +kernel) ⟨Nat.le_of_ble_eq_true rfl, Nat.le_of_ble_eq_true rfl⟩) ⟨hp_X_blind, va_recv (q := (RX3, TX3, 4)) (q0 := 0) (ci := 3) hK hP rfl rfl, hp_X_pre (hP.sub (ws' := [(x0, .inr (3, [.ref h, .ref hh, .ref w, .ref k0]))]) [0] rfl) hz hE⟩ rfl rfl hl.1 rfl (lv_room (Nat.le_of_ble_eq_true rfl)) dX3_store_2 ⟨Nat.le_of_ble_eq_true rfl, Nat.le_of_ble_eq_true rfl⟩) hout hlocks

set_option maxHeartbeats 4000000 in
set_option maxRecDepth 100000 in
/-- no cell -/
theorem kf_X3_store (l : Launch) (hst : l.stackTraces = false) (D : va_G) (cI cZ cJ : ClassId) (sa : Nat → Nat) (x y : Nat) (VW EW LW BW : Nat → Int32) (flw : Int32) (VA : Nat → Nat) (HA : Nat → Option Nat) (x0 h hh w k0 : Nat) (w0 w1 w2 w3 : Nat) (hV : ∀ j, j < 6 → VW j = nI (VA j)) (hV9 : ∀ j, j < 6 → VA j ≤ 9) (hW : hs_hp 9 EW LW BW HA (fun _ => false) (fun a => a)) (hx5 : x < 5) (hy6 : y < 6) (hn : HA (VA x) = none) : hx_Met l yX3_store (Cond.code yX3_store cX3_store 3 none :: hwG) { frames := 7, cells := 1, slots := 6, locals := 103 } (hp_X [.ref x0, .int (nI x), .int (nI y)] D cI cZ cJ [(x0, .inr (3, [.ref h, .ref hh, .ref w, .ref k0])), (w, .inr (2, [.ref w0, .int (nI 9), .ref w1, .ref w2, .ref w3, .int flw])), (w0, .inl (cI, 6, .inl VW)), (w1, .inl (cI, 9 + 1, .inl EW))] sa) hxG := by
  refine hx_ofW (cc := cX3_store) (maxL := 3) (ret := none) (by decide) rfl ?_
  intro p e s m args below meth c s₁ B hml hout hv
  obtain ⟨rfl, hP, hz, hE⟩ := hv
  have hx := B.exec
  have hb := B.bytes
  have hts := atoms_spec (ws := (Cond.code yX3_store cX3_store 3 none :: hwG)) B.pre
  have htg := fun w h => hts w (List.mem_cons_of_mem _ h)
  have hown : s.vm.findClass RX3 = some m.cls := findClass_of_methodNamed B.named
  have hlocks := B.notSynchronized
  have hK := hz.1
  have hl := lv_entry ([.ref x0, .int (nI x), .int (nI y)]) (n := 3) (Nat.le_of_ble_eq_true rfl)
  rw [lg_entry_eq]
  generalize (lg_sl ([.ref x0, .int (nI x), .int (nI y)]) ++ List.replicate (3 - (lg_sl ([.ref x0, .int (nI x), .int (nI y)])).length) Slot.unset).toArray = ls at hl ⊢
  replace hl : lv_has ls 3 [(0, .ref x0), (1, .int (nI x)), (2, .int (nI y))] := hl
  have hvx := hV9 x (by omega)
  refine lv_aload_n hx hb dX3_store_0 rfl (lv_at hl 0 rfl) ?_
  refine lv_iload_n hx hb dX3_store_1 rfl (lv_at hl 1 rfl) ?_
  refine hw_csv (va_runV (C := RX3) (b := x0) (As := [.int (nI x)]) (rest := []) ⟨hx, hb, hml, hown, htg⟩ (k_X3_checkVariable l D cI cZ cJ x x0 h hh w k0 (by omega)) (cwV 1 htg (hg_V hm_388 hm_390 hs_yX3_checkVariable hm_1 hm_391) rfl rfl rfl (by decide +kernel) ⟨Nat.le_of_ble_eq_true rfl, Nat.le_of_ble_eq_true rfl⟩) ⟨hp_R_blind, va_recv (q := (RX3, TX3, 4)) (q0 := 0) (ci := 3) hK hP rfl rfl, hp_R_pre (hP.sub (ws' := [(x0, .inr (3, [.ref h, .ref hh, .ref w, .ref k0]))]) [0] rfl) hz⟩ rfl rfl hl.1 rfl (lv_room (Nat.le_of_ble_eq_true rfl)) dX3_store_2 ⟨Nat.zero_le _, Nat.zero_le _⟩) (fun _h => ?_)
  refine lv_aload_n hx hb dX3_store_5 rfl (lv_at hl 0 rfl) ?_
  refine lv_iload_n hx hb dX3_store_6 rfl (lv_at hl 2 rfl) ?_
  refine hw_csv (va_runV (C := RX3) (b := x0) (As := [.int (nI y)]) (rest := []) ⟨hx, hb, hml, hown, htg⟩ (k_X3_checkTerm l D cI cZ cJ y x0 h hh w k0 (by omega)) (cwV 1 htg (hg_V hm_290 hm_292 hs_yX3_checkTerm hm_1 hm_293) rfl rfl rfl (by decide +kernel) ⟨Nat.le_of_ble_eq_true rfl, Nat.le_of_ble_eq_true rfl⟩) ⟨hp_R_blind, va_recv (q := (RX3, TX3, 4)) (q0 := 0) (ci := 3) hK hP rfl rfl, hp_R_pre (hP.sub (ws' := [(x0, .inr (3, [.ref h, .ref hh, .ref w, .ref k0]))]) [0] rfl) hz⟩ rfl rfl hl.1 rfl (lv_room (Nat.le_of_ble_eq_true rfl)) dX3_store_7 ⟨Nat.zero_le _, Nat.zero_le _⟩) (fun _h => ?_)
  refine lv_aload_n hx hb dX3_store_10 rfl (lv_at hl 0 rfl) ?_
  refine lv_aload_n hx hb dX3_store_11 rfl (lv_at hl 0 rfl) ?_
  refine va_get (D := D) (ci := 3) (v := .ref w) (C := RX3) (T := TX3) (N := 4) hx hb htg hi_X3 hown hK hP 0 rfl rfl 2 (by decide) (htg _ hm_114) (fun _ h9 => h9) rfl dX3_store_12 ?_
  refine va_getN (D := D) (ci := 2) (v := .ref w0) (C := RX2) (T := TX2) (N := 6) hx hb htg hi_X2 hown hK hP 1 rfl rfl 0 (by decide) (hz_useF hz hn_75) (fun _ h9 => h9) rfl dX3_store_15 ?_
  refine lv_iload_n hx hb dX3_store_18 rfl (lv_at hl 1 rfl) ?_
  refine hw_iald hx hb hK hP 2 0 rfl rfl (j := x) (by omega) (by first | decide | omega) (v := nI (VA x)) (hV x (by omega)) dX3_store_19 ?_
  exact hx_out (hx_runV (C := RX3) (b := x0) (As := [.int (nI (VA x))]) (rest := []) ⟨hx, hb, hml, hown, htg⟩ (kx_X3_checkCell l hst D cI cZ cJ sa (VA x) EW LW BW flw HA x0 h hh w k0 w0 w1 w2 w3 hW (by omega) hn) (cwV 1 htg (hg_V hm_432 hm_434 hs_yX3_checkCell hm_1 hm_435) rfl rfl rfl (by decide +kernel) ⟨Nat.le_of_ble_eq_true rfl, Nat.le_of_ble_eq_true rfl⟩) ⟨hp_X_blind, va_recv (q := (RX3, TX3, 4)) (q0 := 0) (ci := 3) hK hP rfl rfl, hp_X_pre (hP.sub (ws' := [(x0, .inr (3, [.ref h, .ref hh, .ref w, .ref k0])), (w, .inr (2, [.ref w0, .int (nI 9), .ref w1, .ref w2, .ref w3, .int flw])), (w1, .inl (cI, 9 + 1, .inl EW))]) [0, 1, 3] rfl) hz hE⟩ rfl rfl hl.1 rfl (lv_room (Nat.le_of_ble_eq_true rfl)) dX3_store_20 ⟨Nat.le_of_ble_eq_true rfl, Nat.le_of_ble_eq_true rfl⟩) hout hlocks

set_option maxHeartbeats 4000000 in
set_option maxRecDepth 100000 in
/-- make -/
theorem k_X3_make (l : Launch) (D : va_G) (cI cZ cJ : ClassId) (sz : Nat) (x : Nat) (VW EW LW BW : Nat → Int32) (flw : Int32) (VA : Nat → Nat) (HA : Nat → Option Nat) (x0 h hh w k0 : Nat) (w0 w1 w2 w3 : Nat) (hW : hs_hp 9 EW LW BW HA (fun _ => false) (fun a => a)) (hx5 : x < 5) (hnf : ¬ ∀ j, 1 ≤ j → j ≤ 9 → HA j ≠ none) : Met l yX3_make (Cond.code yX3_make cX3_make 3 none :: hwG) { frames := 2, cells := 0, slots := 0, locals := 46 } (hp_M [.ref x0, .int (nI x)] D cI cZ cJ [(x0, .inr (3, [.ref h, .ref hh, .ref w, .ref k0])), (w, .inr (2, [.ref w0, .int (nI 9), .ref w1, .ref w2, .ref w3, .int flw])), (w0, .inl (cI, 6, .inl VW)), (w1, .inl (cI, 9 + 1, .inl EW)), (w2, .inl (cZ, 9 + 1, .inl LW)), (w3, .inl (cI, 9 + 1, .inl BW))] sz) (va_Qv (S := (Nat → Int32) × (Nat → Int32) × (Nat → Int32) × Int32 × (Nat → Int32)) (fun u => ∃ b, 1 ≤ b ∧ b ≤ 9 ∧ HA b = none ∧ (∀ j, 1 ≤ j → j < b → HA j ≠ none) ∧ u.2.2.2.2 = upd VW x (nI b) ∧ u.1 = upd EW (b) (nI 0) ∧ u.2.1 = upd LW (b) (hc_b false) ∧ u.2.2.1 = upd BW (b) (nI 1 <<< (nI (b) &&& 31)) ∧ u.2.2.2.1 = flw ||| (nI 1 <<< (nI (b) &&& 31))) (fun u t => va_P D vwCl ([(x0, .inr (3, [.ref h, .ref hh, .ref w, .ref k0])), (w, .inr (2, [.ref w0, .int (nI 9), .ref w1, .ref w2, .ref w3, .int u.2.2.2.1])), (w0, .inl (cI, 6, .inl u.2.2.2.2)), (w1, .inl (cI, 9 + 1, .inl u.1)), (w2, .inl (cZ, 9 + 1, .inl u.2.1)), (w3, .inl (cI, 9 + 1, .inl u.2.2.1))]) t.heap) (va_A [(x0, .inr (3, [.ref h, .ref hh, .ref w, .ref k0])), (w, .inr (2, [.ref w0, .int (nI 9), .ref w1, .ref w2, .ref w3, .int flw])), (w0, .inl (cI, 6, .inl VW)), (w1, .inl (cI, 9 + 1, .inl EW)), (w2, .inl (cZ, 9 + 1, .inl LW)), (w3, .inl (cI, 9 + 1, .inl BW))] sz)) 0 0 (va_A [(x0, .inr (3, [.ref h, .ref hh, .ref w, .ref k0])), (w, .inr (2, [.ref w0, .int (nI 9), .ref w1, .ref w2, .ref w3, .int flw])), (w0, .inl (cI, 6, .inl VW)), (w1, .inl (cI, 9 + 1, .inl EW)), (w2, .inl (cZ, 9 + 1, .inl LW)), (w3, .inl (cI, 9 + 1, .inl BW))] sz) := by
  refine Met.ofW (cc := cX3_make) (maxL := 3) (ret := none) (by decide) rfl ?_
  intro p e s m args below meth c s₁ B hml hv
  obtain ⟨rfl, hsz, hP, hz, hD0⟩ := hv
  have hx := B.exec
  have hb := B.bytes
  have hr := B.returns
  have hts := atoms_spec (ws := (Cond.code yX3_make cX3_make 3 none :: hwG)) B.pre
  have htg := fun w h => hts w (List.mem_cons_of_mem _ h)
  have hown : s.vm.findClass RX3 = some m.cls := findClass_of_methodNamed B.named
  have hlocks := B.notSynchronized
  have hK := hz.1
  subst hsz
  have hD := hD0.self (sz := s.heap.size)
  generalize hAe : va_A [(x0, .inr (3, [.ref h, .ref hh, .ref w, .ref k0])), (w, .inr (2, [.ref w0, .int (nI 9), .ref w1, .ref w2, .ref w3, .int flw])), (w0, .inl (cI, 6, .inl VW)), (w1, .inl (cI, 9 + 1, .inl EW)), (w2, .inl (cZ, 9 + 1, .inl LW)), (w3, .inl (cI, 9 + 1, .inl BW))] s.heap.size = A at hD ⊢
  have hA : ∀ q : Nat, s.heap.size ≤ q → A q := fun q h => by rw [← hAe]; exact Or.inr h
  have hS : va_S A s.heap s.heap [] := va_S.rf
  have hl := lv_entry ([.ref x0, .int (nI x)]) (n := 3) (Nat.le_of_ble_eq_true rfl)
  rw [lg_entry_eq]
  generalize (lg_sl ([.ref x0, .int (nI x)]) ++ List.replicate (3 - (lg_sl ([.ref x0, .int (nI x)])).length) Slot.unset).toArray = ls at hl ⊢
  replace hl : lv_has ls 3 [(0, .ref x0), (1, .int (nI x))] := hl
  replace hP : va_P D vwCl [(x0, .inr (3, [.ref h, .ref hh, .ref w, .ref k0])), (w, .inr (2, [.ref w0, .int (nI 9), .ref w1, .ref w2, .ref w3, .int flw])), (w0, .inl (cI, 6, .inl VW)), (w1, .inl (cI, 9 + 1, .inl EW)), (w2, .inl (cZ, 9 + 1, .inl LW)), (w3, .inl (cI, 9 + 1, .inl BW))] s.heap := hP
  refine lv_aload_n hx hb dX3_make_0 rfl (lv_at hl 0 rfl) ?_
  refine lv_iload_n hx hb dX3_make_1 rfl (lv_at hl 1 rfl) ?_
  refine hw_csv (va_runV (C := RX3) (b := x0) (As := [.int (nI x)]) (rest := []) ⟨hx, hb, hml, hown, htg⟩ (k_X3_checkVariable l D cI cZ cJ x x0 h hh w k0 (by omega)) (cwV 1 htg (hg_V hm_388 hm_390 hs_yX3_checkVariable hm_1 hm_391) rfl rfl rfl (by decide +kernel) ⟨Nat.le_of_ble_eq_true rfl, Nat.le_of_ble_eq_true rfl⟩) ⟨hp_R_blind, va_recv (q := (RX3, TX3, 4)) (q0 := 0) (ci := 3) hK hP rfl rfl, hp_R_pre (hP.sub (ws' := [(x0, .inr (3, [.ref h, .ref hh, .ref w, .ref k0]))]) [0] rfl) hz⟩ rfl rfl hl.1 rfl (lv_room (Nat.le_of_ble_eq_true rfl)) dX3_make_2 ⟨Nat.zero_le _, Nat.zero_le _⟩) (fun _h => ?_)
  refine lv_aload_n hx hb dX3_make_5 rfl (lv_at hl 0 rfl) ?_
  refine va_get (D := D) (ci := 3) (v := .ref w) (C := RX3) (T := TX3) (N := 4) hx hb htg hi_X3 hown hK hP 0 rfl rfl 2 (by decide) (htg _ hm_114) (fun _ h9 => h9) rfl dX3_make_6 ?_
  refine hw_csi (va_runV (C := RX2) (b := w) (As := []) (rest := []) ⟨hx, hb, hml, hown, htg⟩ (k_X2_leastFreeAddress l D cI cZ cJ 9 EW LW BW HA (fun _ => false) (fun a => a) flw w w0 w1 w2 w3 (by omega) (by decide) hW) (cwV 0 htg (hg_V hm_452 hm_453 hm_454 hm_3 hm_455) rfl rfl rfl (by decide +kernel) ⟨Nat.le_of_ble_eq_true rfl, Nat.le_of_ble_eq_true rfl⟩) ⟨hp_R_blind, va_recv (q := (RX2, TX2, 6)) (q0 := 1) (ci := 2) hK hP rfl rfl, hp_R_pre (hP.sub (ws' := [(w, .inr (2, [.ref w0, .int (nI 9), .ref w1, .ref w2, .ref w3, .int flw])), (w1, .inl (cI, 9 + 1, .inl EW))]) [1, 3] rfl) hz⟩ rfl rfl hl.1 rfl (lv_room (Nat.le_of_ble_eq_true rfl)) dX3_make_9 ⟨Nat.zero_le _, Nat.zero_le _⟩) (fun r9 hq => ?_)
  rcases hq with ⟨rfl, hq⟩ | ⟨a9, rfl, hq1, hq2, hq3, hq4⟩
  · exact absurd hq hnf
  · refine lv_istore_n hx hb dX3_make_12 rfl hl (by decide) rfl (fun ls hl => ?_)
    replace hl : lv_has ls 3 [(2, .int (nI a9)), (0, .ref x0), (1, .int (nI x))] := hl
    refine lv_iload_n hx hb dX3_make_13 rfl (lv_at hl 0 rfl) ?_
    refine lv_iconst (v := (-1)) hx hb dX3_make_14 (by decide) ?_
    refine lv_icmp_ne hx hb dX3_make_15 rfl (fun hc => ?_) (fun hc => absurd hc (hs_nm1 a9 (by omega)))
    refine lv_aload_n hx hb dX3_make_28 rfl (lv_at hl 1 rfl) ?_
    refine va_get (D := D) (ci := 3) (v := .ref w) (C := RX3) (T := TX3) (N := 4) hx hb htg hi_X3 hown hK hP 0 rfl rfl 2 (by decide) (htg _ hm_114) (fun _ h9 => h9) rfl dX3_make_29 ?_
    refine va_getN (D := D) (ci := 2) (v := .ref w0) (C := RX2) (T := TX2) (N := 6) hx hb htg hi_X2 hown hK hP 1 rfl rfl 0 (by decide) (hz_useF hz hn_75) (fun _ h9 => h9) rfl dX3_make_32 ?_
    refine lv_iload_n hx hb dX3_make_35 rfl (lv_at hl 2 rfl) ?_
    refine lv_iload_n hx hb dX3_make_36 rfl (lv_at hl 0 rfl) ?_
    refine hw_iast hx hb hK hP hD hS 2 0 rfl rfl (j := x) (by omega) (by first | decide | omega) dX3_make_37 (fun H locs hP hD hS => ?_)
    replace hP : va_P D vwCl [(x0, .inr (3, [.ref h, .ref hh, .ref w, .ref k0])), (w, .inr (2, [.ref w0, .int (nI 9), .ref w1, .ref w2, .ref w3, .int flw])), (w0, .inl (cI, 6, .inl (upd VW x (nI a9)))), (w1, .inl (cI, 9 + 1, .inl EW)), (w2, .inl (cZ, 9 + 1, .inl LW)), (w3, .inl (cI, 9 + 1, .inl BW))] H := hP
    replace hD : va_D A [(x0, .inr (3, [.ref h, .ref hh, .ref w, .ref k0])), (w, .inr (2, [.ref w0, .int (nI 9), .ref w1, .ref w2, .ref w3, .int flw])), (w0, .inl (cI, 6, .inl (upd VW x (nI a9)))), (w1, .inl (cI, 9 + 1, .inl EW)), (w2, .inl (cZ, 9 + 1, .inl LW)), (w3, .inl (cI, 9 + 1, .inl BW))] := hD
    refine lv_aload_n hx hb dX3_make_38 rfl (lv_at hl 1 rfl) ?_
    refine va_get (D := D) (ci := 3) (v := .ref w) (C := RX3) (T := TX3) (N := 4) hx hb htg hi_X3 hown hK hP 0 rfl rfl 2 (by decide) (htg _ hm_114) (fun _ h9 => h9) rfl dX3_make_39 ?_
    refine lv_iload_n hx hb dX3_make_42 rfl (lv_at hl 0 rfl) ?_
    refine lv_iconst (v := nI 0) hx hb dX3_make_43 (by decide) ?_
    refine hv_callv (w1 := fun u : (Nat → Int32) × (Nat → Int32) × (Nat → Int32) × Int32 => [(w, .inr (2, [.ref w0, .int (nI 9), .ref w1, .ref w2, .ref w3, .int u.2.2.2])), (w1, .inl (cI, 9 + 1, .inl u.1)), (w2, .inl (cZ, 9 + 1, .inl u.2.1)), (w3, .inl (cI, 9 + 1, .inl u.2.2.1))]) (va_runV (C := RX2) (b := w) (As := [.int (nI a9), .int (nI 0)]) (rest := []) ⟨hx, hb, hml, hown, htg⟩ (k_X2_setCell l D cI cZ cJ _ a9 (nI 0) 9 EW LW BW flw w w0 w1 w2 w3 (by decide) (by omega)) (cwV 2 htg (hg_V hm_406 hm_407 hm_408 hm_3 hm_409) rfl rfl rfl (by decide +kernel) ⟨Nat.le_of_ble_eq_true rfl, Nat.le_of_ble_eq_true rfl⟩) ⟨hp_M_blind, va_recv (q := (RX2, TX2, 6)) (q0 := 1) (ci := 2) hK hP rfl rfl, hp_M_pre (hP.sub (ws' := [(w, .inr (2, [.ref w0, .int (nI 9), .ref w1, .ref w2, .ref w3, .int flw])), (w1, .inl (cI, 9 + 1, .inl EW)), (w2, .inl (cZ, 9 + 1, .inl LW)), (w3, .inl (cI, 9 + 1, .inl BW))]) [1, 3, 4, 5] rfl) (hD.sub (ws' := [(w, .inr (2, [.ref w0, .int (nI 9), .ref w1, .ref w2, .ref w3, .int flw])), (w1, .inl (cI, 9 + 1, .inl EW)), (w2, .inl (cZ, 9 + 1, .inl LW)), (w3, .inl (cI, 9 + 1, .inl BW))]) [1, 3, 4, 5] (by decide) rfl) hz⟩ rfl rfl hl.1 rfl (lv_room (Nat.le_of_ble_eq_true rfl)) dX3_make_44 ⟨Nat.zero_le _, Nat.zero_le _⟩) hP hD hS hA [1, 3, 4, 5] rfl (fun _ => rfl) (fun u1 H locs h1 hP hD hS => ?_)
    replace hP : va_P D vwCl [(x0, .inr (3, [.ref h, .ref hh, .ref w, .ref k0])), (w, .inr (2, [.ref w0, .int (nI 9), .ref w1, .ref w2, .ref w3, .int u1.2.2.2])), (w0, .inl (cI, 6, .inl (upd VW x (nI a9)))), (w1, .inl (cI, 9 + 1, .inl u1.1)), (w2, .inl (cZ, 9 + 1, .inl u1.2.1)), (w3, .inl (cI, 9 + 1, .inl u1.2.2.1))] H := hP
    replace hD : va_D A [(x0, .inr (3, [.ref h, .ref hh, .ref w, .ref k0])), (w, .inr (2, [.ref w0, .int (nI 9), .ref w1, .ref w2, .ref w3, .int u1.2.2.2])), (w0, .inl (cI, 6, .inl (upd VW x (nI a9)))), (w1, .inl (cI, 9 + 1, .inl u1.1)), (w2, .inl (cZ, 9 + 1, .inl u1.2.1)), (w3, .inl (cI, 9 + 1, .inl u1.2.2.1))] := hD
    exact W.vret hx hb hr (fun t9 ht9 hW9 => ⟨⟨(u1.1, u1.2.1, u1.2.2.1, u1.2.2.2, upd VW x (nI a9)), rfl, ⟨a9, hq1, hq2, hq3, hq4, rfl, h1⟩, by show va_P D vwCl [(x0, .inr (3, [.ref h, .ref hh, .ref w, .ref k0])), (w, .inr (2, [.ref w0, .int (nI 9), .ref w1, .ref w2, .ref w3, .int u1.2.2.2])), (w0, .inl (cI, 6, .inl (upd VW x (nI a9)))), (w1, .inl (cI, 9 + 1, .inl u1.1)), (w2, .inl (cZ, 9 + 1, .inl u1.2.1)), (w3, .inl (cI, 9 + 1, .inl u1.2.2.1))] t9.heap; rw [ht9]; exact hP⟩, hS.F ht9⟩) hS.2.2 dX3_make_47

set_option maxHeartbeats 4000000 in
set_option maxRecDepth 100000 in
/-- a number is wrong -/
theorem kx_X3_make (l : Launch) (hst : l.stackTraces = false) (D : va_G) (cI cZ cJ : ClassId) (sa : Nat → Nat) (x : Nat) (x0 h hh w k0 : Nat) (hx9 : x < 2 ^ 32) (hbad : ¬ x < 5) : hx_Met l yX3_make (Cond.code yX3_make cX3_make 3 none :: hwG) { frames := 7, cells := 1, slots := 6, locals := 103 } (hp_X [.ref x0, .int (nI x)] D cI cZ cJ [(x0, .inr (3, [.ref h, .ref hh, .ref w, .ref k0]))] sa) hxI := by
  refine hx_ofW (cc := cX3_make) (maxL := 3) (ret := none) (by decide) rfl ?_
  intro p e s m args below meth c s₁ B hml hout hv
  obtain ⟨rfl, hP, hz, hE⟩ := hv
  have hx := B.exec
  have hb := B.bytes
  have hts := atoms_spec (ws := (Cond.code yX3_make cX3_make 3 none :: hwG)) B.pre
  have htg := fun w h => hts w (List.mem_cons_of_mem _ h)
  have hown : s.vm.findClass RX3 = some m.cls := findClass_of_methodNamed B.named
  have hlocks := B.notSynchronized
  have hK := hz.1
  have hl := lv_entry ([.ref x0, .int (nI x)]) (n := 3) (Nat.le_of_ble_eq_true rfl)
  rw [lg_entry_eq]
  generalize (lg_sl ([.ref x0, .int (nI x)]) ++ List.replicate (3 - (lg_sl ([.ref x0, .int (nI x)])).length) Slot.unset).toArray = ls at hl ⊢
  replace hl : lv_has ls 3 [(0, .ref x0), (1, .int (nI x))] := hl
  refine lv_aload_n hx hb dX3_make_0 rfl (lv_at hl 0 rfl) ?_
  refine lv_iload_n hx hb dX3_make_1 rfl (lv_at hl 1 rfl) ?_
  by_cases hk0 : x < 5
  · refine hw_csv (va_runV (C := RX3) (b := x0) (As := [.int (nI x)]) (rest := []) ⟨hx, hb, hml, hown, htg⟩ (k_X3_checkVariable l D cI cZ cJ x x0 h hh w k0 (by omega)) (cwV 1 htg (hg_V hm_388 hm_390 hs_yX3_checkVariable hm_1 hm_391) rfl rfl rfl (by decide +kernel) ⟨Nat.le_of_ble_eq_true rfl, Nat.le_of_ble_eq_true rfl⟩) ⟨hp_R_blind, va_recv (q := (RX3, TX3, 4)) (q0 := 0) (ci := 3) hK hP rfl rfl, hp_R_pre (hP.sub (ws' := [(x0, .inr (3, [.ref h, .ref hh, .ref w, .ref k0]))]) [0] rfl) hz⟩ rfl rfl hl.1 rfl (lv_room (Nat.le_of_ble_eq_true rfl)) dX3_make_2 ⟨Nat.zero_le _, Nat.zero_le _⟩) (fun _h => ?_)
    exact absurd hk0 hbad
  · exact hx_out (hx_runV (C := RX3) (b := x0) (As := [.int (nI x)]) (rest := []) ⟨hx, hb, hml, hown, htg⟩ (kx_X3_checkVariable l hst D cI cZ cJ sa x x0 h hh w k0 (by omega) hk0) (cwV 1 htg (hg_V hm_388 hm_390 hs_yX3_checkVariable hm_1 hm_391) rfl rfl rfl (by decide +kernel) ⟨Nat.le_of_ble_eq_true rfl, Nat.le_of_ble_eq_true rfl⟩) ⟨hp_X_blind, va_recv (q := (RX3, TX3, 4)) (q0 := 0) (ci := 3) hK hP rfl rfl, hp_X_pre (hP.sub (ws' := [(x0, .inr (3, [.ref h, .ref hh, .ref w, .ref k0]))]) [0] rfl) hz hE⟩ rfl rfl hl.1 rfl (lv_room (Nat.le_of_ble_eq_true rfl)) dX3_make_2 ⟨Nat.le_of_ble_eq_true rfl, Nat.le_of_ble_eq_true rfl⟩) hout hlocks

set_option maxHeartbeats 4000000 in
set_option maxRecDepth 100000 in
/-- full -/
theorem kf_X3_make (l : Launch) (hst : l.stackTraces = false) (D : va_G) (cI cZ cJ : ClassId) (sa : Nat → Nat) (x : Nat) (VW EW LW BW : Nat → Int32) (flw : Int32) (VA : Nat → Nat) (HA : Nat → Option Nat) (x0 h hh w k0 : Nat) (w0 w1 w2 w3 : Nat) (hW : hs_hp 9 EW LW BW HA (fun _ => false) (fun a => a)) (hx5 : x < 5) (hnf : ∀ j, 1 ≤ j → j ≤ 9 → HA j ≠ none) : hx_Met l yX3_make (Cond.code yX3_make cX3_make 3 none :: hwG) { frames := 6, cells := 1, slots := 6, locals := 82 } (hp_X [.ref x0, .int (nI x)] D cI cZ cJ [(x0, .inr (3, [.ref h, .ref hh, .ref w, .ref k0])), (w, .inr (2, [.ref w0, .int (nI 9), .ref w1, .ref w2, .ref w3, .int flw])), (w1, .inl (cI, 9 + 1, .inl EW))] sa) hxU := by
  refine hx_ofW (cc := cX3_make) (maxL := 3) (ret := none) (by decide) rfl ?_
  intro p e s m args below meth c s₁ B hml hout hv
  obtain ⟨rfl, hP, hz, hE⟩ := hv
  have hx := B.exec
  have hb := B.bytes
  have hts := atoms_spec (ws := (Cond.code yX3_make cX3_make 3 none :: hwG)) B.pre
  have htg := fun w h => hts w (List.mem_cons_of_mem _ h)
  have hown : s.vm.findClass RX3 = some m.cls := findClass_of_methodNamed B.named
  have hlocks := B.notSynchronized
  have hK := hz.1
  have hl := lv_entry ([.ref x0, .int (nI x)]) (n := 3) (Nat.le_of_ble_eq_true rfl)
  rw [lg_entry_eq]
  generalize (lg_sl ([.ref x0, .int (nI x)]) ++ List.replicate (3 - (lg_sl ([.ref x0, .int (nI x)])).length) Slot.unset).toArray = ls at hl ⊢
  replace hl : lv_has ls 3 [(0, .ref x0), (1, .int (nI x))] := hl
  refine lv_aload_n hx hb dX3_make_0 rfl (lv_at hl 0 rfl) ?_
  refine lv_iload_n hx hb dX3_make_1 rfl (lv_at hl 1 rfl) ?_
  refine hw_csv (va_runV (C := RX3) (b := x0) (As := [.int (nI x)]) (rest := []) ⟨hx, hb, hml, hown, htg⟩ (k_X3_checkVariable l D cI cZ cJ x x0 h hh w k0 (by omega)) (cwV 1 htg (hg_V hm_388 hm_390 hs_yX3_checkVariable hm_1 hm_391) rfl rfl rfl (by decide +kernel) ⟨Nat.le_of_ble_eq_true rfl, Nat.le_of_ble_eq_true rfl⟩) ⟨hp_R_blind, va_recv (q := (RX3, TX3, 4)) (q0 := 0) (ci := 3) hK hP rfl rfl, hp_R_pre (hP.sub (ws' := [(x0, .inr (3, [.ref h, .ref hh, .ref w, .ref k0]))]) [0] rfl) hz⟩ rfl rfl hl.1 rfl (lv_room (Nat.le_of_ble_eq_true rfl)) dX3_make_2 ⟨Nat.zero_le _, Nat.zero_le _⟩) (fun _h => ?_)
  refine lv_aload_n hx hb dX3_make_5 rfl (lv_at hl 0 rfl) ?_
  refine va_get (D := D) (ci := 3) (v := .ref w) (C := RX3) (T := TX3) (N := 4) hx hb htg hi_X3 hown hK hP 0 rfl rfl 2 (by decide) (htg _ hm_114) (fun _ h9 => h9) rfl dX3_make_6 ?_
  refine hw_csi (va_runV (C := RX2) (b := w) (As := []) (rest := []) ⟨hx, hb, hml, hown, htg⟩ (k_X2_leastFreeAddress l D cI cZ cJ 9 EW LW BW HA (fun _ => false) (fun a => a) flw w w0 w1 w2 w3 (by omega) (by decide) hW) (cwV 0 htg (hg_V hm_452 hm_453 hm_454 hm_3 hm_455) rfl rfl rfl (by decide +kernel) ⟨Nat.le_of_ble_eq_true rfl, Nat.le_of_ble_eq_true rfl⟩) ⟨hp_R_blind, va_recv (q := (RX2, TX2, 6)) (q0 := 1) (ci := 2) hK hP rfl rfl, hp_R_pre (hP.sub (ws' := [(w, .inr (2, [.ref w0, .int (nI 9), .ref w1, .ref w2, .ref w3, .int flw])), (w1, .inl (cI, 9 + 1, .inl EW))]) [1, 2] rfl) hz⟩ rfl rfl hl.1 rfl (lv_room (Nat.le_of_ble_eq_true rfl)) dX3_make_9 ⟨Nat.zero_le _, Nat.zero_le _⟩) (fun r9 hq => ?_)
  rcases hq with ⟨rfl, hq⟩ | ⟨a9, rfl, hq1, hq2, hq3, hq4⟩
  · refine lv_istore_n hx hb dX3_make_12 rfl hl (by decide) rfl (fun ls hl => ?_)
    replace hl : lv_has ls 3 [(2, .int (-1)), (0, .ref x0), (1, .int (nI x))] := hl
    refine lv_iload_n hx hb dX3_make_13 rfl (lv_at hl 0 rfl) ?_
    refine lv_iconst (v := (-1)) hx hb dX3_make_14 (by decide) ?_
    refine lv_icmp_ne hx hb dX3_make_15 rfl (fun hc => absurd rfl hc) (fun hc => ?_)
    exact hx_throw hx hb hst (own := RX3) (cls := hxU) (names := hxN) (ik := 122) (is := 124) (ic := 126) hown (by decide) (by decide) (htg _ hm_456) (htg _ hm_14) (hE.2 (124, "all addresses have a cell") (by decide)) (hx_own hx_oU htg hE.1) (hl.1.trans hml.symm) dX3_make_18 dX3_make_21 dX3_make_22 dX3_make_24 dX3_make_27 hout (Nat.le_of_ble_eq_true rfl) (Nat.le_of_ble_eq_true rfl) (Nat.le_of_ble_eq_true rfl) (Nat.le_of_ble_eq_true rfl) hlocks
  · exact absurd hq3 (hnf a9 hq1 hq2)

set_option maxHeartbeats 4000000 in
set_option maxRecDepth 100000 in
/-- drop -/
theorem k_X3_drop (l : Launch) (D : va_G) (cI cZ cJ : ClassId) (sz : Nat) (x : Nat) (VW EW LW BW : Nat → Int32) (flw : Int32) (VA : Nat → Nat) (HA : Nat → Option Nat) (x0 h hh w k0 : Nat) (w0 w1 w2 w3 : Nat) (hV : ∀ j, j < 6 → VW j = nI (VA j)) (hV9 : ∀ j, j < 6 → VA j ≤ 9) (hW : hs_hp 9 EW LW BW HA (fun _ => false) (fun a => a)) (hx5 : x < 5) (hn : HA (VA x) ≠ none) : Met l yX3_drop (Cond.code yX3_drop cX3_drop 2 none :: hwG) { frames := 2, cells := 0, slots := 0, locals := 42 } (hp_M [.ref x0, .int (nI x)] D cI cZ cJ [(x0, .inr (3, [.ref h, .ref hh, .ref w, .ref k0])), (w, .inr (2, [.ref w0, .int (nI 9), .ref w1, .ref w2, .ref w3, .int flw])), (w0, .inl (cI, 6, .inl VW)), (w1, .inl (cI, 9 + 1, .inl EW)), (w3, .inl (cI, 9 + 1, .inl BW))] sz) (va_Qv (S := (Nat → Int32) × Int32) (fun u => u.1 = upd EW (VA x) (-1) ∧ u.2 = flw &&& (BW (VA x) ^^^ (-1))) (fun u t => va_P D vwCl ([(x0, .inr (3, [.ref h, .ref hh, .ref w, .ref k0])), (w, .inr (2, [.ref w0, .int (nI 9), .ref w1, .ref w2, .ref w3, .int u.2])), (w0, .inl (cI, 6, .inl VW)), (w1, .inl (cI, 9 + 1, .inl u.1)), (w3, .inl (cI, 9 + 1, .inl BW))]) t.heap) (va_A [(x0, .inr (3, [.ref h, .ref hh, .ref w, .ref k0])), (w, .inr (2, [.ref w0, .int (nI 9), .ref w1, .ref w2, .ref w3, .int flw])), (w0, .inl (cI, 6, .inl VW)), (w1, .inl (cI, 9 + 1, .inl EW)), (w3, .inl (cI, 9 + 1, .inl BW))] sz)) 0 0 (va_A [(x0, .inr (3, [.ref h, .ref hh, .ref w, .ref k0])), (w, .inr (2, [.ref w0, .int (nI 9), .ref w1, .ref w2, .ref w3, .int flw])), (w0, .inl (cI, 6, .inl VW)), (w1, .inl (cI, 9 + 1, .inl EW)), (w3, .inl (cI, 9 + 1, .inl BW))] sz) := by
  refine Met.ofW (cc := cX3_drop) (maxL := 2) (ret := none) (by decide) rfl ?_
  intro p e s m args below meth c s₁ B hml hv
  obtain ⟨rfl, hsz, hP, hz, hD0⟩ := hv
  have hx := B.exec
  have hb := B.bytes
  have hr := B.returns
  have hts := atoms_spec (ws := (Cond.code yX3_drop cX3_drop 2 none :: hwG)) B.pre
  have htg := fun w h => hts w (List.mem_cons_of_mem _ h)
  have hown : s.vm.findClass RX3 = some m.cls := findClass_of_methodNamed B.named
  have hlocks := B.notSynchronized
  have hK := hz.1
  subst hsz
  have hD := hD0.self (sz := s.heap.size)
  generalize hAe : va_A [(x0, .inr (3, [.ref h, .ref hh, .ref w, .ref k0])), (w, .inr (2, [.ref w0, .int (nI 9), .ref w1, .ref w2, .ref w3, .int flw])), (w0, .inl (cI, 6, .inl VW)), (w1, .inl (cI, 9 + 1, .inl EW)), (w3, .inl (cI, 9 + 1, .inl BW))] s.heap.size = A at hD ⊢
  have hA : ∀ q : Nat, s.heap.size ≤ q → A q := fun q h => by rw [← hAe]; exact Or.inr h
  have hS : va_S A s.heap s.heap [] := va_S.rf
  have hl := lv_entry ([.ref x0, .int (nI x)]) (n := 2) (Nat.le_of_ble_eq_true rfl)
  rw [lg_entry_eq]
  generalize (lg_sl ([.ref x0, .int (nI x)]) ++ List.replicate (2 - (lg_sl ([.ref x0, .int (nI x)])).length) Slot.unset).toArray = ls at hl ⊢
  replace hl : lv_has ls 2 [(0, .ref x0), (1, .int (nI x))] := hl
  replace hP : va_P D vwCl [(x0, .inr (3, [.ref h, .ref hh, .ref w, .ref k0])), (w, .inr (2, [.ref w0, .int (nI 9), .ref w1, .ref w2, .ref w3, .int flw])), (w0, .inl (cI, 6, .inl VW)), (w1, .inl (cI, 9 + 1, .inl EW)), (w3, .inl (cI, 9 + 1, .inl BW))] s.heap := hP
  have hvx := hV9 x (by omega)
  refine lv_aload_n hx hb dX3_drop_0 rfl (lv_at hl 0 rfl) ?_
  refine lv_iload_n hx hb dX3_drop_1 rfl (lv_at hl 1 rfl) ?_
  refine hw_csv (va_runV (C := RX3) (b := x0) (As := [.int (nI x)]) (rest := []) ⟨hx, hb, hml, hown, htg⟩ (k_X3_checkVariable l D cI cZ cJ x x0 h hh w k0 (by omega)) (cwV 1 htg (hg_V hm_388 hm_390 hs_yX3_checkVariable hm_1 hm_391) rfl rfl rfl (by decide +kernel) ⟨Nat.le_of_ble_eq_true rfl, Nat.le_of_ble_eq_true rfl⟩) ⟨hp_R_blind, va_recv (q := (RX3, TX3, 4)) (q0 := 0) (ci := 3) hK hP rfl rfl, hp_R_pre (hP.sub (ws' := [(x0, .inr (3, [.ref h, .ref hh, .ref w, .ref k0]))]) [0] rfl) hz⟩ rfl rfl hl.1 rfl (lv_room (Nat.le_of_ble_eq_true rfl)) dX3_drop_2 ⟨Nat.zero_le _, Nat.zero_le _⟩) (fun _h => ?_)
  refine lv_aload_n hx hb dX3_drop_5 rfl (lv_at hl 0 rfl) ?_
  refine lv_aload_n hx hb dX3_drop_6 rfl (lv_at hl 0 rfl) ?_
  refine va_get (D := D) (ci := 3) (v := .ref w) (C := RX3) (T := TX3) (N := 4) hx hb htg hi_X3 hown hK hP 0 rfl rfl 2 (by decide) (htg _ hm_114) (fun _ h9 => h9) rfl dX3_drop_7 ?_
  refine va_getN (D := D) (ci := 2) (v := .ref w0) (C := RX2) (T := TX2) (N := 6) hx hb htg hi_X2 hown hK hP 1 rfl rfl 0 (by decide) (hz_useF hz hn_75) (fun _ h9 => h9) rfl dX3_drop_10 ?_
  refine lv_iload_n hx hb dX3_drop_13 rfl (lv_at hl 1 rfl) ?_
  refine hw_iald hx hb hK hP 2 0 rfl rfl (j := x) (by omega) (by first | decide | omega) (v := nI (VA x)) (hV x (by omega)) dX3_drop_14 ?_
  refine hw_csv (va_runV (C := RX3) (b := x0) (As := [.int (nI (VA x))]) (rest := []) ⟨hx, hb, hml, hown, htg⟩ (k_X3_checkCell l D cI cZ cJ (VA x) EW LW BW flw HA x0 h hh w k0 w0 w1 w2 w3 hW (by omega) hn) (cwV 1 htg (hg_V hm_432 hm_434 hs_yX3_checkCell hm_1 hm_435) rfl rfl rfl (by decide +kernel) ⟨Nat.le_of_ble_eq_true rfl, Nat.le_of_ble_eq_true rfl⟩) ⟨hp_R_blind, va_recv (q := (RX3, TX3, 4)) (q0 := 0) (ci := 3) hK hP rfl rfl, hp_R_pre (hP.sub (ws' := [(x0, .inr (3, [.ref h, .ref hh, .ref w, .ref k0])), (w, .inr (2, [.ref w0, .int (nI 9), .ref w1, .ref w2, .ref w3, .int flw])), (w1, .inl (cI, 9 + 1, .inl EW))]) [0, 1, 3] rfl) hz⟩ rfl rfl hl.1 rfl (lv_room (Nat.le_of_ble_eq_true rfl)) dX3_drop_15 ⟨Nat.zero_le _, Nat.zero_le _⟩) (fun _h => ?_)
  refine lv_aload_n hx hb dX3_drop_18 rfl (lv_at hl 0 rfl) ?_
  refine va_get (D := D) (ci := 3) (v := .ref w) (C := RX3) (T := TX3) (N := 4) hx hb htg hi_X3 hown hK hP 0 rfl rfl 2 (by decide) (htg _ hm_114) (fun _ h9 => h9) rfl dX3_drop_19 ?_
  refine lv_aload_n hx hb dX3_drop_22 rfl (lv_at hl 0 rfl) ?_
  refine va_get (D := D) (ci := 3) (v := .ref w) (C := RX3) (T := TX3) (N := 4) hx hb htg hi_X3 hown hK hP 0 rfl rfl 2 (by decide) (htg _ hm_114) (fun _ h9 => h9) rfl dX3_drop_23 ?_
  refine va_getN (D := D) (ci := 2) (v := .ref w0) (C := RX2) (T := TX2) (N := 6) hx hb htg hi_X2 hown hK hP 1 rfl rfl 0 (by decide) (hz_useF hz hn_75) (fun _ h9 => h9) rfl dX3_drop_26 ?_
  refine lv_iload_n hx hb dX3_drop_29 rfl (lv_at hl 1 rfl) ?_
  refine hw_iald hx hb hK hP 2 0 rfl rfl (j := x) (by omega) (by first | decide | omega) (v := nI (VA x)) (hV x (by omega)) dX3_drop_30 ?_
  refine hv_callv (w1 := fun u : (Nat → Int32) × Int32 => [(w, .inr (2, [.ref w0, .int (nI 9), .ref w1, .ref w2, .ref w3, .int u.2])), (w1, .inl (cI, 9 + 1, .inl u.1)), (w3, .inl (cI, 9 + 1, .inl BW))]) (va_runV (C := RX2) (b := w) (As := [.int (nI (VA x))]) (rest := []) ⟨hx, hb, hml, hown, htg⟩ (k_X2_removeCell l D cI cZ cJ _ (VA x) 9 EW BW flw w w0 w1 w2 w3 (by decide) (by omega)) (cwV 1 htg (hg_V hm_479 hm_480 hm_481 hm_3 hm_482) rfl rfl rfl (by decide +kernel) ⟨Nat.le_of_ble_eq_true rfl, Nat.le_of_ble_eq_true rfl⟩) ⟨hp_M_blind, va_recv (q := (RX2, TX2, 6)) (q0 := 1) (ci := 2) hK hP rfl rfl, hp_M_pre (hP.sub (ws' := [(w, .inr (2, [.ref w0, .int (nI 9), .ref w1, .ref w2, .ref w3, .int flw])), (w1, .inl (cI, 9 + 1, .inl EW)), (w3, .inl (cI, 9 + 1, .inl BW))]) [1, 3, 4] rfl) (hD.sub (ws' := [(w, .inr (2, [.ref w0, .int (nI 9), .ref w1, .ref w2, .ref w3, .int flw])), (w1, .inl (cI, 9 + 1, .inl EW)), (w3, .inl (cI, 9 + 1, .inl BW))]) [1, 3, 4] (by decide) rfl) hz⟩ rfl rfl hl.1 rfl (lv_room (Nat.le_of_ble_eq_true rfl)) dX3_drop_31 ⟨Nat.zero_le _, Nat.zero_le _⟩) hP hD hS hA [1, 3, 4] rfl (fun _ => rfl) (fun u1 H locs h1 hP hD hS => ?_)
  replace hP : va_P D vwCl [(x0, .inr (3, [.ref h, .ref hh, .ref w, .ref k0])), (w, .inr (2, [.ref w0, .int (nI 9), .ref w1, .ref w2, .ref w3, .int u1.2])), (w0, .inl (cI, 6, .inl VW)), (w1, .inl (cI, 9 + 1, .inl u1.1)), (w3, .inl (cI, 9 + 1, .inl BW))] H := hP
  replace hD : va_D A [(x0, .inr (3, [.ref h, .ref hh, .ref w, .ref k0])), (w, .inr (2, [.ref w0, .int (nI 9), .ref w1, .ref w2, .ref w3, .int u1.2])), (w0, .inl (cI, 6, .inl VW)), (w1, .inl (cI, 9 + 1, .inl u1.1)), (w3, .inl (cI, 9 + 1, .inl BW))] := hD
  exact W.vret hx hb hr (fun t9 ht9 hW9 => ⟨⟨u1, rfl, h1, by show va_P D vwCl [(x0, .inr (3, [.ref h, .ref hh, .ref w, .ref k0])), (w, .inr (2, [.ref w0, .int (nI 9), .ref w1, .ref w2, .ref w3, .int u1.2])), (w0, .inl (cI, 6, .inl VW)), (w1, .inl (cI, 9 + 1, .inl u1.1)), (w3, .inl (cI, 9 + 1, .inl BW))] t9.heap; rw [ht9]; exact hP⟩, hS.F ht9⟩) hS.2.2 dX3_drop_34

set_option maxHeartbeats 4000000 in
set_option maxRecDepth 100000 in
/-- a number is wrong -/
theorem kx_X3_drop (l : Launch) (hst : l.stackTraces = false) (D : va_G) (cI cZ cJ : ClassId) (sa : Nat → Nat) (x : Nat) (x0 h hh w k0 : Nat) (hx9 : x < 2 ^ 32) (hbad : ¬ x < 5) : hx_Met l yX3_drop (Cond.code yX3_drop cX3_drop 2 none :: hwG) { frames := 7, cells := 1, slots := 6, locals := 103 } (hp_X [.ref x0, .int (nI x)] D cI cZ cJ [(x0, .inr (3, [.ref h, .ref hh, .ref w, .ref k0]))] sa) hxI := by
  refine hx_ofW (cc := cX3_drop) (maxL := 2) (ret := none) (by decide) rfl ?_
  intro p e s m args below meth c s₁ B hml hout hv
  obtain ⟨rfl, hP, hz, hE⟩ := hv
  have hx := B.exec
  have hb := B.bytes
  have hts := atoms_spec (ws := (Cond.code yX3_drop cX3_drop 2 none :: hwG)) B.pre
  have htg := fun w h => hts w (List.mem_cons_of_mem _ h)
  have hown : s.vm.findClass RX3 = some m.cls := findClass_of_methodNamed B.named
  have hlocks := B.notSynchronized
  have hK := hz.1
  have hl := lv_entry ([.ref x0, .int (nI x)]) (n := 2) (Nat.le_of_ble_eq_true rfl)
  rw [lg_entry_eq]
  generalize (lg_sl ([.ref x0, .int (nI x)]) ++ List.replicate (2 - (lg_sl ([.ref x0, .int (nI x)])).length) Slot.unset).toArray = ls at hl ⊢
  replace hl : lv_has ls 2 [(0, .ref x0), (1, .int (nI x))] := hl
  refine lv_aload_n hx hb dX3_drop_0 rfl (lv_at hl 0 rfl) ?_
  refine lv_iload_n hx hb dX3_drop_1 rfl (lv_at hl 1 rfl) ?_
  by_cases hk0 : x < 5
  · refine hw_csv (va_runV (C := RX3) (b := x0) (As := [.int (nI x)]) (rest := []) ⟨hx, hb, hml, hown, htg⟩ (k_X3_checkVariable l D cI cZ cJ x x0 h hh w k0 (by omega)) (cwV 1 htg (hg_V hm_388 hm_390 hs_yX3_checkVariable hm_1 hm_391) rfl rfl rfl (by decide +kernel) ⟨Nat.le_of_ble_eq_true rfl, Nat.le_of_ble_eq_true rfl⟩) ⟨hp_R_blind, va_recv (q := (RX3, TX3, 4)) (q0 := 0) (ci := 3) hK hP rfl rfl, hp_R_pre (hP.sub (ws' := [(x0, .inr (3, [.ref h, .ref hh, .ref w, .ref k0]))]) [0] rfl) hz⟩ rfl rfl hl.1 rfl (lv_room (Nat.le_of_ble_eq_true rfl)) dX3_drop_2 ⟨Nat.zero_le _, Nat.zero_le _⟩) (fun _h => ?_)
    exact absurd hk0 hbad
  · exact hx_out (hx_runV (C := RX3) (b := x0) (As := [.int (nI x)]) (rest := []) ⟨hx, hb, hml, hown, htg⟩ (kx_X3_checkVariable l hst D cI cZ cJ sa x x0 h hh w k0 (by omega) hk0) (cwV 1 htg (hg_V hm_388 hm_390 hs_yX3_checkVariable hm_1 hm_391) rfl rfl rfl (by decide +kernel) ⟨Nat.le_of_ble_eq_true rfl, Nat.le_of_ble_eq_true rfl⟩) ⟨hp_X_blind, va_recv (q := (RX3, TX3, 4)) (q0 := 0) (ci := 3) hK hP rfl rfl, hp_X_pre (hP.sub (ws' := [(x0, .inr (3, [.ref h, .ref hh, .ref w, .ref k0]))]) [0] rfl) hz hE⟩ rfl rfl hl.1 rfl (lv_room (Nat.le_of_ble_eq_true rfl)) dX3_drop_2 ⟨Nat.le_of_ble_eq_true rfl, Nat.le_of_ble_eq_true rfl⟩) hout hlocks

set_option maxHeartbeats 4000000 in
set_option maxRecDepth 100000 in
/-- no cell -/
theorem kf_X3_drop (l : Launch) (hst : l.stackTraces = false) (D : va_G) (cI cZ cJ : ClassId) (sa : Nat → Nat) (x : Nat) (VW EW LW BW : Nat → Int32) (flw : Int32) (VA : Nat → Nat) (HA : Nat → Option Nat) (x0 h hh w k0 : Nat) (w0 w1 w2 w3 : Nat) (hV : ∀ j, j < 6 → VW j = nI (VA j)) (hV9 : ∀ j, j < 6 → VA j ≤ 9) (hW : hs_hp 9 EW LW BW HA (fun _ => false) (fun a => a)) (hx5 : x < 5) (hn : HA (VA x) = none) : hx_Met l yX3_drop (Cond.code yX3_drop cX3_drop 2 none :: hwG) { frames := 7, cells := 1, slots := 6, locals := 103 } (hp_X [.ref x0, .int (nI x)] D cI cZ cJ [(x0, .inr (3, [.ref h, .ref hh, .ref w, .ref k0])), (w, .inr (2, [.ref w0, .int (nI 9), .ref w1, .ref w2, .ref w3, .int flw])), (w0, .inl (cI, 6, .inl VW)), (w1, .inl (cI, 9 + 1, .inl EW))] sa) hxG := by
  refine hx_ofW (cc := cX3_drop) (maxL := 2) (ret := none) (by decide) rfl ?_
  intro p e s m args below meth c s₁ B hml hout hv
  obtain ⟨rfl, hP, hz, hE⟩ := hv
  have hx := B.exec
  have hb := B.bytes
  have hts := atoms_spec (ws := (Cond.code yX3_drop cX3_drop 2 none :: hwG)) B.pre
  have htg := fun w h => hts w (List.mem_cons_of_mem _ h)
  have hown : s.vm.findClass RX3 = some m.cls := findClass_of_methodNamed B.named
  have hlocks := B.notSynchronized
  have hK := hz.1
  have hl := lv_entry ([.ref x0, .int (nI x)]) (n := 2) (Nat.le_of_ble_eq_true rfl)
  rw [lg_entry_eq]
  generalize (lg_sl ([.ref x0, .int (nI x)]) ++ List.replicate (2 - (lg_sl ([.ref x0, .int (nI x)])).length) Slot.unset).toArray = ls at hl ⊢
  replace hl : lv_has ls 2 [(0, .ref x0), (1, .int (nI x))] := hl
  have hvx := hV9 x (by omega)
  refine lv_aload_n hx hb dX3_drop_0 rfl (lv_at hl 0 rfl) ?_
  refine lv_iload_n hx hb dX3_drop_1 rfl (lv_at hl 1 rfl) ?_
  refine hw_csv (va_runV (C := RX3) (b := x0) (As := [.int (nI x)]) (rest := []) ⟨hx, hb, hml, hown, htg⟩ (k_X3_checkVariable l D cI cZ cJ x x0 h hh w k0 (by omega)) (cwV 1 htg (hg_V hm_388 hm_390 hs_yX3_checkVariable hm_1 hm_391) rfl rfl rfl (by decide +kernel) ⟨Nat.le_of_ble_eq_true rfl, Nat.le_of_ble_eq_true rfl⟩) ⟨hp_R_blind, va_recv (q := (RX3, TX3, 4)) (q0 := 0) (ci := 3) hK hP rfl rfl, hp_R_pre (hP.sub (ws' := [(x0, .inr (3, [.ref h, .ref hh, .ref w, .ref k0]))]) [0] rfl) hz⟩ rfl rfl hl.1 rfl (lv_room (Nat.le_of_ble_eq_true rfl)) dX3_drop_2 ⟨Nat.zero_le _, Nat.zero_le _⟩) (fun _h => ?_)
  refine lv_aload_n hx hb dX3_drop_5 rfl (lv_at hl 0 rfl) ?_
  refine lv_aload_n hx hb dX3_drop_6 rfl (lv_at hl 0 rfl) ?_
  refine va_get (D := D) (ci := 3) (v := .ref w) (C := RX3) (T := TX3) (N := 4) hx hb htg hi_X3 hown hK hP 0 rfl rfl 2 (by decide) (htg _ hm_114) (fun _ h9 => h9) rfl dX3_drop_7 ?_
  refine va_getN (D := D) (ci := 2) (v := .ref w0) (C := RX2) (T := TX2) (N := 6) hx hb htg hi_X2 hown hK hP 1 rfl rfl 0 (by decide) (hz_useF hz hn_75) (fun _ h9 => h9) rfl dX3_drop_10 ?_
  refine lv_iload_n hx hb dX3_drop_13 rfl (lv_at hl 1 rfl) ?_
  refine hw_iald hx hb hK hP 2 0 rfl rfl (j := x) (by omega) (by first | decide | omega) (v := nI (VA x)) (hV x (by omega)) dX3_drop_14 ?_
  exact hx_out (hx_runV (C := RX3) (b := x0) (As := [.int (nI (VA x))]) (rest := []) ⟨hx, hb, hml, hown, htg⟩ (kx_X3_checkCell l hst D cI cZ cJ sa (VA x) EW LW BW flw HA x0 h hh w k0 w0 w1 w2 w3 hW (by omega) hn) (cwV 1 htg (hg_V hm_432 hm_434 hs_yX3_checkCell hm_1 hm_435) rfl rfl rfl (by decide +kernel) ⟨Nat.le_of_ble_eq_true rfl, Nat.le_of_ble_eq_true rfl⟩) ⟨hp_X_blind, va_recv (q := (RX3, TX3, 4)) (q0 := 0) (ci := 3) hK hP rfl rfl, hp_X_pre (hP.sub (ws' := [(x0, .inr (3, [.ref h, .ref hh, .ref w, .ref k0])), (w, .inr (2, [.ref w0, .int (nI 9), .ref w1, .ref w2, .ref w3, .int flw])), (w1, .inl (cI, 9 + 1, .inl EW))]) [0, 1, 3] rfl) hz hE⟩ rfl rfl hl.1 rfl (lv_room (Nat.le_of_ble_eq_true rfl)) dX3_drop_15 ⟨Nat.le_of_ble_eq_true rfl, Nat.le_of_ble_eq_true rfl⟩) hout hlocks

set_option maxHeartbeats 4000000 in
set_option maxRecDepth 100000 in
/-- value -/
theorem k_X3_value (l : Launch) (D : va_G) (cI cZ cJ : ClassId) (x : Nat) (VW EW LW BW : Nat → Int32) (flw : Int32) (VA : Nat → Nat) (HA : Nat → Option Nat) (x0 h hh w k0 : Nat) (w0 w1 w2 w3 : Nat) (hV : ∀ j, j < 6 → VW j = nI (VA j)) (hx6 : x < 6) : Met l yX3_value (Cond.code yX3_value cX3_value 2 (some .int) :: hwG) { frames := 1, cells := 0, slots := 0, locals := 21 } (hp_R [.ref x0, .int (nI x)] D cI cZ cJ [(x0, .inr (3, [.ref h, .ref hh, .ref w, .ref k0])), (w, .inr (2, [.ref w0, .int (nI 9), .ref w1, .ref w2, .ref w3, .int flw])), (w0, .inl (cI, 6, .inl VW))]) (vp_Si (fun r => r = nI (VA x))) 0 0 (fun _ => False) := by
  refine Met.ofW (cc := cX3_value) (maxL := 2) (ret := (some .int)) (by decide) rfl ?_
  intro p e s m args below meth c s₁ B hml hv
  obtain ⟨rfl, hP, hz⟩ := hv
  have hx := B.exec
  have hb := B.bytes
  have hr := B.returns
  have hts := atoms_spec (ws := (Cond.code yX3_value cX3_value 2 (some .int) :: hwG)) B.pre
  have htg := fun w h => hts w (List.mem_cons_of_mem _ h)
  have hown : s.vm.findClass RX3 = some m.cls := findClass_of_methodNamed B.named
  have hlocks := B.notSynchronized
  have hK := hz.1
  have hl := lv_entry ([.ref x0, .int (nI x)]) (n := 2) (Nat.le_of_ble_eq_true rfl)
  rw [lg_entry_eq]
  generalize (lg_sl ([.ref x0, .int (nI x)]) ++ List.replicate (2 - (lg_sl ([.ref x0, .int (nI x)])).length) Slot.unset).toArray = ls at hl ⊢
  replace hl : lv_has ls 2 [(0, .ref x0), (1, .int (nI x))] := hl
  refine lv_aload_n hx hb dX3_value_0 rfl (lv_at hl 0 rfl) ?_
  refine lv_iload_n hx hb dX3_value_1 rfl (lv_at hl 1 rfl) ?_
  refine hw_csv (va_runV (C := RX3) (b := x0) (As := [.int (nI x)]) (rest := []) ⟨hx, hb, hml, hown, htg⟩ (k_X3_checkTerm l D cI cZ cJ x x0 h hh w k0 (by omega)) (cwV 1 htg (hg_V hm_290 hm_292 hs_yX3_checkTerm hm_1 hm_293) rfl rfl rfl (by decide +kernel) ⟨Nat.le_of_ble_eq_true rfl, Nat.le_of_ble_eq_true rfl⟩) ⟨hp_R_blind, va_recv (q := (RX3, TX3, 4)) (q0 := 0) (ci := 3) hK hP rfl rfl, hp_R_pre (hP.sub (ws' := [(x0, .inr (3, [.ref h, .ref hh, .ref w, .ref k0]))]) [0] rfl) hz⟩ rfl rfl hl.1 rfl (lv_room (Nat.le_of_ble_eq_true rfl)) dX3_value_2 ⟨Nat.zero_le _, Nat.zero_le _⟩) (fun _h => ?_)
  refine lv_aload_n hx hb dX3_value_5 rfl (lv_at hl 0 rfl) ?_
  refine va_get (D := D) (ci := 3) (v := .ref w) (C := RX3) (T := TX3) (N := 4) hx hb htg hi_X3 hown hK hP 0 rfl rfl 2 (by decide) (htg _ hm_114) (fun _ h9 => h9) rfl dX3_value_6 ?_
  refine va_getN (D := D) (ci := 2) (v := .ref w0) (C := RX2) (T := TX2) (N := 6) hx hb htg hi_X2 hown hK hP 1 rfl rfl 0 (by decide) (hz_useF hz hn_75) (fun _ h9 => h9) rfl dX3_value_9 ?_
  refine lv_iload_n hx hb dX3_value_12 rfl (lv_at hl 1 rfl) ?_
  refine hw_iald hx hb hK hP 2 0 rfl rfl (j := x) (by omega) (by first | decide | omega) (v := nI (VA x)) (hV x (by omega)) dX3_value_13 ?_
  exact W.iret (v := nI (VA x)) hx hb hr (fun t9 ht9 hW9 => ⟨_, rfl, rfl, ht9⟩) (fun _ h => nomatch h) dX3_value_14

set_option maxHeartbeats 4000000 in
set_option maxRecDepth 100000 in
/-- a number is wrong -/
theorem kx_X3_value (l : Launch) (hst : l.stackTraces = false) (D : va_G) (cI cZ cJ : ClassId) (sa : Nat → Nat) (x : Nat) (x0 h hh w k0 : Nat) (hx9 : x < 2 ^ 32) (hbad : ¬ x < 6) : hx_Met l yX3_value (Cond.code yX3_value cX3_value 2 (some .int) :: hwG) { frames := 7, cells := 1, slots := 6, locals := 103 } (hp_X [.ref x0, .int (nI x)] D cI cZ cJ [(x0, .inr (3, [.ref h, .ref hh, .ref w, .ref k0]))] sa) hxI := by
  refine hx_ofW (cc := cX3_value) (maxL := 2) (ret := (some .int)) (by decide) rfl ?_
  intro p e s m args below meth c s₁ B hml hout hv
  obtain ⟨rfl, hP, hz, hE⟩ := hv
  have hx := B.exec
  have hb := B.bytes
  have hts := atoms_spec (ws := (Cond.code yX3_value cX3_value 2 (some .int) :: hwG)) B.pre
  have htg := fun w h => hts w (List.mem_cons_of_mem _ h)
  have hown : s.vm.findClass RX3 = some m.cls := findClass_of_methodNamed B.named
  have hlocks := B.notSynchronized
  have hK := hz.1
  have hl := lv_entry ([.ref x0, .int (nI x)]) (n := 2) (Nat.le_of_ble_eq_true rfl)
  rw [lg_entry_eq]
  generalize (lg_sl ([.ref x0, .int (nI x)]) ++ List.replicate (2 - (lg_sl ([.ref x0, .int (nI x)])).length) Slot.unset).toArray = ls at hl ⊢
  replace hl : lv_has ls 2 [(0, .ref x0), (1, .int (nI x))] := hl
  refine lv_aload_n hx hb dX3_value_0 rfl (lv_at hl 0 rfl) ?_
  refine lv_iload_n hx hb dX3_value_1 rfl (lv_at hl 1 rfl) ?_
  by_cases hk0 : x < 6
  · refine hw_csv (va_runV (C := RX3) (b := x0) (As := [.int (nI x)]) (rest := []) ⟨hx, hb, hml, hown, htg⟩ (k_X3_checkTerm l D cI cZ cJ x x0 h hh w k0 (by omega)) (cwV 1 htg (hg_V hm_290 hm_292 hs_yX3_checkTerm hm_1 hm_293) rfl rfl rfl (by decide +kernel) ⟨Nat.le_of_ble_eq_true rfl, Nat.le_of_ble_eq_true rfl⟩) ⟨hp_R_blind, va_recv (q := (RX3, TX3, 4)) (q0 := 0) (ci := 3) hK hP rfl rfl, hp_R_pre (hP.sub (ws' := [(x0, .inr (3, [.ref h, .ref hh, .ref w, .ref k0]))]) [0] rfl) hz⟩ rfl rfl hl.1 rfl (lv_room (Nat.le_of_ble_eq_true rfl)) dX3_value_2 ⟨Nat.zero_le _, Nat.zero_le _⟩) (fun _h => ?_)
    exact absurd hk0 hbad
  · exact hx_out (hx_runV (C := RX3) (b := x0) (As := [.int (nI x)]) (rest := []) ⟨hx, hb, hml, hown, htg⟩ (kx_X3_checkTerm l hst D cI cZ cJ sa x x0 h hh w k0 (by omega) hk0) (cwV 1 htg (hg_V hm_290 hm_292 hs_yX3_checkTerm hm_1 hm_293) rfl rfl rfl (by decide +kernel) ⟨Nat.le_of_ble_eq_true rfl, Nat.le_of_ble_eq_true rfl⟩) ⟨hp_X_blind, va_recv (q := (RX3, TX3, 4)) (q0 := 0) (ci := 3) hK hP rfl rfl, hp_X_pre (hP.sub (ws' := [(x0, .inr (3, [.ref h, .ref hh, .ref w, .ref k0]))]) [0] rfl) hz hE⟩ rfl rfl hl.1 rfl (lv_room (Nat.le_of_ble_eq_true rfl)) dX3_value_2 ⟨Nat.le_of_ble_eq_true rfl, Nat.le_of_ble_eq_true rfl⟩) hout hlocks

set_option maxHeartbeats 4000000 in
set_option maxRecDepth 100000 in
/-- next -/
theorem k_X3_next (l : Launch) (D : va_G) (cI cZ cJ : ClassId) (x : Nat) (VW EW LW BW : Nat → Int32) (flw : Int32) (VA : Nat → Nat) (HA : Nat → Option Nat) (x0 h hh w k0 : Nat) (w0 w1 w2 w3 : Nat) (hW : hs_hp 9 EW LW BW HA (fun _ => false) (fun a => a)) (hx9 : x < 2 ^ 32) : Met l yX3_next (Cond.code yX3_next cX3_next 2 (some .int) :: hwG) { frames := 1, cells := 0, slots := 0, locals := 21 } (hp_R [.ref x0, .int (nI x)] D cI cZ cJ [(x0, .inr (3, [.ref h, .ref hh, .ref w, .ref k0])), (w, .inr (2, [.ref w0, .int (nI 9), .ref w1, .ref w2, .ref w3, .int flw])), (w1, .inl (cI, 9 + 1, .inl EW))]) (vp_Si (fun r => (HA x = none ∧ r = -1) ∨ ∃ z, HA x = some z ∧ r = nI z)) 0 0 (fun _ => False) := by
  refine Met.ofW (cc := cX3_next) (maxL := 2) (ret := (some .int)) (by decide) rfl ?_
  intro p e s m args below meth c s₁ B hml hv
  obtain ⟨rfl, hP, hz⟩ := hv
  have hx := B.exec
  have hb := B.bytes
  have hr := B.returns
  have hts := atoms_spec (ws := (Cond.code yX3_next cX3_next 2 (some .int) :: hwG)) B.pre
  have htg := fun w h => hts w (List.mem_cons_of_mem _ h)
  have hown : s.vm.findClass RX3 = some m.cls := findClass_of_methodNamed B.named
  have hlocks := B.notSynchronized
  have hK := hz.1
  have hl := lv_entry ([.ref x0, .int (nI x)]) (n := 2) (Nat.le_of_ble_eq_true rfl)
  rw [lg_entry_eq]
  generalize (lg_sl ([.ref x0, .int (nI x)]) ++ List.replicate (2 - (lg_sl ([.ref x0, .int (nI x)])).length) Slot.unset).toArray = ls at hl ⊢
  replace hl : lv_has ls 2 [(0, .ref x0), (1, .int (nI x))] := hl
  refine lv_aload_n hx hb dX3_next_0 rfl (lv_at hl 0 rfl) ?_
  refine va_get (D := D) (ci := 3) (v := .ref w) (C := RX3) (T := TX3) (N := 4) hx hb htg hi_X3 hown hK hP 0 rfl rfl 2 (by decide) (htg _ hm_114) (fun _ h9 => h9) rfl dX3_next_1 ?_
  refine lv_iload_n hx hb dX3_next_4 rfl (lv_at hl 1 rfl) ?_
  rcases Nat.lt_or_ge x (2 ^ 31) with hx31 | hx31
  · refine hw_csi (va_runV (C := RX2) (b := w) (As := [.int (nI x)]) (rest := []) ⟨hx, hb, hml, hown, htg⟩ (k_X2_hasCell l D cI cZ cJ x 9 EW LW BW HA (fun _ => false) (fun a => a) flw w w0 w1 w2 w3 hx31 (by decide) hW) (cwV 1 htg (hg_V hm_198 hm_158 hm_159 hm_3 hm_160) rfl rfl rfl (by decide +kernel) ⟨Nat.le_of_ble_eq_true rfl, Nat.le_of_ble_eq_true rfl⟩) ⟨hp_R_blind, va_recv (q := (RX2, TX2, 6)) (q0 := 1) (ci := 2) hK hP rfl rfl, hp_R_pre (hP.sub (ws' := [(w, .inr (2, [.ref w0, .int (nI 9), .ref w1, .ref w2, .ref w3, .int flw])), (w1, .inl (cI, 9 + 1, .inl EW))]) [1, 2] rfl) hz⟩ rfl rfl hl.1 rfl (lv_room (Nat.le_of_ble_eq_true rfl)) dX3_next_5 ⟨Nat.zero_le _, Nat.zero_le _⟩) (fun r hq => ?_)
    rcases hq with ⟨rfl, hq⟩ | ⟨rfl, hq⟩
    · obtain ⟨z9, hz9⟩ : ∃ z, HA x = some z := by cases h9 : HA x with | none => exact absurd h9 hq | some z => exact ⟨z, rfl⟩
      have hxr := hW.1 x hq
      have hww := (hW.2 x hxr.1 hxr.2).2 z9 hz9
      refine lv_if_eq hx hb dX3_next_8 rfl (fun hc => absurd hc (by decide)) (fun hc => ?_)
      refine lv_aload_n hx hb dX3_next_11 rfl (lv_at hl 0 rfl) ?_
      refine va_get (D := D) (ci := 3) (v := .ref w) (C := RX3) (T := TX3) (N := 4) hx hb htg hi_X3 hown hK hP 0 rfl rfl 2 (by decide) (htg _ hm_114) (fun _ h9 => h9) rfl dX3_next_12 ?_
      refine va_getN (D := D) (ci := 2) (v := .ref w1) (C := RX2) (T := TX2) (N := 6) hx hb htg hi_X2 hown hK hP 1 rfl rfl 2 (by decide) (hz_useF hz hn_78) (fun _ h9 => h9) rfl dX3_next_15 ?_
      refine lv_iload_n hx hb dX3_next_18 rfl (lv_at hl 1 rfl) ?_
      refine hw_iald hx hb hK hP 2 0 rfl rfl (j := x) (by omega) (by first | decide | omega) (v := nI z9) (hww.2.1) dX3_next_19 ?_
      refine lv_goto hx hb dX3_next_20 rfl ?_
      exact W.iret (v := nI z9) hx hb hr (fun t9 ht9 hW9 => ⟨_, rfl, Or.inr ⟨z9, hz9, rfl⟩, ht9⟩) (fun _ h => nomatch h) dX3_next_24
    · refine lv_if_eq hx hb dX3_next_8 rfl (fun hc => ?_) (fun hc => absurd rfl hc)
      refine lv_iconst (v := (-1)) hx hb dX3_next_23 (by decide) ?_
      exact W.iret (v := -1) hx hb hr (fun t9 ht9 hW9 => ⟨_, rfl, Or.inl ⟨Classical.not_not.mp hq, rfl⟩, ht9⟩) (fun _ h => nomatch h) dX3_next_24
  · refine hw_csi (va_runV (C := RX2) (b := w) (As := [.int (nI x)]) (rest := []) ⟨hx, hb, hml, hown, htg⟩ (k_X2_hasCell_neg l D cI cZ cJ (nI x) 9 EW LW BW HA (fun _ => false) (fun a => a) flw w w0 w1 w2 w3 ((hm_neg hx9).mpr hx31)) (cwV 1 htg (hg_V hm_198 hm_158 hm_159 hm_3 hm_160) rfl rfl rfl (by decide +kernel) ⟨Nat.le_of_ble_eq_true rfl, Nat.le_of_ble_eq_true rfl⟩) ⟨hp_R_blind, va_recv (q := (RX2, TX2, 6)) (q0 := 1) (ci := 2) hK hP rfl rfl, hp_R_pre (hP.sub (ws' := [(w, .inr (2, [.ref w0, .int (nI 9), .ref w1, .ref w2, .ref w3, .int flw])), (w1, .inl (cI, 9 + 1, .inl EW))]) [1, 2] rfl) hz⟩ rfl rfl hl.1 rfl (lv_room (Nat.le_of_ble_eq_true rfl)) dX3_next_5 ⟨Nat.zero_le _, Nat.zero_le _⟩) (fun r9 hq => ?_)
    subst hq
    refine lv_if_eq hx hb dX3_next_8 rfl (fun hc => ?_) (fun hc => absurd rfl hc)
    refine lv_iconst (v := (-1)) hx hb dX3_next_23 (by decide) ?_
    exact W.iret (v := -1) hx hb hr (fun t9 ht9 hW9 => ⟨_, rfl, Or.inl ⟨by cases h9 : HA x with | none => rfl | some z => (have := hW.1 x (by rw [h9]; exact fun q => (by cases q)); omega), rfl⟩, ht9⟩) (fun _ h => nomatch h) dX3_next_24

set_option maxHeartbeats 4000000 in
set_option maxRecDepth 100000 in
/-- bitCount -/
theorem k_J6_bitCount (l : Launch) (D : va_G) (cI cZ cJ : ClassId) (x : Int32) : Met l yJ6_bitCount (Cond.code yJ6_bitCount cJ6_bitCount 1 (some .int) :: hwG) { frames := 0, cells := 0, slots := 0, locals := 0 } (hp_R [.int x] D cI cZ cJ []) (vp_Si (fun r => r = hb_pc x)) 0 0 (fun _ => False) := by
  refine Met.ofW (cc := cJ6_bitCount) (maxL := 1) (ret := (some .int)) (by decide) rfl ?_
  intro p e s m args below meth c s₁ B hml hv
  obtain ⟨rfl, hP, hz⟩ := hv
  have hx := B.exec
  have hb := B.bytes
  have hr := B.returns
  have hts := atoms_spec (ws := (Cond.code yJ6_bitCount cJ6_bitCount 1 (some .int) :: hwG)) B.pre
  have htg := fun w h => hts w (List.mem_cons_of_mem _ h)
  have hown : s.vm.findClass RJ6 = some m.cls := findClass_of_methodNamed B.named
  have hlocks := B.notSynchronized
  have hK := hz.1
  have hl := lv_entry ([.int x]) (n := 1) (Nat.le_of_ble_eq_true rfl)
  rw [lg_entry_eq]
  generalize (lg_sl ([.int x]) ++ List.replicate (1 - (lg_sl ([.int x])).length) Slot.unset).toArray = ls at hl ⊢
  replace hl : lv_has ls 1 [(0, .int x)] := hl
  refine lv_iload_n hx hb dJ6_bitCount_0 rfl (lv_at hl 0 rfl) ?_
  refine lv_iload_n hx hb dJ6_bitCount_1 rfl (lv_at hl 0 rfl) ?_
  refine lv_iconst (v := nI 1) hx hb dJ6_bitCount_2 (by decide) ?_
  refine lv_iushr (v := hb_u x 1) hx hb dJ6_bitCount_3 rfl ?_
  refine lv_ldcw hx hb hown (htg _ hm_206) dJ6_bitCount_4 ?_
  refine lv_iand hx hb dJ6_bitCount_7 ?_
  refine lv_isub hx hb dJ6_bitCount_8 ?_
  refine lv_istore_n hx hb dJ6_bitCount_9 rfl hl (by decide) rfl (fun ls hl => ?_)
  replace hl : lv_has ls 1 [(0, .int (x - ((hb_u x 1) &&& 1431655765)))] := hl
  refine lv_iload_n hx hb dJ6_bitCount_10 rfl (lv_at hl 0 rfl) ?_
  refine lv_ldcw hx hb hown (htg _ hm_207) dJ6_bitCount_11 ?_
  refine lv_iand hx hb dJ6_bitCount_14 ?_
  refine lv_iload_n hx hb dJ6_bitCount_15 rfl (lv_at hl 0 rfl) ?_
  refine lv_iconst (v := nI 2) hx hb dJ6_bitCount_16 (by decide) ?_
  refine lv_iushr (v := hb_u (x - ((hb_u x 1) &&& 1431655765)) 2) hx hb dJ6_bitCount_17 rfl ?_
  refine lv_ldcw hx hb hown (htg _ hm_207) dJ6_bitCount_18 ?_
  refine lv_iand hx hb dJ6_bitCount_21 ?_
  refine lv_iadd hx hb dJ6_bitCount_22 ?_
  refine lv_istore_n hx hb dJ6_bitCount_23 rfl hl (by decide) rfl (fun ls hl => ?_)
  replace hl : lv_has ls 1 [(0, .int (((x - ((hb_u x 1) &&& 1431655765)) &&& 858993459) + ((hb_u (x - ((hb_u x 1) &&& 1431655765)) 2) &&& 858993459)))] := hl
  refine lv_iload_n hx hb dJ6_bitCount_24 rfl (lv_at hl 0 rfl) ?_
  refine lv_iload_n hx hb dJ6_bitCount_25 rfl (lv_at hl 0 rfl) ?_
  refine lv_iconst (v := nI 4) hx hb dJ6_bitCount_26 (by decide) ?_
  refine lv_iushr (v := hb_u (((x - ((hb_u x 1) &&& 1431655765)) &&& 858993459) + ((hb_u (x - ((hb_u x 1) &&& 1431655765)) 2) &&& 858993459)) 4) hx hb dJ6_bitCount_27 rfl ?_
  refine lv_iadd hx hb dJ6_bitCount_28 ?_
  refine lv_ldcw hx hb hown (htg _ hm_208) dJ6_bitCount_29 ?_
  refine lv_iand hx hb dJ6_bitCount_32 ?_
  refine lv_istore_n hx hb dJ6_bitCount_33 rfl hl (by decide) rfl (fun ls hl => ?_)
  replace hl : lv_has ls 1 [(0, .int (((((x - ((hb_u x 1) &&& 1431655765)) &&& 858993459) + ((hb_u (x - ((hb_u x 1) &&& 1431655765)) 2) &&& 858993459)) + (hb_u (((x - ((hb_u x 1) &&& 1431655765)) &&& 858993459) + ((hb_u (x - ((hb_u x 1) &&& 1431655765)) 2) &&& 858993459)) 4)) &&& 252645135))] := hl
  refine lv_iload_n hx hb dJ6_bitCount_34 rfl (lv_at hl 0 rfl) ?_
  refine lv_iload_n hx hb dJ6_bitCount_35 rfl (lv_at hl 0 rfl) ?_
  refine lv_bipush (v := nI 8) hx hb dJ6_bitCount_36 (by decide) ?_
  refine lv_iushr (v := hb_u (((((x - ((hb_u x 1) &&& 1431655765)) &&& 858993459) + ((hb_u (x - ((hb_u x 1) &&& 1431655765)) 2) &&& 858993459)) + (hb_u (((x - ((hb_u x 1) &&& 1431655765)) &&& 858993459) + ((hb_u (x - ((hb_u x 1) &&& 1431655765)) 2) &&& 858993459)) 4)) &&& 252645135) 8) hx hb dJ6_bitCount_38 rfl ?_
  refine lv_iadd hx hb dJ6_bitCount_39 ?_
  refine lv_istore_n hx hb dJ6_bitCount_40 rfl hl (by decide) rfl (fun ls hl => ?_)
  replace hl : lv_has ls 1 [(0, .int ((((((x - ((hb_u x 1) &&& 1431655765)) &&& 858993459) + ((hb_u (x - ((hb_u x 1) &&& 1431655765)) 2) &&& 858993459)) + (hb_u (((x - ((hb_u x 1) &&& 1431655765)) &&& 858993459) + ((hb_u (x - ((hb_u x 1) &&& 1431655765)) 2) &&& 858993459)) 4)) &&& 252645135) + (hb_u (((((x - ((hb_u x 1) &&& 1431655765)) &&& 858993459) + ((hb_u (x - ((hb_u x 1) &&& 1431655765)) 2) &&& 858993459)) + (hb_u (((x - ((hb_u x 1) &&& 1431655765)) &&& 858993459) + ((hb_u (x - ((hb_u x 1) &&& 1431655765)) 2) &&& 858993459)) 4)) &&& 252645135) 8)))] := hl
  refine lv_iload_n hx hb dJ6_bitCount_41 rfl (lv_at hl 0 rfl) ?_
  refine lv_iload_n hx hb dJ6_bitCount_42 rfl (lv_at hl 0 rfl) ?_
  refine lv_bipush (v := nI 16) hx hb dJ6_bitCount_43 (by decide) ?_
  refine lv_iushr (v := hb_u ((((((x - ((hb_u x 1) &&& 1431655765)) &&& 858993459) + ((hb_u (x - ((hb_u x 1) &&& 1431655765)) 2) &&& 858993459)) + (hb_u (((x - ((hb_u x 1) &&& 1431655765)) &&& 858993459) + ((hb_u (x - ((hb_u x 1) &&& 1431655765)) 2) &&& 858993459)) 4)) &&& 252645135) + (hb_u (((((x - ((hb_u x 1) &&& 1431655765)) &&& 858993459) + ((hb_u (x - ((hb_u x 1) &&& 1431655765)) 2) &&& 858993459)) + (hb_u (((x - ((hb_u x 1) &&& 1431655765)) &&& 858993459) + ((hb_u (x - ((hb_u x 1) &&& 1431655765)) 2) &&& 858993459)) 4)) &&& 252645135) 8)) 16) hx hb dJ6_bitCount_45 rfl ?_
  refine lv_iadd hx hb dJ6_bitCount_46 ?_
  refine lv_istore_n hx hb dJ6_bitCount_47 rfl hl (by decide) rfl (fun ls hl => ?_)
  replace hl : lv_has ls 1 [(0, .int (((((((x - ((hb_u x 1) &&& 1431655765)) &&& 858993459) + ((hb_u (x - ((hb_u x 1) &&& 1431655765)) 2) &&& 858993459)) + (hb_u (((x - ((hb_u x 1) &&& 1431655765)) &&& 858993459) + ((hb_u (x - ((hb_u x 1) &&& 1431655765)) 2) &&& 858993459)) 4)) &&& 252645135) + (hb_u (((((x - ((hb_u x 1) &&& 1431655765)) &&& 858993459) + ((hb_u (x - ((hb_u x 1) &&& 1431655765)) 2) &&& 858993459)) + (hb_u (((x - ((hb_u x 1) &&& 1431655765)) &&& 858993459) + ((hb_u (x - ((hb_u x 1) &&& 1431655765)) 2) &&& 858993459)) 4)) &&& 252645135) 8)) + (hb_u ((((((x - ((hb_u x 1) &&& 1431655765)) &&& 858993459) + ((hb_u (x - ((hb_u x 1) &&& 1431655765)) 2) &&& 858993459)) + (hb_u (((x - ((hb_u x 1) &&& 1431655765)) &&& 858993459) + ((hb_u (x - ((hb_u x 1) &&& 1431655765)) 2) &&& 858993459)) 4)) &&& 252645135) + (hb_u (((((x - ((hb_u x 1) &&& 1431655765)) &&& 858993459) + ((hb_u (x - ((hb_u x 1) &&& 1431655765)) 2) &&& 858993459)) + (hb_u (((x - ((hb_u x 1) &&& 1431655765)) &&& 858993459) + ((hb_u (x - ((hb_u x 1) &&& 1431655765)) 2) &&& 858993459)) 4)) &&& 252645135) 8)) 16)))] := hl
  refine lv_iload_n hx hb dJ6_bitCount_48 rfl (lv_at hl 0 rfl) ?_
  refine lv_bipush (v := nI 63) hx hb dJ6_bitCount_49 (by decide) ?_
  refine lv_iand hx hb dJ6_bitCount_51 ?_
  exact W.iret (v := (((((((x - ((hb_u x 1) &&& 1431655765)) &&& 858993459) + ((hb_u (x - ((hb_u x 1) &&& 1431655765)) 2) &&& 858993459)) + (hb_u (((x - ((hb_u x 1) &&& 1431655765)) &&& 858993459) + ((hb_u (x - ((hb_u x 1) &&& 1431655765)) 2) &&& 858993459)) 4)) &&& 252645135) + (hb_u (((((x - ((hb_u x 1) &&& 1431655765)) &&& 858993459) + ((hb_u (x - ((hb_u x 1) &&& 1431655765)) 2) &&& 858993459)) + (hb_u (((x - ((hb_u x 1) &&& 1431655765)) &&& 858993459) + ((hb_u (x - ((hb_u x 1) &&& 1431655765)) 2) &&& 858993459)) 4)) &&& 252645135) 8)) + (hb_u ((((((x - ((hb_u x 1) &&& 1431655765)) &&& 858993459) + ((hb_u (x - ((hb_u x 1) &&& 1431655765)) 2) &&& 858993459)) + (hb_u (((x - ((hb_u x 1) &&& 1431655765)) &&& 858993459) + ((hb_u (x - ((hb_u x 1) &&& 1431655765)) 2) &&& 858993459)) 4)) &&& 252645135) + (hb_u (((((x - ((hb_u x 1) &&& 1431655765)) &&& 858993459) + ((hb_u (x - ((hb_u x 1) &&& 1431655765)) 2) &&& 858993459)) + (hb_u (((x - ((hb_u x 1) &&& 1431655765)) &&& 858993459) + ((hb_u (x - ((hb_u x 1) &&& 1431655765)) 2) &&& 858993459)) 4)) &&& 252645135) 8)) 16)) &&& (nI 63)) hx hb hr (fun t9 ht9 hW9 => ⟨_, rfl, rfl, ht9⟩) (fun _ h => nomatch h) dJ6_bitCount_52

set_option maxHeartbeats 4000000 in
set_option maxRecDepth 100000 in
/-- count -/
theorem k_X3_count (l : Launch) (D : va_G) (cI cZ cJ : ClassId) (VW EW LW BW : Nat → Int32) (flw : Int32) (VA : Nat → Nat) (HA : Nat → Option Nat) (x0 h hh w k0 : Nat) (w0 w1 w2 w3 : Nat) : Met l yX3_count (Cond.code yX3_count cX3_count 1 (some .int) :: hwG) { frames := 1, cells := 0, slots := 0, locals := 20 } (hp_R [.ref x0] D cI cZ cJ [(x0, .inr (3, [.ref h, .ref hh, .ref w, .ref k0])), (w, .inr (2, [.ref w0, .int (nI 9), .ref w1, .ref w2, .ref w3, .int flw]))]) (vp_Si (fun r => r = hb_pc flw)) 0 0 (fun _ => False) := by
  refine Met.ofW (cc := cX3_count) (maxL := 1) (ret := (some .int)) (by decide) rfl ?_
  intro p e s m args below meth c s₁ B hml hv
  obtain ⟨rfl, hP, hz⟩ := hv
  have hx := B.exec
  have hb := B.bytes
  have hr := B.returns
  have hts := atoms_spec (ws := (Cond.code yX3_count cX3_count 1 (some .int) :: hwG)) B.pre
  have htg := fun w h => hts w (List.mem_cons_of_mem _ h)
  have hown : s.vm.findClass RX3 = some m.cls := findClass_of_methodNamed B.named
  have hlocks := B.notSynchronized
  have hK := hz.1
  have hl := lv_entry ([.ref x0]) (n := 1) (Nat.le_of_ble_eq_true rfl)
  rw [lg_entry_eq]
  generalize (lg_sl ([.ref x0]) ++ List.replicate (1 - (lg_sl ([.ref x0])).length) Slot.unset).toArray = ls at hl ⊢
  replace hl : lv_has ls 1 [(0, .ref x0)] := hl
  refine lv_aload_n hx hb dX3_count_0 rfl (lv_at hl 0 rfl) ?_
  refine va_get (D := D) (ci := 3) (v := .ref w) (C := RX3) (T := TX3) (N := 4) hx hb htg hi_X3 hown hK hP 0 rfl rfl 2 (by decide) (htg _ hm_114) (fun _ h9 => h9) rfl dX3_count_1 ?_
  refine va_getN (D := D) (ci := 2) (v := .int flw) (C := RX2) (T := TX2) (N := 6) hx hb htg hi_X2 hown hK hP 1 rfl rfl 5 (by decide) (hz_useF hz hn_82) (fun _ h9 => h9) rfl dX3_count_4 ?_
  refine hw_csi (va_runS (As := [.int flw]) (rest := []) ⟨hx, hb, hml, hown, htg⟩ (k_J6_bitCount l D cI cZ cJ flw) (va_cwS 1 htg (hg_S hm_203 hm_204 hm_15 hm_205) rfl rfl rfl (by decide +kernel) ⟨Nat.le_of_ble_eq_true rfl, Nat.le_of_ble_eq_true rfl⟩) ⟨hp_R_blind, hp_R_pre (hP.sub (ws' := []) [] rfl) hz⟩ rfl rfl hl.1 rfl (lv_room (Nat.le_of_ble_eq_true rfl)) dX3_count_7 ⟨Nat.zero_le _, Nat.zero_le _⟩) (fun r hq => ?_)
  subst hq
  exact W.iret (v := hb_pc flw) hx hb hr (fun t9 ht9 hW9 => ⟨_, rfl, rfl, ht9⟩) (fun _ h => nomatch h) dX3_count_10
