set_option maxHeartbeats 4000000 in
set_option maxRecDepth 100000 in
/-- it answers -/
theorem kh_piece0 (l : Launch) (D : va_G) (cI cZ cJ : ClassId) (sz : Nat) (a b : Nat) (o : Bool) (n : Nat) (Fr To Li : Nat → Int32) (nm : Int32) (h a1 a2 a3 a4 a5 : Nat) (x0 hh w k0 : Nat) (OU : Nat → Int64) (ou : Nat) (ha : a < 6) (hb6 : b < 6) (hn : n < 5) : Met l yL_piece (Cond.codeWith yL_piece cL_piece 7 (some .int) [(0, 14, 17, 13), (0, 14, 21, 19)] :: hwG) { frames := 2, cells := 0, slots := 0, locals := 48 } (hp_M [.ref x0, .int (nI 0), .int (nI a), .int (nI b), .int (hc_b o), .ref ou] D cI cZ cJ [(x0, .inr (3, [.ref h, .ref hh, .ref w, .ref k0])), (h, .inr (1, [.ref a1, .ref a2, .ref a3, .ref a4, .ref a5, .int (nI n), .int nm])), (a3, .inl (cI, 5, .inl Fr)), (a4, .inl (cI, 5, .inl To)), (a5, .inl (cZ, 5, .inl Li)), (ou, .inl (cJ, 1, .inr (.inl OU)))] sz) (va_Qi (S := ((Nat → Int32) × (Nat → Int32) × (Nat → Int32) × Int32 × Int32) × (Nat → Int64)) (fun r u => r = nI 0 ∧ ∃ r9, (fun r u => r = nI n ∧ u.1 = upd Fr n (nI a) ∧ u.2.1 = upd To n (nI b) ∧ u.2.2.1 = upd Li n (hc_b o) ∧ u.2.2.2.1 = nI (n + 1) ∧ u.2.2.2.2 = nm ||| ((nI 1 <<< (nI a &&& 31)) ||| (nI 1 <<< (nI b &&& 31)))) r9 u.1 ∧ u.2 0 = r9.toInt64) (fun u t => va_P D vwCl ((((x0, .inr (3, [.ref h, .ref hh, .ref w, .ref k0]))) :: [(h, .inr (1, [.ref a1, .ref a2, .ref a3, .ref a4, .ref a5, .int u.1.2.2.2.1, .int u.1.2.2.2.2])), (a3, .inl (cI, 5, .inl u.1.1)), (a4, .inl (cI, 5, .inl u.1.2.1)), (a5, .inl (cZ, 5, .inl u.1.2.2.1))]) ++ [(ou, .inl (cJ, 1, .inr (.inl u.2)))]) t.heap) (va_A [(x0, .inr (3, [.ref h, .ref hh, .ref w, .ref k0])), (h, .inr (1, [.ref a1, .ref a2, .ref a3, .ref a4, .ref a5, .int (nI n), .int nm])), (a3, .inl (cI, 5, .inl Fr)), (a4, .inl (cI, 5, .inl To)), (a5, .inl (cZ, 5, .inl Li)), (ou, .inl (cJ, 1, .inr (.inl OU)))] sz)) 0 0 (va_A [(x0, .inr (3, [.ref h, .ref hh, .ref w, .ref k0])), (h, .inr (1, [.ref a1, .ref a2, .ref a3, .ref a4, .ref a5, .int (nI n), .int nm])), (a3, .inl (cI, 5, .inl Fr)), (a4, .inl (cI, 5, .inl To)), (a5, .inl (cZ, 5, .inl Li)), (ou, .inl (cJ, 1, .inr (.inl OU)))] sz) := by
  refine va_MetW (cc := cL_piece) (maxL := 7) (ret := (some .int)) (hh := [(0, 14, 17, 13), (0, 14, 21, 19)]) (by decide) rfl ?_
  intro p e s m args below meth c s₁ B hml hv
  obtain ⟨rfl, hsz, hP, hz, hD0⟩ := hv
  have hx := B.exec
  have hb := B.bytes
  have hr := B.returns
  have hts := atoms_spec (ws := (Cond.codeWith yL_piece cL_piece 7 (some .int) [(0, 14, 17, 13), (0, 14, 21, 19)] :: hwG)) B.pre
  have htg := fun w h => hts w (List.mem_cons_of_mem _ h)
  have hown : s.vm.findClass RL = some m.cls := findClass_of_methodNamed B.named
  have hlocks := B.notSynchronized
  have hK := hz.1
  have htab := hw_tab (hts _ List.mem_cons_self) B.named B.method (Stand.of_body B).code
  subst hsz
  have hD := hD0.self (sz := s.heap.size)
  generalize hAe : va_A [(x0, .inr (3, [.ref h, .ref hh, .ref w, .ref k0])), (h, .inr (1, [.ref a1, .ref a2, .ref a3, .ref a4, .ref a5, .int (nI n), .int nm])), (a3, .inl (cI, 5, .inl Fr)), (a4, .inl (cI, 5, .inl To)), (a5, .inl (cZ, 5, .inl Li)), (ou, .inl (cJ, 1, .inr (.inl OU)))] s.heap.size = A at hD ⊢
  have hA : ∀ q : Nat, s.heap.size ≤ q → A q := fun q h => by rw [← hAe]; exact Or.inr h
  have hS : va_S A s.heap s.heap [] := va_S.rf
  have hl := lv_entry ([.ref x0, .int (nI 0), .int (nI a), .int (nI b), .int (hc_b o), .ref ou]) (n := 7) (Nat.le_of_ble_eq_true rfl)
  rw [lg_entry_eq]
  generalize (lg_sl ([.ref x0, .int (nI 0), .int (nI a), .int (nI b), .int (hc_b o), .ref ou]) ++ List.replicate (7 - (lg_sl ([.ref x0, .int (nI 0), .int (nI a), .int (nI b), .int (hc_b o), .ref ou])).length) Slot.unset).toArray = ls at hl ⊢
  replace hl : lv_has ls 7 [(0, .ref x0), (1, .int (nI 0)), (2, .int (nI a)), (3, .int (nI b)), (4, .int (hc_b o)), (5, .ref ou)] := hl
  replace hP : va_P D vwCl [(x0, .inr (3, [.ref h, .ref hh, .ref w, .ref k0])), (h, .inr (1, [.ref a1, .ref a2, .ref a3, .ref a4, .ref a5, .int (nI n), .int nm])), (a3, .inl (cI, 5, .inl Fr)), (a4, .inl (cI, 5, .inl To)), (a5, .inl (cZ, 5, .inl Li)), (ou, .inl (cJ, 1, .inr (.inl OU)))] s.heap := hP
  refine lv_aload hx hb dL_piece_0 (lv_at hl 5 rfl) ?_
  refine lv_iconst (v := nI 0) hx hb dL_piece_2 (by decide) ?_
  refine lv_aload_n hx hb dL_piece_3 rfl (lv_at hl 0 rfl) ?_
  refine lv_iload_n hx hb dL_piece_4 rfl (lv_at hl 1 rfl) ?_
  refine lv_iload_n hx hb dL_piece_5 rfl (lv_at hl 2 rfl) ?_
  refine lv_iload_n hx hb dL_piece_6 rfl (lv_at hl 3 rfl) ?_
  refine lv_iload hx hb dL_piece_7 (lv_at hl 4 rfl) ?_
  refine hv_calli (w1 := fun u : (Nat → Int32) × (Nat → Int32) × (Nat → Int32) × Int32 × Int32 => ((x0, .inr (3, [.ref h, .ref hh, .ref w, .ref k0]))) :: [(h, .inr (1, [.ref a1, .ref a2, .ref a3, .ref a4, .ref a5, .int u.2.2.2.1, .int u.2.2.2.2])), (a3, .inl (cI, 5, .inl u.1)), (a4, .inl (cI, 5, .inl u.2.1)), (a5, .inl (cZ, 5, .inl u.2.2.1))]) (va_runV (C := RX3) (b := x0) (As := [.int (nI 0), .int (nI a), .int (nI b), .int (hc_b o)]) (rest := [.int (nI 0), .ref ou]) ⟨hx, hb, hml, hown, htg⟩ (k_X3_piece0 l D cI cZ cJ _ a b o n Fr To Li nm h a1 a2 a3 a4 a5 x0 hh w k0 ha hb6 hn) (cwV 4 htg (hg_V hm_303 hm_304 hm_305 hm_1 hm_306) rfl rfl rfl (by decide +kernel) ⟨Nat.le_of_ble_eq_true rfl, Nat.le_of_ble_eq_true rfl⟩) ⟨hp_M_blind, va_recv (q := (RX3, TX3, 4)) (q0 := 0) (ci := 3) hK hP rfl rfl, hp_M_pre (hP.sub (ws' := [(x0, .inr (3, [.ref h, .ref hh, .ref w, .ref k0])), (h, .inr (1, [.ref a1, .ref a2, .ref a3, .ref a4, .ref a5, .int (nI n), .int nm])), (a3, .inl (cI, 5, .inl Fr)), (a4, .inl (cI, 5, .inl To)), (a5, .inl (cZ, 5, .inl Li))]) [0, 1, 2, 3, 4] rfl) (hD.sub (ws' := [(x0, .inr (3, [.ref h, .ref hh, .ref w, .ref k0])), (h, .inr (1, [.ref a1, .ref a2, .ref a3, .ref a4, .ref a5, .int (nI n), .int nm])), (a3, .inl (cI, 5, .inl Fr)), (a4, .inl (cI, 5, .inl To)), (a5, .inl (cZ, 5, .inl Li))]) [0, 1, 2, 3, 4] (by decide) rfl) hz⟩ rfl rfl hl.1 rfl (lv_room (Nat.le_of_ble_eq_true rfl)) dL_piece_9 ⟨Nat.zero_le _, Nat.zero_le _⟩) hP hD hS hA [0, 1, 2, 3, 4] rfl (fun _ => rfl) (fun r9 u1 H locs h1 hP hD hS => ?_)
  replace hP : va_P D vwCl ((((x0, .inr (3, [.ref h, .ref hh, .ref w, .ref k0]))) :: [(h, .inr (1, [.ref a1, .ref a2, .ref a3, .ref a4, .ref a5, .int u1.2.2.2.1, .int u1.2.2.2.2])), (a3, .inl (cI, 5, .inl u1.1)), (a4, .inl (cI, 5, .inl u1.2.1)), (a5, .inl (cZ, 5, .inl u1.2.2.1))]) ++ [(ou, .inl (cJ, 1, .inr (.inl OU)))]) H := hP
  refine lv_i2l (v := r9.toInt64) hx hb dL_piece_12 rfl ?_
  refine va_last hx hb hK hP hD hS 5 2 rfl rfl (i := nI 0) (x := r9.toInt64) (nI_in (c := 0) (N := 1) (by omega) (by omega)) dL_piece_13 (fun H locs hP hD hS => ?_)
  replace hP : va_P D vwCl ((((x0, .inr (3, [.ref h, .ref hh, .ref w, .ref k0]))) :: [(h, .inr (1, [.ref a1, .ref a2, .ref a3, .ref a4, .ref a5, .int u1.2.2.2.1, .int u1.2.2.2.2])), (a3, .inl (cI, 5, .inl u1.1)), (a4, .inl (cI, 5, .inl u1.2.1)), (a5, .inl (cZ, 5, .inl u1.2.2.1))]) ++ [(ou, .inl (cJ, 1, .inr (.inl (vp_updL OU (nI 0).toNatClampNeg r9.toInt64))))]) H := hP
  refine lv_goto hx hb dL_piece_14 rfl ?_
  refine lv_iconst (v := nI 0) hx hb dL_piece_25 (by decide) ?_
  exact W.iret (v := nI 0) hx hb hr (fun t9 ht9 hW9 => ⟨⟨_, (u1, vp_updL OU (nI 0).toNatClampNeg r9.toInt64), rfl, ⟨rfl, _, h1, by show vp_updL OU (nI 0).toNatClampNeg r9.toInt64 0 = _; rw [show (nI 0).toNatClampNeg = 0 from by decide]; unfold vp_updL; rw [if_pos rfl]⟩, by show va_P D vwCl ((((x0, .inr (3, [.ref h, .ref hh, .ref w, .ref k0]))) :: [(h, .inr (1, [.ref a1, .ref a2, .ref a3, .ref a4, .ref a5, .int u1.2.2.2.1, .int u1.2.2.2.2])), (a3, .inl (cI, 5, .inl u1.1)), (a4, .inl (cI, 5, .inl u1.2.1)), (a5, .inl (cZ, 5, .inl u1.2.2.1))]) ++ [(ou, .inl (cJ, 1, .inr (.inl (vp_updL OU (nI 0).toNatClampNeg r9.toInt64))))]) t9.heap; rw [ht9]; exact hP⟩, hS.F ht9⟩) hS.2.2 dL_piece_26

set_option maxHeartbeats 4000000 in
set_option maxRecDepth 100000 in
/-- it answers -/
theorem kh_pieces0 (l : Launch) (D : va_G) (cI cZ cJ : ClassId) (sz : Nat) (n : Nat) (nm : Int32) (h a1 a2 a3 a4 a5 : Nat) (x0 hh w k0 : Nat) (OU : Nat → Int64) (ou : Nat) : Met l yL_pieces (Cond.codeWith yL_pieces cL_pieces 4 (some .int) [(0, 9, 12, 13)] :: hwG) { frames := 2, cells := 0, slots := 0, locals := 42 } (hp_M [.ref x0, .int (nI 0), .ref ou] D cI cZ cJ [(x0, .inr (3, [.ref h, .ref hh, .ref w, .ref k0])), (h, .inr (1, [.ref a1, .ref a2, .ref a3, .ref a4, .ref a5, .int (nI n), .int nm])), (ou, .inl (cJ, 1, .inr (.inl OU)))] sz) (va_Qi (S := Unit × (Nat → Int64)) (fun r u => r = nI 0 ∧ ∃ r9, (fun r => r = nI n) r9 ∧ u.2 0 = r9.toInt64) (fun u t => va_P D vwCl ([(x0, .inr (3, [.ref h, .ref hh, .ref w, .ref k0])), (h, .inr (1, [.ref a1, .ref a2, .ref a3, .ref a4, .ref a5, .int (nI n), .int nm]))] ++ [(ou, .inl (cJ, 1, .inr (.inl u.2)))]) t.heap) (va_A [(x0, .inr (3, [.ref h, .ref hh, .ref w, .ref k0])), (h, .inr (1, [.ref a1, .ref a2, .ref a3, .ref a4, .ref a5, .int (nI n), .int nm])), (ou, .inl (cJ, 1, .inr (.inl OU)))] sz)) 0 0 (va_A [(x0, .inr (3, [.ref h, .ref hh, .ref w, .ref k0])), (h, .inr (1, [.ref a1, .ref a2, .ref a3, .ref a4, .ref a5, .int (nI n), .int nm])), (ou, .inl (cJ, 1, .inr (.inl OU)))] sz) := by
  refine va_MetW (cc := cL_pieces) (maxL := 4) (ret := (some .int)) (hh := [(0, 9, 12, 13)]) (by decide) rfl ?_
  intro p e s m args below meth c s₁ B hml hv
  obtain ⟨rfl, hsz, hP, hz, hD0⟩ := hv
  have hx := B.exec
  have hb := B.bytes
  have hr := B.returns
  have hts := atoms_spec (ws := (Cond.codeWith yL_pieces cL_pieces 4 (some .int) [(0, 9, 12, 13)] :: hwG)) B.pre
  have htg := fun w h => hts w (List.mem_cons_of_mem _ h)
  have hown : s.vm.findClass RL = some m.cls := findClass_of_methodNamed B.named
  have hlocks := B.notSynchronized
  have hK := hz.1
  have htab := hw_tab (hts _ List.mem_cons_self) B.named B.method (Stand.of_body B).code
  subst hsz
  have hD := hD0.self (sz := s.heap.size)
  generalize hAe : va_A [(x0, .inr (3, [.ref h, .ref hh, .ref w, .ref k0])), (h, .inr (1, [.ref a1, .ref a2, .ref a3, .ref a4, .ref a5, .int (nI n), .int nm])), (ou, .inl (cJ, 1, .inr (.inl OU)))] s.heap.size = A at hD ⊢
  have hA : ∀ q : Nat, s.heap.size ≤ q → A q := fun q h => by rw [← hAe]; exact Or.inr h
  have hS : va_S A s.heap s.heap [] := va_S.rf
  have hl := lv_entry ([.ref x0, .int (nI 0), .ref ou]) (n := 4) (Nat.le_of_ble_eq_true rfl)
  rw [lg_entry_eq]
  generalize (lg_sl ([.ref x0, .int (nI 0), .ref ou]) ++ List.replicate (4 - (lg_sl ([.ref x0, .int (nI 0), .ref ou])).length) Slot.unset).toArray = ls at hl ⊢
  replace hl : lv_has ls 4 [(0, .ref x0), (1, .int (nI 0)), (2, .ref ou)] := hl
  replace hP : va_P D vwCl [(x0, .inr (3, [.ref h, .ref hh, .ref w, .ref k0])), (h, .inr (1, [.ref a1, .ref a2, .ref a3, .ref a4, .ref a5, .int (nI n), .int nm])), (ou, .inl (cJ, 1, .inr (.inl OU)))] s.heap := hP
  refine lv_aload_n hx hb dL_pieces_0 rfl (lv_at hl 2 rfl) ?_
  refine lv_iconst (v := nI 0) hx hb dL_pieces_1 (by decide) ?_
  refine lv_aload_n hx hb dL_pieces_2 rfl (lv_at hl 0 rfl) ?_
  refine lv_iload_n hx hb dL_pieces_3 rfl (lv_at hl 1 rfl) ?_
  refine hw_csi (va_runV (C := RX3) (b := x0) (As := [.int (nI 0)]) (rest := [.int (nI 0), .ref ou]) ⟨hx, hb, hml, hown, htg⟩ (k_X3_pieces0 l D cI cZ cJ n nm h a1 a2 a3 a4 a5 x0 hh w k0) (cwV 1 htg (hg_V hm_342 hm_343 hm_344 hm_1 hm_345) rfl rfl rfl (by decide +kernel) ⟨Nat.le_of_ble_eq_true rfl, Nat.le_of_ble_eq_true rfl⟩) ⟨hp_R_blind, va_recv (q := (RX3, TX3, 4)) (q0 := 0) (ci := 3) hK hP rfl rfl, hp_R_pre (hP.sub (ws' := [(x0, .inr (3, [.ref h, .ref hh, .ref w, .ref k0])), (h, .inr (1, [.ref a1, .ref a2, .ref a3, .ref a4, .ref a5, .int (nI n), .int nm]))]) [0, 1] rfl) hz⟩ rfl rfl hl.1 rfl (lv_room (Nat.le_of_ble_eq_true rfl)) dL_pieces_4 ⟨Nat.zero_le _, Nat.zero_le _⟩) (fun r9 h1 => ?_)
  replace hP : va_P D vwCl ([(x0, .inr (3, [.ref h, .ref hh, .ref w, .ref k0])), (h, .inr (1, [.ref a1, .ref a2, .ref a3, .ref a4, .ref a5, .int (nI n), .int nm]))] ++ [(ou, .inl (cJ, 1, .inr (.inl OU)))]) s.heap := hP
  refine lv_i2l (v := r9.toInt64) hx hb dL_pieces_7 rfl ?_
  refine va_last hx hb hK hP hD hS 2 2 rfl rfl (i := nI 0) (x := r9.toInt64) (nI_in (c := 0) (N := 1) (by omega) (by omega)) dL_pieces_8 (fun H locs hP hD hS => ?_)
  replace hP : va_P D vwCl ([(x0, .inr (3, [.ref h, .ref hh, .ref w, .ref k0])), (h, .inr (1, [.ref a1, .ref a2, .ref a3, .ref a4, .ref a5, .int (nI n), .int nm]))] ++ [(ou, .inl (cJ, 1, .inr (.inl (vp_updL OU (nI 0).toNatClampNeg r9.toInt64))))]) H := hP
  refine lv_goto hx hb dL_pieces_9 rfl ?_
  refine lv_iconst (v := nI 0) hx hb dL_pieces_15 (by decide) ?_
  exact W.iret (v := nI 0) hx hb hr (fun t9 ht9 hW9 => ⟨⟨_, ((), vp_updL OU (nI 0).toNatClampNeg r9.toInt64), rfl, ⟨rfl, _, h1, by show vp_updL OU (nI 0).toNatClampNeg r9.toInt64 0 = _; rw [show (nI 0).toNatClampNeg = 0 from by decide]; unfold vp_updL; rw [if_pos rfl]⟩, by show va_P D vwCl ([(x0, .inr (3, [.ref h, .ref hh, .ref w, .ref k0])), (h, .inr (1, [.ref a1, .ref a2, .ref a3, .ref a4, .ref a5, .int (nI n), .int nm]))] ++ [(ou, .inl (cJ, 1, .inr (.inl (vp_updL OU (nI 0).toNatClampNeg r9.toInt64))))]) t9.heap; rw [ht9]; exact hP⟩, hS.F ht9⟩) hS.2.2 dL_pieces_16

set_option maxHeartbeats 4000000 in
set_option maxRecDepth 100000 in
/-- it answers -/
theorem kh_possible0 (l : Launch) (D : va_G) (cI cZ cJ : ClassId) (sz : Nat) (M : Nat) (sm ot : Nat → Nat → Bool) (n : Nat) (fr to : Nat → Nat) (li : Nat → Bool) (S O Fr To Li : Nat → Int32) (nm : Int32) (h a1 a2 a3 a4 a5 : Nat) (nmC : Int32) (EN LG BI VQ : Nat → Int32) (fl : Int32) (k0 g q0 q1 q2 q3 : Nat) (x0 hh w : Nat) (OU : Nat → Int64) (ou : Nat) (hC : hs_cl S O Fr To Li sm ot n fr to li) (hM32 : M < 32) (hM : ∀ t, t < 5 → bt nm t = M.testBit t) : Met l yL_possible (Cond.codeWith yL_possible cL_possible 4 (some .int) [(0, 16, 19, 13)] :: hwG) { frames := 4, cells := 0, slots := 0, locals := 95 } (hp_M [.ref x0, .int (nI 0), .ref ou] D cI cZ cJ [(x0, .inr (3, [.ref h, .ref hh, .ref w, .ref k0])), (h, .inr (1, [.ref a1, .ref a2, .ref a3, .ref a4, .ref a5, .int (nI n), .int nm])), (a1, .inl (cI, 6, .inl S)), (a2, .inl (cI, 6, .inl O)), (a3, .inl (cI, 5, .inl Fr)), (a4, .inl (cI, 5, .inl To)), (a5, .inl (cZ, 5, .inl Li)), (k0, .inr (0, [.ref g, .int nmC])), (g, .inr (2, [.ref q0, .int (nI 5), .ref q1, .ref q2, .ref q3, .int fl])), (q0, .inl (cI, 6, .inl VQ)), (q1, .inl (cI, 5 + 1, .inl EN)), (q2, .inl (cZ, 5 + 1, .inl LG)), (q3, .inl (cI, 5 + 1, .inl BI)), (ou, .inl (cJ, 1, .inr (.inl OU)))] sz) (va_Qi (S := ((Nat → Int32) × (Nat → Int32) × (Nat → Int32) × (Nat → Int32) × Int32) × (Nat → Int64)) (fun r u => r = nI 0 ∧ ∃ r9, (fun r _ => hc_r r (∃ l, l ∈ hc_cas M ∧ hc_A sm ot n fr to li (fun t => l.getD t 0))) r9 u.1 ∧ u.2 0 = r9.toInt64) (fun u t => va_P D vwCl (([(x0, .inr (3, [.ref h, .ref hh, .ref w, .ref k0])), (h, .inr (1, [.ref a1, .ref a2, .ref a3, .ref a4, .ref a5, .int (nI n), .int nm])), (a1, .inl (cI, 6, .inl S)), (a2, .inl (cI, 6, .inl O)), (a3, .inl (cI, 5, .inl Fr)), (a4, .inl (cI, 5, .inl To)), (a5, .inl (cZ, 5, .inl Li)), (k0, .inr (0, [.ref g, .int nm])), (g, .inr (2, [.ref q0, .int (nI 5), .ref q1, .ref q2, .ref q3, .int u.1.2.2.2.2])), (q0, .inl (cI, 6, .inl u.1.1)), (q1, .inl (cI, 5 + 1, .inl u.1.2.1)), (q2, .inl (cZ, 5 + 1, .inl u.1.2.2.1)), (q3, .inl (cI, 5 + 1, .inl u.1.2.2.2.1))]) ++ [(ou, .inl (cJ, 1, .inr (.inl u.2)))]) t.heap) (va_A [(x0, .inr (3, [.ref h, .ref hh, .ref w, .ref k0])), (h, .inr (1, [.ref a1, .ref a2, .ref a3, .ref a4, .ref a5, .int (nI n), .int nm])), (a1, .inl (cI, 6, .inl S)), (a2, .inl (cI, 6, .inl O)), (a3, .inl (cI, 5, .inl Fr)), (a4, .inl (cI, 5, .inl To)), (a5, .inl (cZ, 5, .inl Li)), (k0, .inr (0, [.ref g, .int nmC])), (g, .inr (2, [.ref q0, .int (nI 5), .ref q1, .ref q2, .ref q3, .int fl])), (q0, .inl (cI, 6, .inl VQ)), (q1, .inl (cI, 5 + 1, .inl EN)), (q2, .inl (cZ, 5 + 1, .inl LG)), (q3, .inl (cI, 5 + 1, .inl BI)), (ou, .inl (cJ, 1, .inr (.inl OU)))] sz)) 0 0 (va_A [(x0, .inr (3, [.ref h, .ref hh, .ref w, .ref k0])), (h, .inr (1, [.ref a1, .ref a2, .ref a3, .ref a4, .ref a5, .int (nI n), .int nm])), (a1, .inl (cI, 6, .inl S)), (a2, .inl (cI, 6, .inl O)), (a3, .inl (cI, 5, .inl Fr)), (a4, .inl (cI, 5, .inl To)), (a5, .inl (cZ, 5, .inl Li)), (k0, .inr (0, [.ref g, .int nmC])), (g, .inr (2, [.ref q0, .int (nI 5), .ref q1, .ref q2, .ref q3, .int fl])), (q0, .inl (cI, 6, .inl VQ)), (q1, .inl (cI, 5 + 1, .inl EN)), (q2, .inl (cZ, 5 + 1, .inl LG)), (q3, .inl (cI, 5 + 1, .inl BI)), (ou, .inl (cJ, 1, .inr (.inl OU)))] sz) := by
  refine va_MetW (cc := cL_possible) (maxL := 4) (ret := (some .int)) (hh := [(0, 16, 19, 13)]) (by decide) rfl ?_
  intro p e s m args below meth c s₁ B hml hv
  obtain ⟨rfl, hsz, hP, hz, hD0⟩ := hv
  have hx := B.exec
  have hb := B.bytes
  have hr := B.returns
  have hts := atoms_spec (ws := (Cond.codeWith yL_possible cL_possible 4 (some .int) [(0, 16, 19, 13)] :: hwG)) B.pre
  have htg := fun w h => hts w (List.mem_cons_of_mem _ h)
  have hown : s.vm.findClass RL = some m.cls := findClass_of_methodNamed B.named
  have hlocks := B.notSynchronized
  have hK := hz.1
  have htab := hw_tab (hts _ List.mem_cons_self) B.named B.method (Stand.of_body B).code
  subst hsz
  have hD := hD0.self (sz := s.heap.size)
  generalize hAe : va_A [(x0, .inr (3, [.ref h, .ref hh, .ref w, .ref k0])), (h, .inr (1, [.ref a1, .ref a2, .ref a3, .ref a4, .ref a5, .int (nI n), .int nm])), (a1, .inl (cI, 6, .inl S)), (a2, .inl (cI, 6, .inl O)), (a3, .inl (cI, 5, .inl Fr)), (a4, .inl (cI, 5, .inl To)), (a5, .inl (cZ, 5, .inl Li)), (k0, .inr (0, [.ref g, .int nmC])), (g, .inr (2, [.ref q0, .int (nI 5), .ref q1, .ref q2, .ref q3, .int fl])), (q0, .inl (cI, 6, .inl VQ)), (q1, .inl (cI, 5 + 1, .inl EN)), (q2, .inl (cZ, 5 + 1, .inl LG)), (q3, .inl (cI, 5 + 1, .inl BI)), (ou, .inl (cJ, 1, .inr (.inl OU)))] s.heap.size = A at hD ⊢
  have hA : ∀ q : Nat, s.heap.size ≤ q → A q := fun q h => by rw [← hAe]; exact Or.inr h
  have hS : va_S A s.heap s.heap [] := va_S.rf
  have hl := lv_entry ([.ref x0, .int (nI 0), .ref ou]) (n := 4) (Nat.le_of_ble_eq_true rfl)
  rw [lg_entry_eq]
  generalize (lg_sl ([.ref x0, .int (nI 0), .ref ou]) ++ List.replicate (4 - (lg_sl ([.ref x0, .int (nI 0), .ref ou])).length) Slot.unset).toArray = ls at hl ⊢
  replace hl : lv_has ls 4 [(0, .ref x0), (1, .int (nI 0)), (2, .ref ou)] := hl
  replace hP : va_P D vwCl [(x0, .inr (3, [.ref h, .ref hh, .ref w, .ref k0])), (h, .inr (1, [.ref a1, .ref a2, .ref a3, .ref a4, .ref a5, .int (nI n), .int nm])), (a1, .inl (cI, 6, .inl S)), (a2, .inl (cI, 6, .inl O)), (a3, .inl (cI, 5, .inl Fr)), (a4, .inl (cI, 5, .inl To)), (a5, .inl (cZ, 5, .inl Li)), (k0, .inr (0, [.ref g, .int nmC])), (g, .inr (2, [.ref q0, .int (nI 5), .ref q1, .ref q2, .ref q3, .int fl])), (q0, .inl (cI, 6, .inl VQ)), (q1, .inl (cI, 5 + 1, .inl EN)), (q2, .inl (cZ, 5 + 1, .inl LG)), (q3, .inl (cI, 5 + 1, .inl BI)), (ou, .inl (cJ, 1, .inr (.inl OU)))] s.heap := hP
  refine lv_aload_n hx hb dL_possible_0 rfl (lv_at hl 2 rfl) ?_
  refine lv_iconst (v := nI 0) hx hb dL_possible_1 (by decide) ?_
  refine lv_aload_n hx hb dL_possible_2 rfl (lv_at hl 0 rfl) ?_
  refine lv_iload_n hx hb dL_possible_3 rfl (lv_at hl 1 rfl) ?_
  refine hv_calli (w1 := fun u : (Nat → Int32) × (Nat → Int32) × (Nat → Int32) × (Nat → Int32) × Int32 => [(x0, .inr (3, [.ref h, .ref hh, .ref w, .ref k0])), (h, .inr (1, [.ref a1, .ref a2, .ref a3, .ref a4, .ref a5, .int (nI n), .int nm])), (a1, .inl (cI, 6, .inl S)), (a2, .inl (cI, 6, .inl O)), (a3, .inl (cI, 5, .inl Fr)), (a4, .inl (cI, 5, .inl To)), (a5, .inl (cZ, 5, .inl Li)), (k0, .inr (0, [.ref g, .int nm])), (g, .inr (2, [.ref q0, .int (nI 5), .ref q1, .ref q2, .ref q3, .int u.2.2.2.2])), (q0, .inl (cI, 6, .inl u.1)), (q1, .inl (cI, 5 + 1, .inl u.2.1)), (q2, .inl (cZ, 5 + 1, .inl u.2.2.1)), (q3, .inl (cI, 5 + 1, .inl u.2.2.2.1))]) (va_runV (C := RX3) (b := x0) (As := [.int (nI 0)]) (rest := [.int (nI 0), .ref ou]) ⟨hx, hb, hml, hown, htg⟩ (k_X3_possible0 l D cI cZ cJ _ M sm ot n fr to li S O Fr To Li nm h a1 a2 a3 a4 a5 nmC EN LG BI VQ fl k0 g q0 q1 q2 q3 x0 hh w hC hM32 hM) (cwV 1 htg (hg_V hm_349 hm_350 hm_351 hm_1 hm_352) rfl rfl rfl (by decide +kernel) ⟨Nat.le_of_ble_eq_true rfl, Nat.le_of_ble_eq_true rfl⟩) ⟨hp_M_blind, va_recv (q := (RX3, TX3, 4)) (q0 := 0) (ci := 3) hK hP rfl rfl, hp_M_pre (hP.sub (ws' := [(x0, .inr (3, [.ref h, .ref hh, .ref w, .ref k0])), (h, .inr (1, [.ref a1, .ref a2, .ref a3, .ref a4, .ref a5, .int (nI n), .int nm])), (a1, .inl (cI, 6, .inl S)), (a2, .inl (cI, 6, .inl O)), (a3, .inl (cI, 5, .inl Fr)), (a4, .inl (cI, 5, .inl To)), (a5, .inl (cZ, 5, .inl Li)), (k0, .inr (0, [.ref g, .int nmC])), (g, .inr (2, [.ref q0, .int (nI 5), .ref q1, .ref q2, .ref q3, .int fl])), (q0, .inl (cI, 6, .inl VQ)), (q1, .inl (cI, 5 + 1, .inl EN)), (q2, .inl (cZ, 5 + 1, .inl LG)), (q3, .inl (cI, 5 + 1, .inl BI))]) [0, 1, 2, 3, 4, 5, 6, 7, 8, 9, 10, 11, 12] rfl) (hD.sub (ws' := [(x0, .inr (3, [.ref h, .ref hh, .ref w, .ref k0])), (h, .inr (1, [.ref a1, .ref a2, .ref a3, .ref a4, .ref a5, .int (nI n), .int nm])), (a1, .inl (cI, 6, .inl S)), (a2, .inl (cI, 6, .inl O)), (a3, .inl (cI, 5, .inl Fr)), (a4, .inl (cI, 5, .inl To)), (a5, .inl (cZ, 5, .inl Li)), (k0, .inr (0, [.ref g, .int nmC])), (g, .inr (2, [.ref q0, .int (nI 5), .ref q1, .ref q2, .ref q3, .int fl])), (q0, .inl (cI, 6, .inl VQ)), (q1, .inl (cI, 5 + 1, .inl EN)), (q2, .inl (cZ, 5 + 1, .inl LG)), (q3, .inl (cI, 5 + 1, .inl BI))]) [0, 1, 2, 3, 4, 5, 6, 7, 8, 9, 10, 11, 12] (by decide) rfl) hz⟩ rfl rfl hl.1 rfl (lv_room (Nat.le_of_ble_eq_true rfl)) dL_possible_4 ⟨Nat.zero_le _, Nat.zero_le _⟩) hP hD hS hA [0, 1, 2, 3, 4, 5, 6, 7, 8, 9, 10, 11, 12] rfl (fun _ => rfl) (fun r9 u1 H locs h1 hP hD hS => ?_)
  replace hP : va_P D vwCl (([(x0, .inr (3, [.ref h, .ref hh, .ref w, .ref k0])), (h, .inr (1, [.ref a1, .ref a2, .ref a3, .ref a4, .ref a5, .int (nI n), .int nm])), (a1, .inl (cI, 6, .inl S)), (a2, .inl (cI, 6, .inl O)), (a3, .inl (cI, 5, .inl Fr)), (a4, .inl (cI, 5, .inl To)), (a5, .inl (cZ, 5, .inl Li)), (k0, .inr (0, [.ref g, .int nm])), (g, .inr (2, [.ref q0, .int (nI 5), .ref q1, .ref q2, .ref q3, .int u1.2.2.2.2])), (q0, .inl (cI, 6, .inl u1.1)), (q1, .inl (cI, 5 + 1, .inl u1.2.1)), (q2, .inl (cZ, 5 + 1, .inl u1.2.2.1)), (q3, .inl (cI, 5 + 1, .inl u1.2.2.2.1))]) ++ [(ou, .inl (cJ, 1, .inr (.inl OU)))]) H := hP
  rcases h1 with ⟨rfl, h1⟩ | ⟨rfl, h1⟩
  · refine lv_if_eq hx hb dL_possible_7 rfl (fun hc9 => absurd hc9 (by decide)) (fun hc9 => ?_)
    refine lv_lconst (v := 1) hx hb dL_possible_10 rfl ?_
    refine lv_goto hx hb dL_possible_11 rfl ?_
    refine va_last hx hb hK hP hD hS 13 2 rfl rfl (i := nI 0) (x := 1) (nI_in (c := 0) (N := 1) (by omega) (by omega)) dL_possible_15 (fun H locs hP hD hS => ?_)
    replace hP : va_P D vwCl (([(x0, .inr (3, [.ref h, .ref hh, .ref w, .ref k0])), (h, .inr (1, [.ref a1, .ref a2, .ref a3, .ref a4, .ref a5, .int (nI n), .int nm])), (a1, .inl (cI, 6, .inl S)), (a2, .inl (cI, 6, .inl O)), (a3, .inl (cI, 5, .inl Fr)), (a4, .inl (cI, 5, .inl To)), (a5, .inl (cZ, 5, .inl Li)), (k0, .inr (0, [.ref g, .int nm])), (g, .inr (2, [.ref q0, .int (nI 5), .ref q1, .ref q2, .ref q3, .int u1.2.2.2.2])), (q0, .inl (cI, 6, .inl u1.1)), (q1, .inl (cI, 5 + 1, .inl u1.2.1)), (q2, .inl (cZ, 5 + 1, .inl u1.2.2.1)), (q3, .inl (cI, 5 + 1, .inl u1.2.2.2.1))]) ++ [(ou, .inl (cJ, 1, .inr (.inl (vp_updL OU (nI 0).toNatClampNeg 1))))]) H := hP
    refine lv_goto hx hb dL_possible_16 rfl ?_
    refine lv_iconst (v := nI 0) hx hb dL_possible_22 (by decide) ?_
    exact W.iret (v := nI 0) hx hb hr (fun t9 ht9 hW9 => ⟨⟨_, (u1, vp_updL OU (nI 0).toNatClampNeg 1), rfl, ⟨rfl, _, Or.inl ⟨rfl, h1⟩, by show vp_updL OU (nI 0).toNatClampNeg 1 0 = _; rw [show (nI 0).toNatClampNeg = 0 from by decide]; unfold vp_updL; rw [if_pos rfl]; decide⟩, by show va_P D vwCl (([(x0, .inr (3, [.ref h, .ref hh, .ref w, .ref k0])), (h, .inr (1, [.ref a1, .ref a2, .ref a3, .ref a4, .ref a5, .int (nI n), .int nm])), (a1, .inl (cI, 6, .inl S)), (a2, .inl (cI, 6, .inl O)), (a3, .inl (cI, 5, .inl Fr)), (a4, .inl (cI, 5, .inl To)), (a5, .inl (cZ, 5, .inl Li)), (k0, .inr (0, [.ref g, .int nm])), (g, .inr (2, [.ref q0, .int (nI 5), .ref q1, .ref q2, .ref q3, .int u1.2.2.2.2])), (q0, .inl (cI, 6, .inl u1.1)), (q1, .inl (cI, 5 + 1, .inl u1.2.1)), (q2, .inl (cZ, 5 + 1, .inl u1.2.2.1)), (q3, .inl (cI, 5 + 1, .inl u1.2.2.2.1))]) ++ [(ou, .inl (cJ, 1, .inr (.inl (vp_updL OU (nI 0).toNatClampNeg 1))))]) t9.heap; rw [ht9]; exact hP⟩, hS.F ht9⟩) hS.2.2 dL_possible_23
  · refine lv_if_eq hx hb dL_possible_7 rfl (fun hc9 => ?_) (fun hc9 => absurd rfl hc9)
    refine lv_lconst (v := 0) hx hb dL_possible_14 rfl ?_
    refine va_last hx hb hK hP hD hS 13 2 rfl rfl (i := nI 0) (x := 0) (nI_in (c := 0) (N := 1) (by omega) (by omega)) dL_possible_15 (fun H locs hP hD hS => ?_)
    replace hP : va_P D vwCl (([(x0, .inr (3, [.ref h, .ref hh, .ref w, .ref k0])), (h, .inr (1, [.ref a1, .ref a2, .ref a3, .ref a4, .ref a5, .int (nI n), .int nm])), (a1, .inl (cI, 6, .inl S)), (a2, .inl (cI, 6, .inl O)), (a3, .inl (cI, 5, .inl Fr)), (a4, .inl (cI, 5, .inl To)), (a5, .inl (cZ, 5, .inl Li)), (k0, .inr (0, [.ref g, .int nm])), (g, .inr (2, [.ref q0, .int (nI 5), .ref q1, .ref q2, .ref q3, .int u1.2.2.2.2])), (q0, .inl (cI, 6, .inl u1.1)), (q1, .inl (cI, 5 + 1, .inl u1.2.1)), (q2, .inl (cZ, 5 + 1, .inl u1.2.2.1)), (q3, .inl (cI, 5 + 1, .inl u1.2.2.2.1))]) ++ [(ou, .inl (cJ, 1, .inr (.inl (vp_updL OU (nI 0).toNatClampNeg 0))))]) H := hP
    refine lv_goto hx hb dL_possible_16 rfl ?_
    refine lv_iconst (v := nI 0) hx hb dL_possible_22 (by decide) ?_
    exact W.iret (v := nI 0) hx hb hr (fun t9 ht9 hW9 => ⟨⟨_, (u1, vp_updL OU (nI 0).toNatClampNeg 0), rfl, ⟨rfl, _, Or.inr ⟨rfl, h1⟩, by show vp_updL OU (nI 0).toNatClampNeg 0 0 = _; rw [show (nI 0).toNatClampNeg = 0 from by decide]; unfold vp_updL; rw [if_pos rfl]; decide⟩, by show va_P D vwCl (([(x0, .inr (3, [.ref h, .ref hh, .ref w, .ref k0])), (h, .inr (1, [.ref a1, .ref a2, .ref a3, .ref a4, .ref a5, .int (nI n), .int nm])), (a1, .inl (cI, 6, .inl S)), (a2, .inl (cI, 6, .inl O)), (a3, .inl (cI, 5, .inl Fr)), (a4, .inl (cI, 5, .inl To)), (a5, .inl (cZ, 5, .inl Li)), (k0, .inr (0, [.ref g, .int nm])), (g, .inr (2, [.ref q0, .int (nI 5), .ref q1, .ref q2, .ref q3, .int u1.2.2.2.2])), (q0, .inl (cI, 6, .inl u1.1)), (q1, .inl (cI, 5 + 1, .inl u1.2.1)), (q2, .inl (cZ, 5 + 1, .inl u1.2.2.1)), (q3, .inl (cI, 5 + 1, .inl u1.2.2.2.1))]) ++ [(ou, .inl (cJ, 1, .inr (.inl (vp_updL OU (nI 0).toNatClampNeg 0))))]) t9.heap; rw [ht9]; exact hP⟩, hS.F ht9⟩) hS.2.2 dL_possible_23

set_option maxHeartbeats 4000000 in
set_option maxRecDepth 100000 in
/-- it answers -/
theorem kh_piece1 (l : Launch) (D : va_G) (cI cZ cJ : ClassId) (sz : Nat) (a b : Nat) (o : Bool) (n : Nat) (Fr To Li : Nat → Int32) (nm : Int32) (h a1 a2 a3 a4 a5 : Nat) (x0 hh w k0 : Nat) (OU : Nat → Int64) (ou : Nat) (ha : a < 6) (hb6 : b < 6) (hn : n < 5) : Met l yL_piece (Cond.codeWith yL_piece cL_piece 7 (some .int) [(0, 14, 17, 13), (0, 14, 21, 19)] :: hwG) { frames := 2, cells := 0, slots := 0, locals := 48 } (hp_M [.ref x0, .int (nI 1), .int (nI a), .int (nI b), .int (hc_b o), .ref ou] D cI cZ cJ [(x0, .inr (3, [.ref hh, .ref h, .ref w, .ref k0])), (h, .inr (1, [.ref a1, .ref a2, .ref a3, .ref a4, .ref a5, .int (nI n), .int nm])), (a3, .inl (cI, 5, .inl Fr)), (a4, .inl (cI, 5, .inl To)), (a5, .inl (cZ, 5, .inl Li)), (ou, .inl (cJ, 1, .inr (.inl OU)))] sz) (va_Qi (S := ((Nat → Int32) × (Nat → Int32) × (Nat → Int32) × Int32 × Int32) × (Nat → Int64)) (fun r u => r = nI 0 ∧ ∃ r9, (fun r u => r = nI n ∧ u.1 = upd Fr n (nI a) ∧ u.2.1 = upd To n (nI b) ∧ u.2.2.1 = upd Li n (hc_b o) ∧ u.2.2.2.1 = nI (n + 1) ∧ u.2.2.2.2 = nm ||| ((nI 1 <<< (nI a &&& 31)) ||| (nI 1 <<< (nI b &&& 31)))) r9 u.1 ∧ u.2 0 = r9.toInt64) (fun u t => va_P D vwCl ((((x0, .inr (3, [.ref hh, .ref h, .ref w, .ref k0]))) :: [(h, .inr (1, [.ref a1, .ref a2, .ref a3, .ref a4, .ref a5, .int u.1.2.2.2.1, .int u.1.2.2.2.2])), (a3, .inl (cI, 5, .inl u.1.1)), (a4, .inl (cI, 5, .inl u.1.2.1)), (a5, .inl (cZ, 5, .inl u.1.2.2.1))]) ++ [(ou, .inl (cJ, 1, .inr (.inl u.2)))]) t.heap) (va_A [(x0, .inr (3, [.ref hh, .ref h, .ref w, .ref k0])), (h, .inr (1, [.ref a1, .ref a2, .ref a3, .ref a4, .ref a5, .int (nI n), .int nm])), (a3, .inl (cI, 5, .inl Fr)), (a4, .inl (cI, 5, .inl To)), (a5, .inl (cZ, 5, .inl Li)), (ou, .inl (cJ, 1, .inr (.inl OU)))] sz)) 0 0 (va_A [(x0, .inr (3, [.ref hh, .ref h, .ref w, .ref k0])), (h, .inr (1, [.ref a1, .ref a2, .ref a3, .ref a4, .ref a5, .int (nI n), .int nm])), (a3, .inl (cI, 5, .inl Fr)), (a4, .inl (cI, 5, .inl To)), (a5, .inl (cZ, 5, .inl Li)), (ou, .inl (cJ, 1, .inr (.inl OU)))] sz) := by
  refine va_MetW (cc := cL_piece) (maxL := 7) (ret := (some .int)) (hh := [(0, 14, 17, 13), (0, 14, 21, 19)]) (by decide) rfl ?_
  intro p e s m args below meth c s₁ B hml hv
  obtain ⟨rfl, hsz, hP, hz, hD0⟩ := hv
  have hx := B.exec
  have hb := B.bytes
  have hr := B.returns
  have hts := atoms_spec (ws := (Cond.codeWith yL_piece cL_piece 7 (some .int) [(0, 14, 17, 13), (0, 14, 21, 19)] :: hwG)) B.pre
  have htg := fun w h => hts w (List.mem_cons_of_mem _ h)
  have hown : s.vm.findClass RL = some m.cls := findClass_of_methodNamed B.named
  have hlocks := B.notSynchronized
  have hK := hz.1
  have htab := hw_tab (hts _ List.mem_cons_self) B.named B.method (Stand.of_body B).code
  subst hsz
  have hD := hD0.self (sz := s.heap.size)
  generalize hAe : va_A [(x0, .inr (3, [.ref hh, .ref h, .ref w, .ref k0])), (h, .inr (1, [.ref a1, .ref a2, .ref a3, .ref a4, .ref a5, .int (nI n), .int nm])), (a3, .inl (cI, 5, .inl Fr)), (a4, .inl (cI, 5, .inl To)), (a5, .inl (cZ, 5, .inl Li)), (ou, .inl (cJ, 1, .inr (.inl OU)))] s.heap.size = A at hD ⊢
  have hA : ∀ q : Nat, s.heap.size ≤ q → A q := fun q h => by rw [← hAe]; exact Or.inr h
  have hS : va_S A s.heap s.heap [] := va_S.rf
  have hl := lv_entry ([.ref x0, .int (nI 1), .int (nI a), .int (nI b), .int (hc_b o), .ref ou]) (n := 7) (Nat.le_of_ble_eq_true rfl)
  rw [lg_entry_eq]
  generalize (lg_sl ([.ref x0, .int (nI 1), .int (nI a), .int (nI b), .int (hc_b o), .ref ou]) ++ List.replicate (7 - (lg_sl ([.ref x0, .int (nI 1), .int (nI a), .int (nI b), .int (hc_b o), .ref ou])).length) Slot.unset).toArray = ls at hl ⊢
  replace hl : lv_has ls 7 [(0, .ref x0), (1, .int (nI 1)), (2, .int (nI a)), (3, .int (nI b)), (4, .int (hc_b o)), (5, .ref ou)] := hl
  replace hP : va_P D vwCl [(x0, .inr (3, [.ref hh, .ref h, .ref w, .ref k0])), (h, .inr (1, [.ref a1, .ref a2, .ref a3, .ref a4, .ref a5, .int (nI n), .int nm])), (a3, .inl (cI, 5, .inl Fr)), (a4, .inl (cI, 5, .inl To)), (a5, .inl (cZ, 5, .inl Li)), (ou, .inl (cJ, 1, .inr (.inl OU)))] s.heap := hP
  refine lv_aload hx hb dL_piece_0 (lv_at hl 5 rfl) ?_
  refine lv_iconst (v := nI 0) hx hb dL_piece_2 (by decide) ?_
  refine lv_aload_n hx hb dL_piece_3 rfl (lv_at hl 0 rfl) ?_
  refine lv_iload_n hx hb dL_piece_4 rfl (lv_at hl 1 rfl) ?_
  refine lv_iload_n hx hb dL_piece_5 rfl (lv_at hl 2 rfl) ?_
  refine lv_iload_n hx hb dL_piece_6 rfl (lv_at hl 3 rfl) ?_
  refine lv_iload hx hb dL_piece_7 (lv_at hl 4 rfl) ?_
  refine hv_calli (w1 := fun u : (Nat → Int32) × (Nat → Int32) × (Nat → Int32) × Int32 × Int32 => ((x0, .inr (3, [.ref hh, .ref h, .ref w, .ref k0]))) :: [(h, .inr (1, [.ref a1, .ref a2, .ref a3, .ref a4, .ref a5, .int u.2.2.2.1, .int u.2.2.2.2])), (a3, .inl (cI, 5, .inl u.1)), (a4, .inl (cI, 5, .inl u.2.1)), (a5, .inl (cZ, 5, .inl u.2.2.1))]) (va_runV (C := RX3) (b := x0) (As := [.int (nI 1), .int (nI a), .int (nI b), .int (hc_b o)]) (rest := [.int (nI 0), .ref ou]) ⟨hx, hb, hml, hown, htg⟩ (k_X3_piece1 l D cI cZ cJ _ a b o n Fr To Li nm h a1 a2 a3 a4 a5 x0 hh w k0 ha hb6 hn) (cwV 4 htg (hg_V hm_303 hm_304 hm_305 hm_1 hm_306) rfl rfl rfl (by decide +kernel) ⟨Nat.le_of_ble_eq_true rfl, Nat.le_of_ble_eq_true rfl⟩) ⟨hp_M_blind, va_recv (q := (RX3, TX3, 4)) (q0 := 0) (ci := 3) hK hP rfl rfl, hp_M_pre (hP.sub (ws' := [(x0, .inr (3, [.ref hh, .ref h, .ref w, .ref k0])), (h, .inr (1, [.ref a1, .ref a2, .ref a3, .ref a4, .ref a5, .int (nI n), .int nm])), (a3, .inl (cI, 5, .inl Fr)), (a4, .inl (cI, 5, .inl To)), (a5, .inl (cZ, 5, .inl Li))]) [0, 1, 2, 3, 4] rfl) (hD.sub (ws' := [(x0, .inr (3, [.ref hh, .ref h, .ref w, .ref k0])), (h, .inr (1, [.ref a1, .ref a2, .ref a3, .ref a4, .ref a5, .int (nI n), .int nm])), (a3, .inl (cI, 5, .inl Fr)), (a4, .inl (cI, 5, .inl To)), (a5, .inl (cZ, 5, .inl Li))]) [0, 1, 2, 3, 4] (by decide) rfl) hz⟩ rfl rfl hl.1 rfl (lv_room (Nat.le_of_ble_eq_true rfl)) dL_piece_9 ⟨Nat.zero_le _, Nat.zero_le _⟩) hP hD hS hA [0, 1, 2, 3, 4] rfl (fun _ => rfl) (fun r9 u1 H locs h1 hP hD hS => ?_)
  replace hP : va_P D vwCl ((((x0, .inr (3, [.ref hh, .ref h, .ref w, .ref k0]))) :: [(h, .inr (1, [.ref a1, .ref a2, .ref a3, .ref a4, .ref a5, .int u1.2.2.2.1, .int u1.2.2.2.2])), (a3, .inl (cI, 5, .inl u1.1)), (a4, .inl (cI, 5, .inl u1.2.1)), (a5, .inl (cZ, 5, .inl u1.2.2.1))]) ++ [(ou, .inl (cJ, 1, .inr (.inl OU)))]) H := hP
  refine lv_i2l (v := r9.toInt64) hx hb dL_piece_12 rfl ?_
  refine va_last hx hb hK hP hD hS 5 2 rfl rfl (i := nI 0) (x := r9.toInt64) (nI_in (c := 0) (N := 1) (by omega) (by omega)) dL_piece_13 (fun H locs hP hD hS => ?_)
  replace hP : va_P D vwCl ((((x0, .inr (3, [.ref hh, .ref h, .ref w, .ref k0]))) :: [(h, .inr (1, [.ref a1, .ref a2, .ref a3, .ref a4, .ref a5, .int u1.2.2.2.1, .int u1.2.2.2.2])), (a3, .inl (cI, 5, .inl u1.1)), (a4, .inl (cI, 5, .inl u1.2.1)), (a5, .inl (cZ, 5, .inl u1.2.2.1))]) ++ [(ou, .inl (cJ, 1, .inr (.inl (vp_updL OU (nI 0).toNatClampNeg r9.toInt64))))]) H := hP
  refine lv_goto hx hb dL_piece_14 rfl ?_
  refine lv_iconst (v := nI 0) hx hb dL_piece_25 (by decide) ?_
  exact W.iret (v := nI 0) hx hb hr (fun t9 ht9 hW9 => ⟨⟨_, (u1, vp_updL OU (nI 0).toNatClampNeg r9.toInt64), rfl, ⟨rfl, _, h1, by show vp_updL OU (nI 0).toNatClampNeg r9.toInt64 0 = _; rw [show (nI 0).toNatClampNeg = 0 from by decide]; unfold vp_updL; rw [if_pos rfl]⟩, by show va_P D vwCl ((((x0, .inr (3, [.ref hh, .ref h, .ref w, .ref k0]))) :: [(h, .inr (1, [.ref a1, .ref a2, .ref a3, .ref a4, .ref a5, .int u1.2.2.2.1, .int u1.2.2.2.2])), (a3, .inl (cI, 5, .inl u1.1)), (a4, .inl (cI, 5, .inl u1.2.1)), (a5, .inl (cZ, 5, .inl u1.2.2.1))]) ++ [(ou, .inl (cJ, 1, .inr (.inl (vp_updL OU (nI 0).toNatClampNeg r9.toInt64))))]) t9.heap; rw [ht9]; exact hP⟩, hS.F ht9⟩) hS.2.2 dL_piece_26

set_option maxHeartbeats 4000000 in
set_option maxRecDepth 100000 in
/-- it answers -/
theorem kh_pieces1 (l : Launch) (D : va_G) (cI cZ cJ : ClassId) (sz : Nat) (n : Nat) (nm : Int32) (h a1 a2 a3 a4 a5 : Nat) (x0 hh w k0 : Nat) (OU : Nat → Int64) (ou : Nat) : Met l yL_pieces (Cond.codeWith yL_pieces cL_pieces 4 (some .int) [(0, 9, 12, 13)] :: hwG) { frames := 2, cells := 0, slots := 0, locals := 42 } (hp_M [.ref x0, .int (nI 1), .ref ou] D cI cZ cJ [(x0, .inr (3, [.ref hh, .ref h, .ref w, .ref k0])), (h, .inr (1, [.ref a1, .ref a2, .ref a3, .ref a4, .ref a5, .int (nI n), .int nm])), (ou, .inl (cJ, 1, .inr (.inl OU)))] sz) (va_Qi (S := Unit × (Nat → Int64)) (fun r u => r = nI 0 ∧ ∃ r9, (fun r => r = nI n) r9 ∧ u.2 0 = r9.toInt64) (fun u t => va_P D vwCl ([(x0, .inr (3, [.ref hh, .ref h, .ref w, .ref k0])), (h, .inr (1, [.ref a1, .ref a2, .ref a3, .ref a4, .ref a5, .int (nI n), .int nm]))] ++ [(ou, .inl (cJ, 1, .inr (.inl u.2)))]) t.heap) (va_A [(x0, .inr (3, [.ref hh, .ref h, .ref w, .ref k0])), (h, .inr (1, [.ref a1, .ref a2, .ref a3, .ref a4, .ref a5, .int (nI n), .int nm])), (ou, .inl (cJ, 1, .inr (.inl OU)))] sz)) 0 0 (va_A [(x0, .inr (3, [.ref hh, .ref h, .ref w, .ref k0])), (h, .inr (1, [.ref a1, .ref a2, .ref a3, .ref a4, .ref a5, .int (nI n), .int nm])), (ou, .inl (cJ, 1, .inr (.inl OU)))] sz) := by
  refine va_MetW (cc := cL_pieces) (maxL := 4) (ret := (some .int)) (hh := [(0, 9, 12, 13)]) (by decide) rfl ?_
  intro p e s m args below meth c s₁ B hml hv
  obtain ⟨rfl, hsz, hP, hz, hD0⟩ := hv
  have hx := B.exec
  have hb := B.bytes
  have hr := B.returns
  have hts := atoms_spec (ws := (Cond.codeWith yL_pieces cL_pieces 4 (some .int) [(0, 9, 12, 13)] :: hwG)) B.pre
  have htg := fun w h => hts w (List.mem_cons_of_mem _ h)
  have hown : s.vm.findClass RL = some m.cls := findClass_of_methodNamed B.named
  have hlocks := B.notSynchronized
  have hK := hz.1
  have htab := hw_tab (hts _ List.mem_cons_self) B.named B.method (Stand.of_body B).code
  subst hsz
  have hD := hD0.self (sz := s.heap.size)
  generalize hAe : va_A [(x0, .inr (3, [.ref hh, .ref h, .ref w, .ref k0])), (h, .inr (1, [.ref a1, .ref a2, .ref a3, .ref a4, .ref a5, .int (nI n), .int nm])), (ou, .inl (cJ, 1, .inr (.inl OU)))] s.heap.size = A at hD ⊢
  have hA : ∀ q : Nat, s.heap.size ≤ q → A q := fun q h => by rw [← hAe]; exact Or.inr h
  have hS : va_S A s.heap s.heap [] := va_S.rf
  have hl := lv_entry ([.ref x0, .int (nI 1), .ref ou]) (n := 4) (Nat.le_of_ble_eq_true rfl)
  rw [lg_entry_eq]
  generalize (lg_sl ([.ref x0, .int (nI 1), .ref ou]) ++ List.replicate (4 - (lg_sl ([.ref x0, .int (nI 1), .ref ou])).length) Slot.unset).toArray = ls at hl ⊢
  replace hl : lv_has ls 4 [(0, .ref x0), (1, .int (nI 1)), (2, .ref ou)] := hl
  replace hP : va_P D vwCl [(x0, .inr (3, [.ref hh, .ref h, .ref w, .ref k0])), (h, .inr (1, [.ref a1, .ref a2, .ref a3, .ref a4, .ref a5, .int (nI n), .int nm])), (ou, .inl (cJ, 1, .inr (.inl OU)))] s.heap := hP
  refine lv_aload_n hx hb dL_pieces_0 rfl (lv_at hl 2 rfl) ?_
  refine lv_iconst (v := nI 0) hx hb dL_pieces_1 (by decide) ?_
  refine lv_aload_n hx hb dL_pieces_2 rfl (lv_at hl 0 rfl) ?_
  refine lv_iload_n hx hb dL_pieces_3 rfl (lv_at hl 1 rfl) ?_
  refine hw_csi (va_runV (C := RX3) (b := x0) (As := [.int (nI 1)]) (rest := [.int (nI 0), .ref ou]) ⟨hx, hb, hml, hown, htg⟩ (k_X3_pieces1 l D cI cZ cJ n nm h a1 a2 a3 a4 a5 x0 hh w k0) (cwV 1 htg (hg_V hm_342 hm_343 hm_344 hm_1 hm_345) rfl rfl rfl (by decide +kernel) ⟨Nat.le_of_ble_eq_true rfl, Nat.le_of_ble_eq_true rfl⟩) ⟨hp_R_blind, va_recv (q := (RX3, TX3, 4)) (q0 := 0) (ci := 3) hK hP rfl rfl, hp_R_pre (hP.sub (ws' := [(x0, .inr (3, [.ref hh, .ref h, .ref w, .ref k0])), (h, .inr (1, [.ref a1, .ref a2, .ref a3, .ref a4, .ref a5, .int (nI n), .int nm]))]) [0, 1] rfl) hz⟩ rfl rfl hl.1 rfl (lv_room (Nat.le_of_ble_eq_true rfl)) dL_pieces_4 ⟨Nat.zero_le _, Nat.zero_le _⟩) (fun r9 h1 => ?_)
  replace hP : va_P D vwCl ([(x0, .inr (3, [.ref hh, .ref h, .ref w, .ref k0])), (h, .inr (1, [.ref a1, .ref a2, .ref a3, .ref a4, .ref a5, .int (nI n), .int nm]))] ++ [(ou, .inl (cJ, 1, .inr (.inl OU)))]) s.heap := hP
  refine lv_i2l (v := r9.toInt64) hx hb dL_pieces_7 rfl ?_
  refine va_last hx hb hK hP hD hS 2 2 rfl rfl (i := nI 0) (x := r9.toInt64) (nI_in (c := 0) (N := 1) (by omega) (by omega)) dL_pieces_8 (fun H locs hP hD hS => ?_)
  replace hP : va_P D vwCl ([(x0, .inr (3, [.ref hh, .ref h, .ref w, .ref k0])), (h, .inr (1, [.ref a1, .ref a2, .ref a3, .ref a4, .ref a5, .int (nI n), .int nm]))] ++ [(ou, .inl (cJ, 1, .inr (.inl (vp_updL OU (nI 0).toNatClampNeg r9.toInt64))))]) H := hP
  refine lv_goto hx hb dL_pieces_9 rfl ?_
  refine lv_iconst (v := nI 0) hx hb dL_pieces_15 (by decide) ?_
  exact W.iret (v := nI 0) hx hb hr (fun t9 ht9 hW9 => ⟨⟨_, ((), vp_updL OU (nI 0).toNatClampNeg r9.toInt64), rfl, ⟨rfl, _, h1, by show vp_updL OU (nI 0).toNatClampNeg r9.toInt64 0 = _; rw [show (nI 0).toNatClampNeg = 0 from by decide]; unfold vp_updL; rw [if_pos rfl]⟩, by show va_P D vwCl ([(x0, .inr (3, [.ref hh, .ref h, .ref w, .ref k0])), (h, .inr (1, [.ref a1, .ref a2, .ref a3, .ref a4, .ref a5, .int (nI n), .int nm]))] ++ [(ou, .inl (cJ, 1, .inr (.inl (vp_updL OU (nI 0).toNatClampNeg r9.toInt64))))]) t9.heap; rw [ht9]; exact hP⟩, hS.F ht9⟩) hS.2.2 dL_pieces_16

set_option maxHeartbeats 4000000 in
set_option maxRecDepth 100000 in
/-- it answers -/
theorem kh_possible1 (l : Launch) (D : va_G) (cI cZ cJ : ClassId) (sz : Nat) (M : Nat) (sm ot : Nat → Nat → Bool) (n : Nat) (fr to : Nat → Nat) (li : Nat → Bool) (S O Fr To Li : Nat → Int32) (nm : Int32) (h a1 a2 a3 a4 a5 : Nat) (nmC : Int32) (EN LG BI VQ : Nat → Int32) (fl : Int32) (k0 g q0 q1 q2 q3 : Nat) (x0 hh w : Nat) (OU : Nat → Int64) (ou : Nat) (hC : hs_cl S O Fr To Li sm ot n fr to li) (hM32 : M < 32) (hM : ∀ t, t < 5 → bt nm t = M.testBit t) : Met l yL_possible (Cond.codeWith yL_possible cL_possible 4 (some .int) [(0, 16, 19, 13)] :: hwG) { frames := 4, cells := 0, slots := 0, locals := 95 } (hp_M [.ref x0, .int (nI 1), .ref ou] D cI cZ cJ [(x0, .inr (3, [.ref hh, .ref h, .ref w, .ref k0])), (h, .inr (1, [.ref a1, .ref a2, .ref a3, .ref a4, .ref a5, .int (nI n), .int nm])), (a1, .inl (cI, 6, .inl S)), (a2, .inl (cI, 6, .inl O)), (a3, .inl (cI, 5, .inl Fr)), (a4, .inl (cI, 5, .inl To)), (a5, .inl (cZ, 5, .inl Li)), (k0, .inr (0, [.ref g, .int nmC])), (g, .inr (2, [.ref q0, .int (nI 5), .ref q1, .ref q2, .ref q3, .int fl])), (q0, .inl (cI, 6, .inl VQ)), (q1, .inl (cI, 5 + 1, .inl EN)), (q2, .inl (cZ, 5 + 1, .inl LG)), (q3, .inl (cI, 5 + 1, .inl BI)), (ou, .inl (cJ, 1, .inr (.inl OU)))] sz) (va_Qi (S := ((Nat → Int32) × (Nat → Int32) × (Nat → Int32) × (Nat → Int32) × Int32) × (Nat → Int64)) (fun r u => r = nI 0 ∧ ∃ r9, (fun r _ => hc_r r (∃ l, l ∈ hc_cas M ∧ hc_A sm ot n fr to li (fun t => l.getD t 0))) r9 u.1 ∧ u.2 0 = r9.toInt64) (fun u t => va_P D vwCl (([(x0, .inr (3, [.ref hh, .ref h, .ref w, .ref k0])), (h, .inr (1, [.ref a1, .ref a2, .ref a3, .ref a4, .ref a5, .int (nI n), .int nm])), (a1, .inl (cI, 6, .inl S)), (a2, .inl (cI, 6, .inl O)), (a3, .inl (cI, 5, .inl Fr)), (a4, .inl (cI, 5, .inl To)), (a5, .inl (cZ, 5, .inl Li)), (k0, .inr (0, [.ref g, .int nm])), (g, .inr (2, [.ref q0, .int (nI 5), .ref q1, .ref q2, .ref q3, .int u.1.2.2.2.2])), (q0, .inl (cI, 6, .inl u.1.1)), (q1, .inl (cI, 5 + 1, .inl u.1.2.1)), (q2, .inl (cZ, 5 + 1, .inl u.1.2.2.1)), (q3, .inl (cI, 5 + 1, .inl u.1.2.2.2.1))]) ++ [(ou, .inl (cJ, 1, .inr (.inl u.2)))]) t.heap) (va_A [(x0, .inr (3, [.ref hh, .ref h, .ref w, .ref k0])), (h, .inr (1, [.ref a1, .ref a2, .ref a3, .ref a4, .ref a5, .int (nI n), .int nm])), (a1, .inl (cI, 6, .inl S)), (a2, .inl (cI, 6, .inl O)), (a3, .inl (cI, 5, .inl Fr)), (a4, .inl (cI, 5, .inl To)), (a5, .inl (cZ, 5, .inl Li)), (k0, .inr (0, [.ref g, .int nmC])), (g, .inr (2, [.ref q0, .int (nI 5), .ref q1, .ref q2, .ref q3, .int fl])), (q0, .inl (cI, 6, .inl VQ)), (q1, .inl (cI, 5 + 1, .inl EN)), (q2, .inl (cZ, 5 + 1, .inl LG)), (q3, .inl (cI, 5 + 1, .inl BI)), (ou, .inl (cJ, 1, .inr (.inl OU)))] sz)) 0 0 (va_A [(x0, .inr (3, [.ref hh, .ref h, .ref w, .ref k0])), (h, .inr (1, [.ref a1, .ref a2, .ref a3, .ref a4, .ref a5, .int (nI n), .int nm])), (a1, .inl (cI, 6, .inl S)), (a2, .inl (cI, 6, .inl O)), (a3, .inl (cI, 5, .inl Fr)), (a4, .inl (cI, 5, .inl To)), (a5, .inl (cZ, 5, .inl Li)), (k0, .inr (0, [.ref g, .int nmC])), (g, .inr (2, [.ref q0, .int (nI 5), .ref q1, .ref q2, .ref q3, .int fl])), (q0, .inl (cI, 6, .inl VQ)), (q1, .inl (cI, 5 + 1, .inl EN)), (q2, .inl (cZ, 5 + 1, .inl LG)), (q3, .inl (cI, 5 + 1, .inl BI)), (ou, .inl (cJ, 1, .inr (.inl OU)))] sz) := by
  refine va_MetW (cc := cL_possible) (maxL := 4) (ret := (some .int)) (hh := [(0, 16, 19, 13)]) (by decide) rfl ?_
  intro p e s m args below meth c s₁ B hml hv
  obtain ⟨rfl, hsz, hP, hz, hD0⟩ := hv
  have hx := B.exec
  have hb := B.bytes
  have hr := B.returns
  have hts := atoms_spec (ws := (Cond.codeWith yL_possible cL_possible 4 (some .int) [(0, 16, 19, 13)] :: hwG)) B.pre
  have htg := fun w h => hts w (List.mem_cons_of_mem _ h)
  have hown : s.vm.findClass RL = some m.cls := findClass_of_methodNamed B.named
  have hlocks := B.notSynchronized
  have hK := hz.1
  have htab := hw_tab (hts _ List.mem_cons_self) B.named B.method (Stand.of_body B).code
  subst hsz
  have hD := hD0.self (sz := s.heap.size)
  generalize hAe : va_A [(x0, .inr (3, [.ref hh, .ref h, .ref w, .ref k0])), (h, .inr (1, [.ref a1, .ref a2, .ref a3, .ref a4, .ref a5, .int (nI n), .int nm])), (a1, .inl (cI, 6, .inl S)), (a2, .inl (cI, 6, .inl O)), (a3, .inl (cI, 5, .inl Fr)), (a4, .inl (cI, 5, .inl To)), (a5, .inl (cZ, 5, .inl Li)), (k0, .inr (0, [.ref g, .int nmC])), (g, .inr (2, [.ref q0, .int (nI 5), .ref q1, .ref q2, .ref q3, .int fl])), (q0, .inl (cI, 6, .inl VQ)), (q1, .inl (cI, 5 + 1, .inl EN)), (q2, .inl (cZ, 5 + 1, .inl LG)), (q3, .inl (cI, 5 + 1, .inl BI)), (ou, .inl (cJ, 1, .inr (.inl OU)))] s.heap.size = A at hD ⊢
  have hA : ∀ q : Nat, s.heap.size ≤ q → A q := fun q h => by rw [← hAe]; exact Or.inr h
  have hS : va_S A s.heap s.heap [] := va_S.rf
  have hl := lv_entry ([.ref x0, .int (nI 1), .ref ou]) (n := 4) (Nat.le_of_ble_eq_true rfl)
  rw [lg_entry_eq]
  generalize (lg_sl ([.ref x0, .int (nI 1), .ref ou]) ++ List.replicate (4 - (lg_sl ([.ref x0, .int (nI 1), .ref ou])).length) Slot.unset).toArray = ls at hl ⊢
  replace hl : lv_has ls 4 [(0, .ref x0), (1, .int (nI 1)), (2, .ref ou)] := hl
  replace hP : va_P D vwCl [(x0, .inr (3, [.ref hh, .ref h, .ref w, .ref k0])), (h, .inr (1, [.ref a1, .ref a2, .ref a3, .ref a4, .ref a5, .int (nI n), .int nm])), (a1, .inl (cI, 6, .inl S)), (a2, .inl (cI, 6, .inl O)), (a3, .inl (cI, 5, .inl Fr)), (a4, .inl (cI, 5, .inl To)), (a5, .inl (cZ, 5, .inl Li)), (k0, .inr (0, [.ref g, .int nmC])), (g, .inr (2, [.ref q0, .int (nI 5), .ref q1, .ref q2, .ref q3, .int fl])), (q0, .inl (cI, 6, .inl VQ)), (q1, .inl (cI, 5 + 1, .inl EN)), (q2, .inl (cZ, 5 + 1, .inl LG)), (q3, .inl (cI, 5 + 1, .inl BI)), (ou, .inl (cJ, 1, .inr (.inl OU)))] s.heap := hP
  refine lv_aload_n hx hb dL_possible_0 rfl (lv_at hl 2 rfl) ?_
  refine lv_iconst (v := nI 0) hx hb dL_possible_1 (by decide) ?_
  refine lv_aload_n hx hb dL_possible_2 rfl (lv_at hl 0 rfl) ?_
  refine lv_iload_n hx hb dL_possible_3 rfl (lv_at hl 1 rfl) ?_
  refine hv_calli (w1 := fun u : (Nat → Int32) × (Nat → Int32) × (Nat → Int32) × (Nat → Int32) × Int32 => [(x0, .inr (3, [.ref hh, .ref h, .ref w, .ref k0])), (h, .inr (1, [.ref a1, .ref a2, .ref a3, .ref a4, .ref a5, .int (nI n), .int nm])), (a1, .inl (cI, 6, .inl S)), (a2, .inl (cI, 6, .inl O)), (a3, .inl (cI, 5, .inl Fr)), (a4, .inl (cI, 5, .inl To)), (a5, .inl (cZ, 5, .inl Li)), (k0, .inr (0, [.ref g, .int nm])), (g, .inr (2, [.ref q0, .int (nI 5), .ref q1, .ref q2, .ref q3, .int u.2.2.2.2])), (q0, .inl (cI, 6, .inl u.1)), (q1, .inl (cI, 5 + 1, .inl u.2.1)), (q2, .inl (cZ, 5 + 1, .inl u.2.2.1)), (q3, .inl (cI, 5 + 1, .inl u.2.2.2.1))]) (va_runV (C := RX3) (b := x0) (As := [.int (nI 1)]) (rest := [.int (nI 0), .ref ou]) ⟨hx, hb, hml, hown, htg⟩ (k_X3_possible1 l D cI cZ cJ _ M sm ot n fr to li S O Fr To Li nm h a1 a2 a3 a4 a5 nmC EN LG BI VQ fl k0 g q0 q1 q2 q3 x0 hh w hC hM32 hM) (cwV 1 htg (hg_V hm_349 hm_350 hm_351 hm_1 hm_352) rfl rfl rfl (by decide +kernel) ⟨Nat.le_of_ble_eq_true rfl, Nat.le_of_ble_eq_true rfl⟩) ⟨hp_M_blind, va_recv (q := (RX3, TX3, 4)) (q0 := 0) (ci := 3) hK hP rfl rfl, hp_M_pre (hP.sub (ws' := [(x0, .inr (3, [.ref hh, .ref h, .ref w, .ref k0])), (h, .inr (1, [.ref a1, .ref a2, .ref a3, .ref a4, .ref a5, .int (nI n), .int nm])), (a1, .inl (cI, 6, .inl S)), (a2, .inl (cI, 6, .inl O)), (a3, .inl (cI, 5, .inl Fr)), (a4, .inl (cI, 5, .inl To)), (a5, .inl (cZ, 5, .inl Li)), (k0, .inr (0, [.ref g, .int nmC])), (g, .inr (2, [.ref q0, .int (nI 5), .ref q1, .ref q2, .ref q3, .int fl])), (q0, .inl (cI, 6, .inl VQ)), (q1, .inl (cI, 5 + 1, .inl EN)), (q2, .inl (cZ, 5 + 1, .inl LG)), (q3, .inl (cI, 5 + 1, .inl BI))]) [0, 1, 2, 3, 4, 5, 6, 7, 8, 9, 10, 11, 12] rfl) (hD.sub (ws' := [(x0, .inr (3, [.ref hh, .ref h, .ref w, .ref k0])), (h, .inr (1, [.ref a1, .ref a2, .ref a3, .ref a4, .ref a5, .int (nI n), .int nm])), (a1, .inl (cI, 6, .inl S)), (a2, .inl (cI, 6, .inl O)), (a3, .inl (cI, 5, .inl Fr)), (a4, .inl (cI, 5, .inl To)), (a5, .inl (cZ, 5, .inl Li)), (k0, .inr (0, [.ref g, .int nmC])), (g, .inr (2, [.ref q0, .int (nI 5), .ref q1, .ref q2, .ref q3, .int fl])), (q0, .inl (cI, 6, .inl VQ)), (q1, .inl (cI, 5 + 1, .inl EN)), (q2, .inl (cZ, 5 + 1, .inl LG)), (q3, .inl (cI, 5 + 1, .inl BI))]) [0, 1, 2, 3, 4, 5, 6, 7, 8, 9, 10, 11, 12] (by decide) rfl) hz⟩ rfl rfl hl.1 rfl (lv_room (Nat.le_of_ble_eq_true rfl)) dL_possible_4 ⟨Nat.zero_le _, Nat.zero_le _⟩) hP hD hS hA [0, 1, 2, 3, 4, 5, 6, 7, 8, 9, 10, 11, 12] rfl (fun _ => rfl) (fun r9 u1 H locs h1 hP hD hS => ?_)
  replace hP : va_P D vwCl (([(x0, .inr (3, [.ref hh, .ref h, .ref w, .ref k0])), (h, .inr (1, [.ref a1, .ref a2, .ref a3, .ref a4, .ref a5, .int (nI n), .int nm])), (a1, .inl (cI, 6, .inl S)), (a2, .inl (cI, 6, .inl O)), (a3, .inl (cI, 5, .inl Fr)), (a4, .inl (cI, 5, .inl To)), (a5, .inl (cZ, 5, .inl Li)), (k0, .inr (0, [.ref g, .int nm])), (g, .inr (2, [.ref q0, .int (nI 5), .ref q1, .ref q2, .ref q3, .int u1.2.2.2.2])), (q0, .inl (cI, 6, .inl u1.1)), (q1, .inl (cI, 5 + 1, .inl u1.2.1)), (q2, .inl (cZ, 5 + 1, .inl u1.2.2.1)), (q3, .inl (cI, 5 + 1, .inl u1.2.2.2.1))]) ++ [(ou, .inl (cJ, 1, .inr (.inl OU)))]) H := hP
  rcases h1 with ⟨rfl, h1⟩ | ⟨rfl, h1⟩
  · refine lv_if_eq hx hb dL_possible_7 rfl (fun hc9 => absurd hc9 (by decide)) (fun hc9 => ?_)
    refine lv_lconst (v := 1) hx hb dL_possible_10 rfl ?_
    refine lv_goto hx hb dL_possible_11 rfl ?_
    refine va_last hx hb hK hP hD hS 13 2 rfl rfl (i := nI 0) (x := 1) (nI_in (c := 0) (N := 1) (by omega) (by omega)) dL_possible_15 (fun H locs hP hD hS => ?_)
    replace hP : va_P D vwCl (([(x0, .inr (3, [.ref hh, .ref h, .ref w, .ref k0])), (h, .inr (1, [.ref a1, .ref a2, .ref a3, .ref a4, .ref a5, .int (nI n), .int nm])), (a1, .inl (cI, 6, .inl S)), (a2, .inl (cI, 6, .inl O)), (a3, .inl (cI, 5, .inl Fr)), (a4, .inl (cI, 5, .inl To)), (a5, .inl (cZ, 5, .inl Li)), (k0, .inr (0, [.ref g, .int nm])), (g, .inr (2, [.ref q0, .int (nI 5), .ref q1, .ref q2, .ref q3, .int u1.2.2.2.2])), (q0, .inl (cI, 6, .inl u1.1)), (q1, .inl (cI, 5 + 1, .inl u1.2.1)), (q2, .inl (cZ, 5 + 1, .inl u1.2.2.1)), (q3, .inl (cI, 5 + 1, .inl u1.2.2.2.1))]) ++ [(ou, .inl (cJ, 1, .inr (.inl (vp_updL OU (nI 0).toNatClampNeg 1))))]) H := hP
    refine lv_goto hx hb dL_possible_16 rfl ?_
    refine lv_iconst (v := nI 0) hx hb dL_possible_22 (by decide) ?_
    exact W.iret (v := nI 0) hx hb hr (fun t9 ht9 hW9 => ⟨⟨_, (u1, vp_updL OU (nI 0).toNatClampNeg 1), rfl, ⟨rfl, _, Or.inl ⟨rfl, h1⟩, by show vp_updL OU (nI 0).toNatClampNeg 1 0 = _; rw [show (nI 0).toNatClampNeg = 0 from by decide]; unfold vp_updL; rw [if_pos rfl]; decide⟩, by show va_P D vwCl (([(x0, .inr (3, [.ref hh, .ref h, .ref w, .ref k0])), (h, .inr (1, [.ref a1, .ref a2, .ref a3, .ref a4, .ref a5, .int (nI n), .int nm])), (a1, .inl (cI, 6, .inl S)), (a2, .inl (cI, 6, .inl O)), (a3, .inl (cI, 5, .inl Fr)), (a4, .inl (cI, 5, .inl To)), (a5, .inl (cZ, 5, .inl Li)), (k0, .inr (0, [.ref g, .int nm])), (g, .inr (2, [.ref q0, .int (nI 5), .ref q1, .ref q2, .ref q3, .int u1.2.2.2.2])), (q0, .inl (cI, 6, .inl u1.1)), (q1, .inl (cI, 5 + 1, .inl u1.2.1)), (q2, .inl (cZ, 5 + 1, .inl u1.2.2.1)), (q3, .inl (cI, 5 + 1, .inl u1.2.2.2.1))]) ++ [(ou, .inl (cJ, 1, .inr (.inl (vp_updL OU (nI 0).toNatClampNeg 1))))]) t9.heap; rw [ht9]; exact hP⟩, hS.F ht9⟩) hS.2.2 dL_possible_23
  · refine lv_if_eq hx hb dL_possible_7 rfl (fun hc9 => ?_) (fun hc9 => absurd rfl hc9)
    refine lv_lconst (v := 0) hx hb dL_possible_14 rfl ?_
    refine va_last hx hb hK hP hD hS 13 2 rfl rfl (i := nI 0) (x := 0) (nI_in (c := 0) (N := 1) (by omega) (by omega)) dL_possible_15 (fun H locs hP hD hS => ?_)
    replace hP : va_P D vwCl (([(x0, .inr (3, [.ref hh, .ref h, .ref w, .ref k0])), (h, .inr (1, [.ref a1, .ref a2, .ref a3, .ref a4, .ref a5, .int (nI n), .int nm])), (a1, .inl (cI, 6, .inl S)), (a2, .inl (cI, 6, .inl O)), (a3, .inl (cI, 5, .inl Fr)), (a4, .inl (cI, 5, .inl To)), (a5, .inl (cZ, 5, .inl Li)), (k0, .inr (0, [.ref g, .int nm])), (g, .inr (2, [.ref q0, .int (nI 5), .ref q1, .ref q2, .ref q3, .int u1.2.2.2.2])), (q0, .inl (cI, 6, .inl u1.1)), (q1, .inl (cI, 5 + 1, .inl u1.2.1)), (q2, .inl (cZ, 5 + 1, .inl u1.2.2.1)), (q3, .inl (cI, 5 + 1, .inl u1.2.2.2.1))]) ++ [(ou, .inl (cJ, 1, .inr (.inl (vp_updL OU (nI 0).toNatClampNeg 0))))]) H := hP
    refine lv_goto hx hb dL_possible_16 rfl ?_
    refine lv_iconst (v := nI 0) hx hb dL_possible_22 (by decide) ?_
    exact W.iret (v := nI 0) hx hb hr (fun t9 ht9 hW9 => ⟨⟨_, (u1, vp_updL OU (nI 0).toNatClampNeg 0), rfl, ⟨rfl, _, Or.inr ⟨rfl, h1⟩, by show vp_updL OU (nI 0).toNatClampNeg 0 0 = _; rw [show (nI 0).toNatClampNeg = 0 from by decide]; unfold vp_updL; rw [if_pos rfl]; decide⟩, by show va_P D vwCl (([(x0, .inr (3, [.ref hh, .ref h, .ref w, .ref k0])), (h, .inr (1, [.ref a1, .ref a2, .ref a3, .ref a4, .ref a5, .int (nI n), .int nm])), (a1, .inl (cI, 6, .inl S)), (a2, .inl (cI, 6, .inl O)), (a3, .inl (cI, 5, .inl Fr)), (a4, .inl (cI, 5, .inl To)), (a5, .inl (cZ, 5, .inl Li)), (k0, .inr (0, [.ref g, .int nm])), (g, .inr (2, [.ref q0, .int (nI 5), .ref q1, .ref q2, .ref q3, .int u1.2.2.2.2])), (q0, .inl (cI, 6, .inl u1.1)), (q1, .inl (cI, 5 + 1, .inl u1.2.1)), (q2, .inl (cZ, 5 + 1, .inl u1.2.2.1)), (q3, .inl (cI, 5 + 1, .inl u1.2.2.2.1))]) ++ [(ou, .inl (cJ, 1, .inr (.inl (vp_updL OU (nI 0).toNatClampNeg 0))))]) t9.heap; rw [ht9]; exact hP⟩, hS.F ht9⟩) hS.2.2 dL_possible_23

set_option maxHeartbeats 4000000 in
set_option maxRecDepth 100000 in
/-- it answers -/
theorem kh_sure (l : Launch) (D : va_G) (cI cZ cJ : ClassId) (sz : Nat) (M wh a b : Nat) (sm ot : Nat → Nat → Bool) (n : Nat) (fr to : Nat → Nat) (li : Nat → Bool) (S O Fr To Li : Nat → Int32) (nm : Int32) (h a1 a2 a3 a4 a5 : Nat) (nmC : Int32) (EN LG BI VQ : Nat → Int32) (fl : Int32) (k0 g q0 q1 q2 q3 : Nat) (x0 hh w : Nat) (OU : Nat → Int64) (ou : Nat) (hC : hs_cl S O Fr To Li sm ot n fr to li) (hM32 : M < 32) (hM : ∀ t, t < 5 → bt ((nm ||| nI 1 <<< (nI a &&& 31)) ||| nI 1 <<< (nI b &&& 31)) t = M.testBit t) (hwh : wh < 3) (ha : a < 6) (hb9 : b < 6) : Met l yL_sure (Cond.codeWith yL_sure cL_sure 6 (some .int) [(0, 19, 22, 13), (0, 19, 26, 37)] :: hwG) { frames := 4, cells := 0, slots := 0, locals := 96 } (hp_M [.ref x0, .int (nI wh), .int (nI a), .int (nI b), .ref ou] D cI cZ cJ [(x0, .inr (3, [.ref h, .ref hh, .ref w, .ref k0])), (h, .inr (1, [.ref a1, .ref a2, .ref a3, .ref a4, .ref a5, .int (nI n), .int nm])), (a1, .inl (cI, 6, .inl S)), (a2, .inl (cI, 6, .inl O)), (a3, .inl (cI, 5, .inl Fr)), (a4, .inl (cI, 5, .inl To)), (a5, .inl (cZ, 5, .inl Li)), (k0, .inr (0, [.ref g, .int nmC])), (g, .inr (2, [.ref q0, .int (nI 5), .ref q1, .ref q2, .ref q3, .int fl])), (q0, .inl (cI, 6, .inl VQ)), (q1, .inl (cI, 5 + 1, .inl EN)), (q2, .inl (cZ, 5 + 1, .inl LG)), (q3, .inl (cI, 5 + 1, .inl BI)), (ou, .inl (cJ, 1, .inr (.inl OU)))] sz) (va_Qi (S := ((Nat → Int32) × (Nat → Int32) × (Nat → Int32) × (Nat → Int32) × Int32) × (Nat → Int64)) (fun r u => r = nI 0 ∧ ∃ r9, (fun r _ => hc_r r (∀ l, l ∈ hc_cas M → hc_A sm ot n fr to li (fun t => l.getD t 0) → hs_so wh (l.getD a 0) (l.getD b 0) (∃ p, p < n ∧ hc_Nv fr to li (fun t => l.getD t 0) p ∧ l.getD (fr p) 0 = l.getD a 0))) r9 u.1 ∧ u.2 0 = r9.toInt64) (fun u t => va_P D vwCl (([(x0, .inr (3, [.ref h, .ref hh, .ref w, .ref k0])), (h, .inr (1, [.ref a1, .ref a2, .ref a3, .ref a4, .ref a5, .int (nI n), .int nm])), (a1, .inl (cI, 6, .inl S)), (a2, .inl (cI, 6, .inl O)), (a3, .inl (cI, 5, .inl Fr)), (a4, .inl (cI, 5, .inl To)), (a5, .inl (cZ, 5, .inl Li)), (k0, .inr (0, [.ref g, .int ((nm ||| nI 1 <<< (nI a &&& 31)) ||| nI 1 <<< (nI b &&& 31))])), (g, .inr (2, [.ref q0, .int (nI 5), .ref q1, .ref q2, .ref q3, .int u.1.2.2.2.2])), (q0, .inl (cI, 6, .inl u.1.1)), (q1, .inl (cI, 5 + 1, .inl u.1.2.1)), (q2, .inl (cZ, 5 + 1, .inl u.1.2.2.1)), (q3, .inl (cI, 5 + 1, .inl u.1.2.2.2.1))]) ++ [(ou, .inl (cJ, 1, .inr (.inl u.2)))]) t.heap) (va_A [(x0, .inr (3, [.ref h, .ref hh, .ref w, .ref k0])), (h, .inr (1, [.ref a1, .ref a2, .ref a3, .ref a4, .ref a5, .int (nI n), .int nm])), (a1, .inl (cI, 6, .inl S)), (a2, .inl (cI, 6, .inl O)), (a3, .inl (cI, 5, .inl Fr)), (a4, .inl (cI, 5, .inl To)), (a5, .inl (cZ, 5, .inl Li)), (k0, .inr (0, [.ref g, .int nmC])), (g, .inr (2, [.ref q0, .int (nI 5), .ref q1, .ref q2, .ref q3, .int fl])), (q0, .inl (cI, 6, .inl VQ)), (q1, .inl (cI, 5 + 1, .inl EN)), (q2, .inl (cZ, 5 + 1, .inl LG)), (q3, .inl (cI, 5 + 1, .inl BI)), (ou, .inl (cJ, 1, .inr (.inl OU)))] sz)) 0 0 (va_A [(x0, .inr (3, [.ref h, .ref hh, .ref w, .ref k0])), (h, .inr (1, [.ref a1, .ref a2, .ref a3, .ref a4, .ref a5, .int (nI n), .int nm])), (a1, .inl (cI, 6, .inl S)), (a2, .inl (cI, 6, .inl O)), (a3, .inl (cI, 5, .inl Fr)), (a4, .inl (cI, 5, .inl To)), (a5, .inl (cZ, 5, .inl Li)), (k0, .inr (0, [.ref g, .int nmC])), (g, .inr (2, [.ref q0, .int (nI 5), .ref q1, .ref q2, .ref q3, .int fl])), (q0, .inl (cI, 6, .inl VQ)), (q1, .inl (cI, 5 + 1, .inl EN)), (q2, .inl (cZ, 5 + 1, .inl LG)), (q3, .inl (cI, 5 + 1, .inl BI)), (ou, .inl (cJ, 1, .inr (.inl OU)))] sz) := by
  refine va_MetW (cc := cL_sure) (maxL := 6) (ret := (some .int)) (hh := [(0, 19, 22, 13), (0, 19, 26, 37)]) (by decide) rfl ?_
  intro p e s m args below meth c s₁ B hml hv
  obtain ⟨rfl, hsz, hP, hz, hD0⟩ := hv
  have hx := B.exec
  have hb := B.bytes
  have hr := B.returns
  have hts := atoms_spec (ws := (Cond.codeWith yL_sure cL_sure 6 (some .int) [(0, 19, 22, 13), (0, 19, 26, 37)] :: hwG)) B.pre
  have htg := fun w h => hts w (List.mem_cons_of_mem _ h)
  have hown : s.vm.findClass RL = some m.cls := findClass_of_methodNamed B.named
  have hlocks := B.notSynchronized
  have hK := hz.1
  have htab := hw_tab (hts _ List.mem_cons_self) B.named B.method (Stand.of_body B).code
  subst hsz
  have hD := hD0.self (sz := s.heap.size)
  generalize hAe : va_A [(x0, .inr (3, [.ref h, .ref hh, .ref w, .ref k0])), (h, .inr (1, [.ref a1, .ref a2, .ref a3, .ref a4, .ref a5, .int (nI n), .int nm])), (a1, .inl (cI, 6, .inl S)), (a2, .inl (cI, 6, .inl O)), (a3, .inl (cI, 5, .inl Fr)), (a4, .inl (cI, 5, .inl To)), (a5, .inl (cZ, 5, .inl Li)), (k0, .inr (0, [.ref g, .int nmC])), (g, .inr (2, [.ref q0, .int (nI 5), .ref q1, .ref q2, .ref q3, .int fl])), (q0, .inl (cI, 6, .inl VQ)), (q1, .inl (cI, 5 + 1, .inl EN)), (q2, .inl (cZ, 5 + 1, .inl LG)), (q3, .inl (cI, 5 + 1, .inl BI)), (ou, .inl (cJ, 1, .inr (.inl OU)))] s.heap.size = A at hD ⊢
  have hA : ∀ q : Nat, s.heap.size ≤ q → A q := fun q h => by rw [← hAe]; exact Or.inr h
  have hS : va_S A s.heap s.heap [] := va_S.rf
  have hl := lv_entry ([.ref x0, .int (nI wh), .int (nI a), .int (nI b), .ref ou]) (n := 6) (Nat.le_of_ble_eq_true rfl)
  rw [lg_entry_eq]
  generalize (lg_sl ([.ref x0, .int (nI wh), .int (nI a), .int (nI b), .ref ou]) ++ List.replicate (6 - (lg_sl ([.ref x0, .int (nI wh), .int (nI a), .int (nI b), .ref ou])).length) Slot.unset).toArray = ls at hl ⊢
  replace hl : lv_has ls 6 [(0, .ref x0), (1, .int (nI wh)), (2, .int (nI a)), (3, .int (nI b)), (4, .ref ou)] := hl
  replace hP : va_P D vwCl [(x0, .inr (3, [.ref h, .ref hh, .ref w, .ref k0])), (h, .inr (1, [.ref a1, .ref a2, .ref a3, .ref a4, .ref a5, .int (nI n), .int nm])), (a1, .inl (cI, 6, .inl S)), (a2, .inl (cI, 6, .inl O)), (a3, .inl (cI, 5, .inl Fr)), (a4, .inl (cI, 5, .inl To)), (a5, .inl (cZ, 5, .inl Li)), (k0, .inr (0, [.ref g, .int nmC])), (g, .inr (2, [.ref q0, .int (nI 5), .ref q1, .ref q2, .ref q3, .int fl])), (q0, .inl (cI, 6, .inl VQ)), (q1, .inl (cI, 5 + 1, .inl EN)), (q2, .inl (cZ, 5 + 1, .inl LG)), (q3, .inl (cI, 5 + 1, .inl BI)), (ou, .inl (cJ, 1, .inr (.inl OU)))] s.heap := hP
  refine lv_aload hx hb dL_sure_0 (lv_at hl 4 rfl) ?_
  refine lv_iconst (v := nI 0) hx hb dL_sure_2 (by decide) ?_
  refine lv_aload_n hx hb dL_sure_3 rfl (lv_at hl 0 rfl) ?_
  refine lv_iload_n hx hb dL_sure_4 rfl (lv_at hl 1 rfl) ?_
  refine lv_iload_n hx hb dL_sure_5 rfl (lv_at hl 2 rfl) ?_
  refine lv_iload_n hx hb dL_sure_6 rfl (lv_at hl 3 rfl) ?_
  refine hv_calli (w1 := fun u : (Nat → Int32) × (Nat → Int32) × (Nat → Int32) × (Nat → Int32) × Int32 => [(x0, .inr (3, [.ref h, .ref hh, .ref w, .ref k0])), (h, .inr (1, [.ref a1, .ref a2, .ref a3, .ref a4, .ref a5, .int (nI n), .int nm])), (a1, .inl (cI, 6, .inl S)), (a2, .inl (cI, 6, .inl O)), (a3, .inl (cI, 5, .inl Fr)), (a4, .inl (cI, 5, .inl To)), (a5, .inl (cZ, 5, .inl Li)), (k0, .inr (0, [.ref g, .int ((nm ||| nI 1 <<< (nI a &&& 31)) ||| nI 1 <<< (nI b &&& 31))])), (g, .inr (2, [.ref q0, .int (nI 5), .ref q1, .ref q2, .ref q3, .int u.2.2.2.2])), (q0, .inl (cI, 6, .inl u.1)), (q1, .inl (cI, 5 + 1, .inl u.2.1)), (q2, .inl (cZ, 5 + 1, .inl u.2.2.1)), (q3, .inl (cI, 5 + 1, .inl u.2.2.2.1))]) (va_runV (C := RX3) (b := x0) (As := [.int (nI wh), .int (nI a), .int (nI b)]) (rest := [.int (nI 0), .ref ou]) ⟨hx, hb, hml, hown, htg⟩ (k_X3_sure l D cI cZ cJ _ M wh a b sm ot n fr to li S O Fr To Li nm h a1 a2 a3 a4 a5 nmC EN LG BI VQ fl k0 g q0 q1 q2 q3 x0 hh w hC hM32 hM hwh ha hb9) (cwV 3 htg (hg_V hm_357 hm_358 hm_359 hm_1 hm_360) rfl rfl rfl (by decide +kernel) ⟨Nat.le_of_ble_eq_true rfl, Nat.le_of_ble_eq_true rfl⟩) ⟨hp_M_blind, va_recv (q := (RX3, TX3, 4)) (q0 := 0) (ci := 3) hK hP rfl rfl, hp_M_pre (hP.sub (ws' := [(x0, .inr (3, [.ref h, .ref hh, .ref w, .ref k0])), (h, .inr (1, [.ref a1, .ref a2, .ref a3, .ref a4, .ref a5, .int (nI n), .int nm])), (a1, .inl (cI, 6, .inl S)), (a2, .inl (cI, 6, .inl O)), (a3, .inl (cI, 5, .inl Fr)), (a4, .inl (cI, 5, .inl To)), (a5, .inl (cZ, 5, .inl Li)), (k0, .inr (0, [.ref g, .int nmC])), (g, .inr (2, [.ref q0, .int (nI 5), .ref q1, .ref q2, .ref q3, .int fl])), (q0, .inl (cI, 6, .inl VQ)), (q1, .inl (cI, 5 + 1, .inl EN)), (q2, .inl (cZ, 5 + 1, .inl LG)), (q3, .inl (cI, 5 + 1, .inl BI))]) [0, 1, 2, 3, 4, 5, 6, 7, 8, 9, 10, 11, 12] rfl) (hD.sub (ws' := [(x0, .inr (3, [.ref h, .ref hh, .ref w, .ref k0])), (h, .inr (1, [.ref a1, .ref a2, .ref a3, .ref a4, .ref a5, .int (nI n), .int nm])), (a1, .inl (cI, 6, .inl S)), (a2, .inl (cI, 6, .inl O)), (a3, .inl (cI, 5, .inl Fr)), (a4, .inl (cI, 5, .inl To)), (a5, .inl (cZ, 5, .inl Li)), (k0, .inr (0, [.ref g, .int nmC])), (g, .inr (2, [.ref q0, .int (nI 5), .ref q1, .ref q2, .ref q3, .int fl])), (q0, .inl (cI, 6, .inl VQ)), (q1, .inl (cI, 5 + 1, .inl EN)), (q2, .inl (cZ, 5 + 1, .inl LG)), (q3, .inl (cI, 5 + 1, .inl BI))]) [0, 1, 2, 3, 4, 5, 6, 7, 8, 9, 10, 11, 12] (by decide) rfl) hz⟩ rfl rfl hl.1 rfl (lv_room (Nat.le_of_ble_eq_true rfl)) dL_sure_7 ⟨Nat.zero_le _, Nat.zero_le _⟩) hP hD hS hA [0, 1, 2, 3, 4, 5, 6, 7, 8, 9, 10, 11, 12] rfl (fun _ => rfl) (fun r9 u1 H locs h1 hP hD hS => ?_)
  replace hP : va_P D vwCl (([(x0, .inr (3, [.ref h, .ref hh, .ref w, .ref k0])), (h, .inr (1, [.ref a1, .ref a2, .ref a3, .ref a4, .ref a5, .int (nI n), .int nm])), (a1, .inl (cI, 6, .inl S)), (a2, .inl (cI, 6, .inl O)), (a3, .inl (cI, 5, .inl Fr)), (a4, .inl (cI, 5, .inl To)), (a5, .inl (cZ, 5, .inl Li)), (k0, .inr (0, [.ref g, .int ((nm ||| nI 1 <<< (nI a &&& 31)) ||| nI 1 <<< (nI b &&& 31))])), (g, .inr (2, [.ref q0, .int (nI 5), .ref q1, .ref q2, .ref q3, .int u1.2.2.2.2])), (q0, .inl (cI, 6, .inl u1.1)), (q1, .inl (cI, 5 + 1, .inl u1.2.1)), (q2, .inl (cZ, 5 + 1, .inl u1.2.2.1)), (q3, .inl (cI, 5 + 1, .inl u1.2.2.2.1))]) ++ [(ou, .inl (cJ, 1, .inr (.inl OU)))]) H := hP
  rcases h1 with ⟨rfl, h1⟩ | ⟨rfl, h1⟩
  · refine lv_if_eq hx hb dL_sure_10 rfl (fun hc9 => absurd hc9 (by decide)) (fun hc9 => ?_)
    refine lv_lconst (v := 1) hx hb dL_sure_13 rfl ?_
    refine lv_goto hx hb dL_sure_14 rfl ?_
    refine va_last hx hb hK hP hD hS 13 2 rfl rfl (i := nI 0) (x := 1) (nI_in (c := 0) (N := 1) (by omega) (by omega)) dL_sure_18 (fun H locs hP hD hS => ?_)
    replace hP : va_P D vwCl (([(x0, .inr (3, [.ref h, .ref hh, .ref w, .ref k0])), (h, .inr (1, [.ref a1, .ref a2, .ref a3, .ref a4, .ref a5, .int (nI n), .int nm])), (a1, .inl (cI, 6, .inl S)), (a2, .inl (cI, 6, .inl O)), (a3, .inl (cI, 5, .inl Fr)), (a4, .inl (cI, 5, .inl To)), (a5, .inl (cZ, 5, .inl Li)), (k0, .inr (0, [.ref g, .int ((nm ||| nI 1 <<< (nI a &&& 31)) ||| nI 1 <<< (nI b &&& 31))])), (g, .inr (2, [.ref q0, .int (nI 5), .ref q1, .ref q2, .ref q3, .int u1.2.2.2.2])), (q0, .inl (cI, 6, .inl u1.1)), (q1, .inl (cI, 5 + 1, .inl u1.2.1)), (q2, .inl (cZ, 5 + 1, .inl u1.2.2.1)), (q3, .inl (cI, 5 + 1, .inl u1.2.2.2.1))]) ++ [(ou, .inl (cJ, 1, .inr (.inl (vp_updL OU (nI 0).toNatClampNeg 1))))]) H := hP
    refine lv_goto hx hb dL_sure_19 rfl ?_
    refine lv_iconst (v := nI 0) hx hb dL_sure_30 (by decide) ?_
    exact W.iret (v := nI 0) hx hb hr (fun t9 ht9 hW9 => ⟨⟨_, (u1, vp_updL OU (nI 0).toNatClampNeg 1), rfl, ⟨rfl, _, Or.inl ⟨rfl, h1⟩, by show vp_updL OU (nI 0).toNatClampNeg 1 0 = _; rw [show (nI 0).toNatClampNeg = 0 from by decide]; unfold vp_updL; rw [if_pos rfl]; decide⟩, by show va_P D vwCl (([(x0, .inr (3, [.ref h, .ref hh, .ref w, .ref k0])), (h, .inr (1, [.ref a1, .ref a2, .ref a3, .ref a4, .ref a5, .int (nI n), .int nm])), (a1, .inl (cI, 6, .inl S)), (a2, .inl (cI, 6, .inl O)), (a3, .inl (cI, 5, .inl Fr)), (a4, .inl (cI, 5, .inl To)), (a5, .inl (cZ, 5, .inl Li)), (k0, .inr (0, [.ref g, .int ((nm ||| nI 1 <<< (nI a &&& 31)) ||| nI 1 <<< (nI b &&& 31))])), (g, .inr (2, [.ref q0, .int (nI 5), .ref q1, .ref q2, .ref q3, .int u1.2.2.2.2])), (q0, .inl (cI, 6, .inl u1.1)), (q1, .inl (cI, 5 + 1, .inl u1.2.1)), (q2, .inl (cZ, 5 + 1, .inl u1.2.2.1)), (q3, .inl (cI, 5 + 1, .inl u1.2.2.2.1))]) ++ [(ou, .inl (cJ, 1, .inr (.inl (vp_updL OU (nI 0).toNatClampNeg 1))))]) t9.heap; rw [ht9]; exact hP⟩, hS.F ht9⟩) hS.2.2 dL_sure_31
  · refine lv_if_eq hx hb dL_sure_10 rfl (fun hc9 => ?_) (fun hc9 => absurd rfl hc9)
    refine lv_lconst (v := 0) hx hb dL_sure_17 rfl ?_
    refine va_last hx hb hK hP hD hS 13 2 rfl rfl (i := nI 0) (x := 0) (nI_in (c := 0) (N := 1) (by omega) (by omega)) dL_sure_18 (fun H locs hP hD hS => ?_)
    replace hP : va_P D vwCl (([(x0, .inr (3, [.ref h, .ref hh, .ref w, .ref k0])), (h, .inr (1, [.ref a1, .ref a2, .ref a3, .ref a4, .ref a5, .int (nI n), .int nm])), (a1, .inl (cI, 6, .inl S)), (a2, .inl (cI, 6, .inl O)), (a3, .inl (cI, 5, .inl Fr)), (a4, .inl (cI, 5, .inl To)), (a5, .inl (cZ, 5, .inl Li)), (k0, .inr (0, [.ref g, .int ((nm ||| nI 1 <<< (nI a &&& 31)) ||| nI 1 <<< (nI b &&& 31))])), (g, .inr (2, [.ref q0, .int (nI 5), .ref q1, .ref q2, .ref q3, .int u1.2.2.2.2])), (q0, .inl (cI, 6, .inl u1.1)), (q1, .inl (cI, 5 + 1, .inl u1.2.1)), (q2, .inl (cZ, 5 + 1, .inl u1.2.2.1)), (q3, .inl (cI, 5 + 1, .inl u1.2.2.2.1))]) ++ [(ou, .inl (cJ, 1, .inr (.inl (vp_updL OU (nI 0).toNatClampNeg 0))))]) H := hP
    refine lv_goto hx hb dL_sure_19 rfl ?_
    refine lv_iconst (v := nI 0) hx hb dL_sure_30 (by decide) ?_
    exact W.iret (v := nI 0) hx hb hr (fun t9 ht9 hW9 => ⟨⟨_, (u1, vp_updL OU (nI 0).toNatClampNeg 0), rfl, ⟨rfl, _, Or.inr ⟨rfl, h1⟩, by show vp_updL OU (nI 0).toNatClampNeg 0 0 = _; rw [show (nI 0).toNatClampNeg = 0 from by decide]; unfold vp_updL; rw [if_pos rfl]; decide⟩, by show va_P D vwCl (([(x0, .inr (3, [.ref h, .ref hh, .ref w, .ref k0])), (h, .inr (1, [.ref a1, .ref a2, .ref a3, .ref a4, .ref a5, .int (nI n), .int nm])), (a1, .inl (cI, 6, .inl S)), (a2, .inl (cI, 6, .inl O)), (a3, .inl (cI, 5, .inl Fr)), (a4, .inl (cI, 5, .inl To)), (a5, .inl (cZ, 5, .inl Li)), (k0, .inr (0, [.ref g, .int ((nm ||| nI 1 <<< (nI a &&& 31)) ||| nI 1 <<< (nI b &&& 31))])), (g, .inr (2, [.ref q0, .int (nI 5), .ref q1, .ref q2, .ref q3, .int u1.2.2.2.2])), (q0, .inl (cI, 6, .inl u1.1)), (q1, .inl (cI, 5 + 1, .inl u1.2.1)), (q2, .inl (cZ, 5 + 1, .inl u1.2.2.1)), (q3, .inl (cI, 5 + 1, .inl u1.2.2.2.1))]) ++ [(ou, .inl (cJ, 1, .inr (.inl (vp_updL OU (nI 0).toNatClampNeg 0))))]) t9.heap; rw [ht9]; exact hP⟩, hS.F ht9⟩) hS.2.2 dL_sure_31

set_option maxHeartbeats 4000000 in
set_option maxRecDepth 100000 in
/-- it answers -/
theorem kh_value (l : Launch) (D : va_G) (cI cZ cJ : ClassId) (sz : Nat) (x : Nat) (VW EW LW BW : Nat → Int32) (flw : Int32) (VA : Nat → Nat) (HA : Nat → Option Nat) (x0 h hh w k0 : Nat) (w0 w1 w2 w3 : Nat) (OU : Nat → Int64) (ou : Nat) (hV : ∀ j, j < 6 → VW j = nI (VA j)) (hx6 : x < 6) : Met l yL_value (Cond.codeWith yL_value cL_value 4 (some .int) [(0, 9, 12, 13)] :: hwG) { frames := 2, cells := 0, slots := 0, locals := 42 } (hp_M [.ref x0, .int (nI x), .ref ou] D cI cZ cJ [(x0, .inr (3, [.ref h, .ref hh, .ref w, .ref k0])), (w, .inr (2, [.ref w0, .int (nI 9), .ref w1, .ref w2, .ref w3, .int flw])), (w0, .inl (cI, 6, .inl VW)), (ou, .inl (cJ, 1, .inr (.inl OU)))] sz) (va_Qi (S := Unit × (Nat → Int64)) (fun r u => r = nI 0 ∧ ∃ r9, (fun r => r = nI (VA x)) r9 ∧ u.2 0 = r9.toInt64) (fun u t => va_P D vwCl ([(x0, .inr (3, [.ref h, .ref hh, .ref w, .ref k0])), (w, .inr (2, [.ref w0, .int (nI 9), .ref w1, .ref w2, .ref w3, .int flw])), (w0, .inl (cI, 6, .inl VW))] ++ [(ou, .inl (cJ, 1, .inr (.inl u.2)))]) t.heap) (va_A [(x0, .inr (3, [.ref h, .ref hh, .ref w, .ref k0])), (w, .inr (2, [.ref w0, .int (nI 9), .ref w1, .ref w2, .ref w3, .int flw])), (w0, .inl (cI, 6, .inl VW)), (ou, .inl (cJ, 1, .inr (.inl OU)))] sz)) 0 0 (va_A [(x0, .inr (3, [.ref h, .ref hh, .ref w, .ref k0])), (w, .inr (2, [.ref w0, .int (nI 9), .ref w1, .ref w2, .ref w3, .int flw])), (w0, .inl (cI, 6, .inl VW)), (ou, .inl (cJ, 1, .inr (.inl OU)))] sz) := by
  refine va_MetW (cc := cL_value) (maxL := 4) (ret := (some .int)) (hh := [(0, 9, 12, 13)]) (by decide) rfl ?_
  intro p e s m args below meth c s₁ B hml hv
  obtain ⟨rfl, hsz, hP, hz, hD0⟩ := hv
  have hx := B.exec
  have hb := B.bytes
  have hr := B.returns
  have hts := atoms_spec (ws := (Cond.codeWith yL_value cL_value 4 (some .int) [(0, 9, 12, 13)] :: hwG)) B.pre
  have htg := fun w h => hts w (List.mem_cons_of_mem _ h)
  have hown : s.vm.findClass RL = some m.cls := findClass_of_methodNamed B.named
  have hlocks := B.notSynchronized
  have hK := hz.1
  have htab := hw_tab (hts _ List.mem_cons_self) B.named B.method (Stand.of_body B).code
  subst hsz
  have hD := hD0.self (sz := s.heap.size)
  generalize hAe : va_A [(x0, .inr (3, [.ref h, .ref hh, .ref w, .ref k0])), (w, .inr (2, [.ref w0, .int (nI 9), .ref w1, .ref w2, .ref w3, .int flw])), (w0, .inl (cI, 6, .inl VW)), (ou, .inl (cJ, 1, .inr (.inl OU)))] s.heap.size = A at hD ⊢
  have hA : ∀ q : Nat, s.heap.size ≤ q → A q := fun q h => by rw [← hAe]; exact Or.inr h
  have hS : va_S A s.heap s.heap [] := va_S.rf
  have hl := lv_entry ([.ref x0, .int (nI x), .ref ou]) (n := 4) (Nat.le_of_ble_eq_true rfl)
  rw [lg_entry_eq]
  generalize (lg_sl ([.ref x0, .int (nI x), .ref ou]) ++ List.replicate (4 - (lg_sl ([.ref x0, .int (nI x), .ref ou])).length) Slot.unset).toArray = ls at hl ⊢
  replace hl : lv_has ls 4 [(0, .ref x0), (1, .int (nI x)), (2, .ref ou)] := hl
  replace hP : va_P D vwCl [(x0, .inr (3, [.ref h, .ref hh, .ref w, .ref k0])), (w, .inr (2, [.ref w0, .int (nI 9), .ref w1, .ref w2, .ref w3, .int flw])), (w0, .inl (cI, 6, .inl VW)), (ou, .inl (cJ, 1, .inr (.inl OU)))] s.heap := hP
  refine lv_aload_n hx hb dL_value_0 rfl (lv_at hl 2 rfl) ?_
  refine lv_iconst (v := nI 0) hx hb dL_value_1 (by decide) ?_
  refine lv_aload_n hx hb dL_value_2 rfl (lv_at hl 0 rfl) ?_
  refine lv_iload_n hx hb dL_value_3 rfl (lv_at hl 1 rfl) ?_
  refine hw_csi (va_runV (C := RX3) (b := x0) (As := [.int (nI x)]) (rest := [.int (nI 0), .ref ou]) ⟨hx, hb, hml, hown, htg⟩ (k_X3_value l D cI cZ cJ x VW EW LW BW flw VA HA x0 h hh w k0 w0 w1 w2 w3 hV hx6) (cwV 1 htg (hg_V hm_486 hm_487 hm_488 hm_1 hm_489) rfl rfl rfl (by decide +kernel) ⟨Nat.le_of_ble_eq_true rfl, Nat.le_of_ble_eq_true rfl⟩) ⟨hp_R_blind, va_recv (q := (RX3, TX3, 4)) (q0 := 0) (ci := 3) hK hP rfl rfl, hp_R_pre (hP.sub (ws' := [(x0, .inr (3, [.ref h, .ref hh, .ref w, .ref k0])), (w, .inr (2, [.ref w0, .int (nI 9), .ref w1, .ref w2, .ref w3, .int flw])), (w0, .inl (cI, 6, .inl VW))]) [0, 1, 2] rfl) hz⟩ rfl rfl hl.1 rfl (lv_room (Nat.le_of_ble_eq_true rfl)) dL_value_4 ⟨Nat.zero_le _, Nat.zero_le _⟩) (fun r9 h1 => ?_)
  replace hP : va_P D vwCl ([(x0, .inr (3, [.ref h, .ref hh, .ref w, .ref k0])), (w, .inr (2, [.ref w0, .int (nI 9), .ref w1, .ref w2, .ref w3, .int flw])), (w0, .inl (cI, 6, .inl VW))] ++ [(ou, .inl (cJ, 1, .inr (.inl OU)))]) s.heap := hP
  refine lv_i2l (v := r9.toInt64) hx hb dL_value_7 rfl ?_
  refine va_last hx hb hK hP hD hS 3 2 rfl rfl (i := nI 0) (x := r9.toInt64) (nI_in (c := 0) (N := 1) (by omega) (by omega)) dL_value_8 (fun H locs hP hD hS => ?_)
  replace hP : va_P D vwCl ([(x0, .inr (3, [.ref h, .ref hh, .ref w, .ref k0])), (w, .inr (2, [.ref w0, .int (nI 9), .ref w1, .ref w2, .ref w3, .int flw])), (w0, .inl (cI, 6, .inl VW))] ++ [(ou, .inl (cJ, 1, .inr (.inl (vp_updL OU (nI 0).toNatClampNeg r9.toInt64))))]) H := hP
  refine lv_goto hx hb dL_value_9 rfl ?_
  refine lv_iconst (v := nI 0) hx hb dL_value_15 (by decide) ?_
  exact W.iret (v := nI 0) hx hb hr (fun t9 ht9 hW9 => ⟨⟨_, ((), vp_updL OU (nI 0).toNatClampNeg r9.toInt64), rfl, ⟨rfl, _, h1, by show vp_updL OU (nI 0).toNatClampNeg r9.toInt64 0 = _; rw [show (nI 0).toNatClampNeg = 0 from by decide]; unfold vp_updL; rw [if_pos rfl]⟩, by show va_P D vwCl ([(x0, .inr (3, [.ref h, .ref hh, .ref w, .ref k0])), (w, .inr (2, [.ref w0, .int (nI 9), .ref w1, .ref w2, .ref w3, .int flw])), (w0, .inl (cI, 6, .inl VW))] ++ [(ou, .inl (cJ, 1, .inr (.inl (vp_updL OU (nI 0).toNatClampNeg r9.toInt64))))]) t9.heap; rw [ht9]; exact hP⟩, hS.F ht9⟩) hS.2.2 dL_value_16

set_option maxHeartbeats 4000000 in
set_option maxRecDepth 100000 in
/-- it answers -/
theorem kh_holds0 (l : Launch) (D : va_G) (cI cZ cJ : ClassId) (sz : Nat) (sm ot : Nat → Nat → Bool) (n : Nat) (fr to : Nat → Nat) (li : Nat → Bool) (S O Fr To Li : Nat → Int32) (nm : Int32) (h a1 a2 a3 a4 a5 : Nat) (VW EW LW BW : Nat → Int32) (flw : Int32) (VA : Nat → Nat) (HA : Nat → Option Nat) (x0 hh w k0 : Nat) (w0 w1 w2 w3 : Nat) (OU : Nat → Int64) (ou : Nat) (hC : hs_cl S O Fr To Li sm ot n fr to li) (hV : ∀ j, j < 6 → VW j = nI (VA j)) (hV9 : ∀ j, j < 6 → VA j ≤ 9) (hW : hs_hp 9 EW LW BW HA (fun _ => false) (fun a => a)) : Met l yL_holds (Cond.codeWith yL_holds cL_holds 4 (some .int) [(0, 16, 19, 13)] :: hwG) { frames := 4, cells := 0, slots := 0, locals := 94 } (hp_M [.ref x0, .int (nI 0), .ref ou] D cI cZ cJ [(x0, .inr (3, [.ref h, .ref hh, .ref w, .ref k0])), (h, .inr (1, [.ref a1, .ref a2, .ref a3, .ref a4, .ref a5, .int (nI n), .int nm])), (a1, .inl (cI, 6, .inl S)), (a2, .inl (cI, 6, .inl O)), (a3, .inl (cI, 5, .inl Fr)), (a4, .inl (cI, 5, .inl To)), (a5, .inl (cZ, 5, .inl Li)), (w, .inr (2, [.ref w0, .int (nI 9), .ref w1, .ref w2, .ref w3, .int flw])), (w0, .inl (cI, 6, .inl VW)), (w1, .inl (cI, 9 + 1, .inl EW)), (w2, .inl (cZ, 9 + 1, .inl LW)), (w3, .inl (cI, 9 + 1, .inl BW)), (ou, .inl (cJ, 1, .inr (.inl OU)))] sz) (va_Qi (S := Unit × (Nat → Int64)) (fun r u => r = nI 0 ∧ ∃ r9, (fun r => ∃ q, hs_tb HA (fun _ => false) (fun a => a) VA sm ot n fr to li q ∧ hc_r r (q = flw)) r9 ∧ u.2 0 = r9.toInt64) (fun u t => va_P D vwCl ([(x0, .inr (3, [.ref h, .ref hh, .ref w, .ref k0])), (h, .inr (1, [.ref a1, .ref a2, .ref a3, .ref a4, .ref a5, .int (nI n), .int nm])), (a1, .inl (cI, 6, .inl S)), (a2, .inl (cI, 6, .inl O)), (a3, .inl (cI, 5, .inl Fr)), (a4, .inl (cI, 5, .inl To)), (a5, .inl (cZ, 5, .inl Li)), (w, .inr (2, [.ref w0, .int (nI 9), .ref w1, .ref w2, .ref w3, .int flw])), (w0, .inl (cI, 6, .inl VW)), (w1, .inl (cI, 9 + 1, .inl EW)), (w2, .inl (cZ, 9 + 1, .inl LW)), (w3, .inl (cI, 9 + 1, .inl BW))] ++ [(ou, .inl (cJ, 1, .inr (.inl u.2)))]) t.heap) (va_A [(x0, .inr (3, [.ref h, .ref hh, .ref w, .ref k0])), (h, .inr (1, [.ref a1, .ref a2, .ref a3, .ref a4, .ref a5, .int (nI n), .int nm])), (a1, .inl (cI, 6, .inl S)), (a2, .inl (cI, 6, .inl O)), (a3, .inl (cI, 5, .inl Fr)), (a4, .inl (cI, 5, .inl To)), (a5, .inl (cZ, 5, .inl Li)), (w, .inr (2, [.ref w0, .int (nI 9), .ref w1, .ref w2, .ref w3, .int flw])), (w0, .inl (cI, 6, .inl VW)), (w1, .inl (cI, 9 + 1, .inl EW)), (w2, .inl (cZ, 9 + 1, .inl LW)), (w3, .inl (cI, 9 + 1, .inl BW)), (ou, .inl (cJ, 1, .inr (.inl OU)))] sz)) 0 0 (va_A [(x0, .inr (3, [.ref h, .ref hh, .ref w, .ref k0])), (h, .inr (1, [.ref a1, .ref a2, .ref a3, .ref a4, .ref a5, .int (nI n), .int nm])), (a1, .inl (cI, 6, .inl S)), (a2, .inl (cI, 6, .inl O)), (a3, .inl (cI, 5, .inl Fr)), (a4, .inl (cI, 5, .inl To)), (a5, .inl (cZ, 5, .inl Li)), (w, .inr (2, [.ref w0, .int (nI 9), .ref w1, .ref w2, .ref w3, .int flw])), (w0, .inl (cI, 6, .inl VW)), (w1, .inl (cI, 9 + 1, .inl EW)), (w2, .inl (cZ, 9 + 1, .inl LW)), (w3, .inl (cI, 9 + 1, .inl BW)), (ou, .inl (cJ, 1, .inr (.inl OU)))] sz) := by
  refine va_MetW (cc := cL_holds) (maxL := 4) (ret := (some .int)) (hh := [(0, 16, 19, 13)]) (by decide) rfl ?_
  intro p e s m args below meth c s₁ B hml hv
  obtain ⟨rfl, hsz, hP, hz, hD0⟩ := hv
  have hx := B.exec
  have hb := B.bytes
  have hr := B.returns
  have hts := atoms_spec (ws := (Cond.codeWith yL_holds cL_holds 4 (some .int) [(0, 16, 19, 13)] :: hwG)) B.pre
  have htg := fun w h => hts w (List.mem_cons_of_mem _ h)
  have hown : s.vm.findClass RL = some m.cls := findClass_of_methodNamed B.named
  have hlocks := B.notSynchronized
  have hK := hz.1
  have htab := hw_tab (hts _ List.mem_cons_self) B.named B.method (Stand.of_body B).code
  subst hsz
  have hD := hD0.self (sz := s.heap.size)
  generalize hAe : va_A [(x0, .inr (3, [.ref h, .ref hh, .ref w, .ref k0])), (h, .inr (1, [.ref a1, .ref a2, .ref a3, .ref a4, .ref a5, .int (nI n), .int nm])), (a1, .inl (cI, 6, .inl S)), (a2, .inl (cI, 6, .inl O)), (a3, .inl (cI, 5, .inl Fr)), (a4, .inl (cI, 5, .inl To)), (a5, .inl (cZ, 5, .inl Li)), (w, .inr (2, [.ref w0, .int (nI 9), .ref w1, .ref w2, .ref w3, .int flw])), (w0, .inl (cI, 6, .inl VW)), (w1, .inl (cI, 9 + 1, .inl EW)), (w2, .inl (cZ, 9 + 1, .inl LW)), (w3, .inl (cI, 9 + 1, .inl BW)), (ou, .inl (cJ, 1, .inr (.inl OU)))] s.heap.size = A at hD ⊢
  have hA : ∀ q : Nat, s.heap.size ≤ q → A q := fun q h => by rw [← hAe]; exact Or.inr h
  have hS : va_S A s.heap s.heap [] := va_S.rf
  have hl := lv_entry ([.ref x0, .int (nI 0), .ref ou]) (n := 4) (Nat.le_of_ble_eq_true rfl)
  rw [lg_entry_eq]
  generalize (lg_sl ([.ref x0, .int (nI 0), .ref ou]) ++ List.replicate (4 - (lg_sl ([.ref x0, .int (nI 0), .ref ou])).length) Slot.unset).toArray = ls at hl ⊢
  replace hl : lv_has ls 4 [(0, .ref x0), (1, .int (nI 0)), (2, .ref ou)] := hl
  replace hP : va_P D vwCl [(x0, .inr (3, [.ref h, .ref hh, .ref w, .ref k0])), (h, .inr (1, [.ref a1, .ref a2, .ref a3, .ref a4, .ref a5, .int (nI n), .int nm])), (a1, .inl (cI, 6, .inl S)), (a2, .inl (cI, 6, .inl O)), (a3, .inl (cI, 5, .inl Fr)), (a4, .inl (cI, 5, .inl To)), (a5, .inl (cZ, 5, .inl Li)), (w, .inr (2, [.ref w0, .int (nI 9), .ref w1, .ref w2, .ref w3, .int flw])), (w0, .inl (cI, 6, .inl VW)), (w1, .inl (cI, 9 + 1, .inl EW)), (w2, .inl (cZ, 9 + 1, .inl LW)), (w3, .inl (cI, 9 + 1, .inl BW)), (ou, .inl (cJ, 1, .inr (.inl OU)))] s.heap := hP
  refine lv_aload_n hx hb dL_holds_0 rfl (lv_at hl 2 rfl) ?_
  refine lv_iconst (v := nI 0) hx hb dL_holds_1 (by decide) ?_
  refine lv_aload_n hx hb dL_holds_2 rfl (lv_at hl 0 rfl) ?_
  refine lv_iload_n hx hb dL_holds_3 rfl (lv_at hl 1 rfl) ?_
  refine hw_csi (va_runV (C := RX3) (b := x0) (As := [.int (nI 0)]) (rest := [.int (nI 0), .ref ou]) ⟨hx, hb, hml, hown, htg⟩ (k_X3_holds0 l D cI cZ cJ sm ot n fr to li S O Fr To Li nm h a1 a2 a3 a4 a5 VW EW LW BW flw VA HA x0 hh w k0 w0 w1 w2 w3 hC hV hV9 hW) (cwV 1 htg (hg_V hm_414 hm_415 hm_416 hm_1 hm_417) rfl rfl rfl (by decide +kernel) ⟨Nat.le_of_ble_eq_true rfl, Nat.le_of_ble_eq_true rfl⟩) ⟨hp_R_blind, va_recv (q := (RX3, TX3, 4)) (q0 := 0) (ci := 3) hK hP rfl rfl, hp_R_pre (hP.sub (ws' := [(x0, .inr (3, [.ref h, .ref hh, .ref w, .ref k0])), (h, .inr (1, [.ref a1, .ref a2, .ref a3, .ref a4, .ref a5, .int (nI n), .int nm])), (a1, .inl (cI, 6, .inl S)), (a2, .inl (cI, 6, .inl O)), (a3, .inl (cI, 5, .inl Fr)), (a4, .inl (cI, 5, .inl To)), (a5, .inl (cZ, 5, .inl Li)), (w, .inr (2, [.ref w0, .int (nI 9), .ref w1, .ref w2, .ref w3, .int flw])), (w0, .inl (cI, 6, .inl VW)), (w1, .inl (cI, 9 + 1, .inl EW)), (w2, .inl (cZ, 9 + 1, .inl LW)), (w3, .inl (cI, 9 + 1, .inl BW))]) [0, 1, 2, 3, 4, 5, 6, 7, 8, 9, 10, 11] rfl) hz⟩ rfl rfl hl.1 rfl (lv_room (Nat.le_of_ble_eq_true rfl)) dL_holds_4 ⟨Nat.zero_le _, Nat.zero_le _⟩) (fun r9 h1 => ?_)
  replace hP : va_P D vwCl ([(x0, .inr (3, [.ref h, .ref hh, .ref w, .ref k0])), (h, .inr (1, [.ref a1, .ref a2, .ref a3, .ref a4, .ref a5, .int (nI n), .int nm])), (a1, .inl (cI, 6, .inl S)), (a2, .inl (cI, 6, .inl O)), (a3, .inl (cI, 5, .inl Fr)), (a4, .inl (cI, 5, .inl To)), (a5, .inl (cZ, 5, .inl Li)), (w, .inr (2, [.ref w0, .int (nI 9), .ref w1, .ref w2, .ref w3, .int flw])), (w0, .inl (cI, 6, .inl VW)), (w1, .inl (cI, 9 + 1, .inl EW)), (w2, .inl (cZ, 9 + 1, .inl LW)), (w3, .inl (cI, 9 + 1, .inl BW))] ++ [(ou, .inl (cJ, 1, .inr (.inl OU)))]) s.heap := hP
  obtain ⟨q9, hq9, ⟨rfl, h1⟩ | ⟨rfl, h1⟩⟩ := h1
  · refine lv_if_eq hx hb dL_holds_7 rfl (fun hc9 => absurd hc9 (by decide)) (fun hc9 => ?_)
    refine lv_lconst (v := 1) hx hb dL_holds_10 rfl ?_
    refine lv_goto hx hb dL_holds_11 rfl ?_
    refine va_last hx hb hK hP hD hS 12 2 rfl rfl (i := nI 0) (x := 1) (nI_in (c := 0) (N := 1) (by omega) (by omega)) dL_holds_15 (fun H locs hP hD hS => ?_)
    replace hP : va_P D vwCl ([(x0, .inr (3, [.ref h, .ref hh, .ref w, .ref k0])), (h, .inr (1, [.ref a1, .ref a2, .ref a3, .ref a4, .ref a5, .int (nI n), .int nm])), (a1, .inl (cI, 6, .inl S)), (a2, .inl (cI, 6, .inl O)), (a3, .inl (cI, 5, .inl Fr)), (a4, .inl (cI, 5, .inl To)), (a5, .inl (cZ, 5, .inl Li)), (w, .inr (2, [.ref w0, .int (nI 9), .ref w1, .ref w2, .ref w3, .int flw])), (w0, .inl (cI, 6, .inl VW)), (w1, .inl (cI, 9 + 1, .inl EW)), (w2, .inl (cZ, 9 + 1, .inl LW)), (w3, .inl (cI, 9 + 1, .inl BW))] ++ [(ou, .inl (cJ, 1, .inr (.inl (vp_updL OU (nI 0).toNatClampNeg 1))))]) H := hP
    refine lv_goto hx hb dL_holds_16 rfl ?_
    refine lv_iconst (v := nI 0) hx hb dL_holds_22 (by decide) ?_
    exact W.iret (v := nI 0) hx hb hr (fun t9 ht9 hW9 => ⟨⟨_, ((), vp_updL OU (nI 0).toNatClampNeg 1), rfl, ⟨rfl, _, ⟨q9, hq9, Or.inl ⟨rfl, h1⟩⟩, by show vp_updL OU (nI 0).toNatClampNeg 1 0 = _; rw [show (nI 0).toNatClampNeg = 0 from by decide]; unfold vp_updL; rw [if_pos rfl]; decide⟩, by show va_P D vwCl ([(x0, .inr (3, [.ref h, .ref hh, .ref w, .ref k0])), (h, .inr (1, [.ref a1, .ref a2, .ref a3, .ref a4, .ref a5, .int (nI n), .int nm])), (a1, .inl (cI, 6, .inl S)), (a2, .inl (cI, 6, .inl O)), (a3, .inl (cI, 5, .inl Fr)), (a4, .inl (cI, 5, .inl To)), (a5, .inl (cZ, 5, .inl Li)), (w, .inr (2, [.ref w0, .int (nI 9), .ref w1, .ref w2, .ref w3, .int flw])), (w0, .inl (cI, 6, .inl VW)), (w1, .inl (cI, 9 + 1, .inl EW)), (w2, .inl (cZ, 9 + 1, .inl LW)), (w3, .inl (cI, 9 + 1, .inl BW))] ++ [(ou, .inl (cJ, 1, .inr (.inl (vp_updL OU (nI 0).toNatClampNeg 1))))]) t9.heap; rw [ht9]; exact hP⟩, hS.F ht9⟩) hS.2.2 dL_holds_23
  · refine lv_if_eq hx hb dL_holds_7 rfl (fun hc9 => ?_) (fun hc9 => absurd rfl hc9)
    refine lv_lconst (v := 0) hx hb dL_holds_14 rfl ?_
    refine va_last hx hb hK hP hD hS 12 2 rfl rfl (i := nI 0) (x := 0) (nI_in (c := 0) (N := 1) (by omega) (by omega)) dL_holds_15 (fun H locs hP hD hS => ?_)
    replace hP : va_P D vwCl ([(x0, .inr (3, [.ref h, .ref hh, .ref w, .ref k0])), (h, .inr (1, [.ref a1, .ref a2, .ref a3, .ref a4, .ref a5, .int (nI n), .int nm])), (a1, .inl (cI, 6, .inl S)), (a2, .inl (cI, 6, .inl O)), (a3, .inl (cI, 5, .inl Fr)), (a4, .inl (cI, 5, .inl To)), (a5, .inl (cZ, 5, .inl Li)), (w, .inr (2, [.ref w0, .int (nI 9), .ref w1, .ref w2, .ref w3, .int flw])), (w0, .inl (cI, 6, .inl VW)), (w1, .inl (cI, 9 + 1, .inl EW)), (w2, .inl (cZ, 9 + 1, .inl LW)), (w3, .inl (cI, 9 + 1, .inl BW))] ++ [(ou, .inl (cJ, 1, .inr (.inl (vp_updL OU (nI 0).toNatClampNeg 0))))]) H := hP
    refine lv_goto hx hb dL_holds_16 rfl ?_
    refine lv_iconst (v := nI 0) hx hb dL_holds_22 (by decide) ?_
    exact W.iret (v := nI 0) hx hb hr (fun t9 ht9 hW9 => ⟨⟨_, ((), vp_updL OU (nI 0).toNatClampNeg 0), rfl, ⟨rfl, _, ⟨q9, hq9, Or.inr ⟨rfl, h1⟩⟩, by show vp_updL OU (nI 0).toNatClampNeg 0 0 = _; rw [show (nI 0).toNatClampNeg = 0 from by decide]; unfold vp_updL; rw [if_pos rfl]; decide⟩, by show va_P D vwCl ([(x0, .inr (3, [.ref h, .ref hh, .ref w, .ref k0])), (h, .inr (1, [.ref a1, .ref a2, .ref a3, .ref a4, .ref a5, .int (nI n), .int nm])), (a1, .inl (cI, 6, .inl S)), (a2, .inl (cI, 6, .inl O)), (a3, .inl (cI, 5, .inl Fr)), (a4, .inl (cI, 5, .inl To)), (a5, .inl (cZ, 5, .inl Li)), (w, .inr (2, [.ref w0, .int (nI 9), .ref w1, .ref w2, .ref w3, .int flw])), (w0, .inl (cI, 6, .inl VW)), (w1, .inl (cI, 9 + 1, .inl EW)), (w2, .inl (cZ, 9 + 1, .inl LW)), (w3, .inl (cI, 9 + 1, .inl BW))] ++ [(ou, .inl (cJ, 1, .inr (.inl (vp_updL OU (nI 0).toNatClampNeg 0))))]) t9.heap; rw [ht9]; exact hP⟩, hS.F ht9⟩) hS.2.2 dL_holds_23

set_option maxHeartbeats 4000000 in
set_option maxRecDepth 100000 in
/-- it answers -/
theorem kh_holds1 (l : Launch) (D : va_G) (cI cZ cJ : ClassId) (sz : Nat) (sm ot : Nat → Nat → Bool) (n : Nat) (fr to : Nat → Nat) (li : Nat → Bool) (S O Fr To Li : Nat → Int32) (nm : Int32) (h a1 a2 a3 a4 a5 : Nat) (VW EW LW BW : Nat → Int32) (flw : Int32) (VA : Nat → Nat) (HA : Nat → Option Nat) (x0 hh w k0 : Nat) (w0 w1 w2 w3 : Nat) (OU : Nat → Int64) (ou : Nat) (hC : hs_cl S O Fr To Li sm ot n fr to li) (hV : ∀ j, j < 6 → VW j = nI (VA j)) (hV9 : ∀ j, j < 6 → VA j ≤ 9) (hW : hs_hp 9 EW LW BW HA (fun _ => false) (fun a => a)) : Met l yL_holds (Cond.codeWith yL_holds cL_holds 4 (some .int) [(0, 16, 19, 13)] :: hwG) { frames := 4, cells := 0, slots := 0, locals := 94 } (hp_M [.ref x0, .int (nI 1), .ref ou] D cI cZ cJ [(x0, .inr (3, [.ref hh, .ref h, .ref w, .ref k0])), (h, .inr (1, [.ref a1, .ref a2, .ref a3, .ref a4, .ref a5, .int (nI n), .int nm])), (a1, .inl (cI, 6, .inl S)), (a2, .inl (cI, 6, .inl O)), (a3, .inl (cI, 5, .inl Fr)), (a4, .inl (cI, 5, .inl To)), (a5, .inl (cZ, 5, .inl Li)), (w, .inr (2, [.ref w0, .int (nI 9), .ref w1, .ref w2, .ref w3, .int flw])), (w0, .inl (cI, 6, .inl VW)), (w1, .inl (cI, 9 + 1, .inl EW)), (w2, .inl (cZ, 9 + 1, .inl LW)), (w3, .inl (cI, 9 + 1, .inl BW)), (ou, .inl (cJ, 1, .inr (.inl OU)))] sz) (va_Qi (S := Unit × (Nat → Int64)) (fun r u => r = nI 0 ∧ ∃ r9, (fun r => ∃ q, hs_tb HA (fun _ => false) (fun a => a) VA sm ot n fr to li q ∧ hc_r r (q = flw)) r9 ∧ u.2 0 = r9.toInt64) (fun u t => va_P D vwCl ([(x0, .inr (3, [.ref hh, .ref h, .ref w, .ref k0])), (h, .inr (1, [.ref a1, .ref a2, .ref a3, .ref a4, .ref a5, .int (nI n), .int nm])), (a1, .inl (cI, 6, .inl S)), (a2, .inl (cI, 6, .inl O)), (a3, .inl (cI, 5, .inl Fr)), (a4, .inl (cI, 5, .inl To)), (a5, .inl (cZ, 5, .inl Li)), (w, .inr (2, [.ref w0, .int (nI 9), .ref w1, .ref w2, .ref w3, .int flw])), (w0, .inl (cI, 6, .inl VW)), (w1, .inl (cI, 9 + 1, .inl EW)), (w2, .inl (cZ, 9 + 1, .inl LW)), (w3, .inl (cI, 9 + 1, .inl BW))] ++ [(ou, .inl (cJ, 1, .inr (.inl u.2)))]) t.heap) (va_A [(x0, .inr (3, [.ref hh, .ref h, .ref w, .ref k0])), (h, .inr (1, [.ref a1, .ref a2, .ref a3, .ref a4, .ref a5, .int (nI n), .int nm])), (a1, .inl (cI, 6, .inl S)), (a2, .inl (cI, 6, .inl O)), (a3, .inl (cI, 5, .inl Fr)), (a4, .inl (cI, 5, .inl To)), (a5, .inl (cZ, 5, .inl Li)), (w, .inr (2, [.ref w0, .int (nI 9), .ref w1, .ref w2, .ref w3, .int flw])), (w0, .inl (cI, 6, .inl VW)), (w1, .inl (cI, 9 + 1, .inl EW)), (w2, .inl (cZ, 9 + 1, .inl LW)), (w3, .inl (cI, 9 + 1, .inl BW)), (ou, .inl (cJ, 1, .inr (.inl OU)))] sz)) 0 0 (va_A [(x0, .inr (3, [.ref hh, .ref h, .ref w, .ref k0])), (h, .inr (1, [.ref a1, .ref a2, .ref a3, .ref a4, .ref a5, .int (nI n), .int nm])), (a1, .inl (cI, 6, .inl S)), (a2, .inl (cI, 6, .inl O)), (a3, .inl (cI, 5, .inl Fr)), (a4, .inl (cI, 5, .inl To)), (a5, .inl (cZ, 5, .inl Li)), (w, .inr (2, [.ref w0, .int (nI 9), .ref w1, .ref w2, .ref w3, .int flw])), (w0, .inl (cI, 6, .inl VW)), (w1, .inl (cI, 9 + 1, .inl EW)), (w2, .inl (cZ, 9 + 1, .inl LW)), (w3, .inl (cI, 9 + 1, .inl BW)), (ou, .inl (cJ, 1, .inr (.inl OU)))] sz) := by
  refine va_MetW (cc := cL_holds) (maxL := 4) (ret := (some .int)) (hh := [(0, 16, 19, 13)]) (by decide) rfl ?_
  intro p e s m args below meth c s₁ B hml hv
  obtain ⟨rfl, hsz, hP, hz, hD0⟩ := hv
  have hx := B.exec
  have hb := B.bytes
  have hr := B.returns
  have hts := atoms_spec (ws := (Cond.codeWith yL_holds cL_holds 4 (some .int) [(0, 16, 19, 13)] :: hwG)) B.pre
  have htg := fun w h => hts w (List.mem_cons_of_mem _ h)
  have hown : s.vm.findClass RL = some m.cls := findClass_of_methodNamed B.named
  have hlocks := B.notSynchronized
  have hK := hz.1
  have htab := hw_tab (hts _ List.mem_cons_self) B.named B.method (Stand.of_body B).code
  subst hsz
  have hD := hD0.self (sz := s.heap.size)
  generalize hAe : va_A [(x0, .inr (3, [.ref hh, .ref h, .ref w, .ref k0])), (h, .inr (1, [.ref a1, .ref a2, .ref a3, .ref a4, .ref a5, .int (nI n), .int nm])), (a1, .inl (cI, 6, .inl S)), (a2, .inl (cI, 6, .inl O)), (a3, .inl (cI, 5, .inl Fr)), (a4, .inl (cI, 5, .inl To)), (a5, .inl (cZ, 5, .inl Li)), (w, .inr (2, [.ref w0, .int (nI 9), .ref w1, .ref w2, .ref w3, .int flw])), (w0, .inl (cI, 6, .inl VW)), (w1, .inl (cI, 9 + 1, .inl EW)), (w2, .inl (cZ, 9 + 1, .inl LW)), (w3, .inl (cI, 9 + 1, .inl BW)), (ou, .inl (cJ, 1, .inr (.inl OU)))] s.heap.size = A at hD ⊢
  have hA : ∀ q : Nat, s.heap.size ≤ q → A q := fun q h => by rw [← hAe]; exact Or.inr h
  have hS : va_S A s.heap s.heap [] := va_S.rf
  have hl := lv_entry ([.ref x0, .int (nI 1), .ref ou]) (n := 4) (Nat.le_of_ble_eq_true rfl)
  rw [lg_entry_eq]
  generalize (lg_sl ([.ref x0, .int (nI 1), .ref ou]) ++ List.replicate (4 - (lg_sl ([.ref x0, .int (nI 1), .ref ou])).length) Slot.unset).toArray = ls at hl ⊢
  replace hl : lv_has ls 4 [(0, .ref x0), (1, .int (nI 1)), (2, .ref ou)] := hl
  replace hP : va_P D vwCl [(x0, .inr (3, [.ref hh, .ref h, .ref w, .ref k0])), (h, .inr (1, [.ref a1, .ref a2, .ref a3, .ref a4, .ref a5, .int (nI n), .int nm])), (a1, .inl (cI, 6, .inl S)), (a2, .inl (cI, 6, .inl O)), (a3, .inl (cI, 5, .inl Fr)), (a4, .inl (cI, 5, .inl To)), (a5, .inl (cZ, 5, .inl Li)), (w, .inr (2, [.ref w0, .int (nI 9), .ref w1, .ref w2, .ref w3, .int flw])), (w0, .inl (cI, 6, .inl VW)), (w1, .inl (cI, 9 + 1, .inl EW)), (w2, .inl (cZ, 9 + 1, .inl LW)), (w3, .inl (cI, 9 + 1, .inl BW)), (ou, .inl (cJ, 1, .inr (.inl OU)))] s.heap := hP
  refine lv_aload_n hx hb dL_holds_0 rfl (lv_at hl 2 rfl) ?_
  refine lv_iconst (v := nI 0) hx hb dL_holds_1 (by decide) ?_
  refine lv_aload_n hx hb dL_holds_2 rfl (lv_at hl 0 rfl) ?_
  refine lv_iload_n hx hb dL_holds_3 rfl (lv_at hl 1 rfl) ?_
  refine hw_csi (va_runV (C := RX3) (b := x0) (As := [.int (nI 1)]) (rest := [.int (nI 0), .ref ou]) ⟨hx, hb, hml, hown, htg⟩ (k_X3_holds1 l D cI cZ cJ sm ot n fr to li S O Fr To Li nm h a1 a2 a3 a4 a5 VW EW LW BW flw VA HA x0 hh w k0 w0 w1 w2 w3 hC hV hV9 hW) (cwV 1 htg (hg_V hm_414 hm_415 hm_416 hm_1 hm_417) rfl rfl rfl (by decide +kernel) ⟨Nat.le_of_ble_eq_true rfl, Nat.le_of_ble_eq_true rfl⟩) ⟨hp_R_blind, va_recv (q := (RX3, TX3, 4)) (q0 := 0) (ci := 3) hK hP rfl rfl, hp_R_pre (hP.sub (ws' := [(x0, .inr (3, [.ref hh, .ref h, .ref w, .ref k0])), (h, .inr (1, [.ref a1, .ref a2, .ref a3, .ref a4, .ref a5, .int (nI n), .int nm])), (a1, .inl (cI, 6, .inl S)), (a2, .inl (cI, 6, .inl O)), (a3, .inl (cI, 5, .inl Fr)), (a4, .inl (cI, 5, .inl To)), (a5, .inl (cZ, 5, .inl Li)), (w, .inr (2, [.ref w0, .int (nI 9), .ref w1, .ref w2, .ref w3, .int flw])), (w0, .inl (cI, 6, .inl VW)), (w1, .inl (cI, 9 + 1, .inl EW)), (w2, .inl (cZ, 9 + 1, .inl LW)), (w3, .inl (cI, 9 + 1, .inl BW))]) [0, 1, 2, 3, 4, 5, 6, 7, 8, 9, 10, 11] rfl) hz⟩ rfl rfl hl.1 rfl (lv_room (Nat.le_of_ble_eq_true rfl)) dL_holds_4 ⟨Nat.zero_le _, Nat.zero_le _⟩) (fun r9 h1 => ?_)
  replace hP : va_P D vwCl ([(x0, .inr (3, [.ref hh, .ref h, .ref w, .ref k0])), (h, .inr (1, [.ref a1, .ref a2, .ref a3, .ref a4, .ref a5, .int (nI n), .int nm])), (a1, .inl (cI, 6, .inl S)), (a2, .inl (cI, 6, .inl O)), (a3, .inl (cI, 5, .inl Fr)), (a4, .inl (cI, 5, .inl To)), (a5, .inl (cZ, 5, .inl Li)), (w, .inr (2, [.ref w0, .int (nI 9), .ref w1, .ref w2, .ref w3, .int flw])), (w0, .inl (cI, 6, .inl VW)), (w1, .inl (cI, 9 + 1, .inl EW)), (w2, .inl (cZ, 9 + 1, .inl LW)), (w3, .inl (cI, 9 + 1, .inl BW))] ++ [(ou, .inl (cJ, 1, .inr (.inl OU)))]) s.heap := hP
  obtain ⟨q9, hq9, ⟨rfl, h1⟩ | ⟨rfl, h1⟩⟩ := h1
  · refine lv_if_eq hx hb dL_holds_7 rfl (fun hc9 => absurd hc9 (by decide)) (fun hc9 => ?_)
    refine lv_lconst (v := 1) hx hb dL_holds_10 rfl ?_
    refine lv_goto hx hb dL_holds_11 rfl ?_
    refine va_last hx hb hK hP hD hS 12 2 rfl rfl (i := nI 0) (x := 1) (nI_in (c := 0) (N := 1) (by omega) (by omega)) dL_holds_15 (fun H locs hP hD hS => ?_)
    replace hP : va_P D vwCl ([(x0, .inr (3, [.ref hh, .ref h, .ref w, .ref k0])), (h, .inr (1, [.ref a1, .ref a2, .ref a3, .ref a4, .ref a5, .int (nI n), .int nm])), (a1, .inl (cI, 6, .inl S)), (a2, .inl (cI, 6, .inl O)), (a3, .inl (cI, 5, .inl Fr)), (a4, .inl (cI, 5, .inl To)), (a5, .inl (cZ, 5, .inl Li)), (w, .inr (2, [.ref w0, .int (nI 9), .ref w1, .ref w2, .ref w3, .int flw])), (w0, .inl (cI, 6, .inl VW)), (w1, .inl (cI, 9 + 1, .inl EW)), (w2, .inl (cZ, 9 + 1, .inl LW)), (w3, .inl (cI, 9 + 1, .inl BW))] ++ [(ou, .inl (cJ, 1, .inr (.inl (vp_updL OU (nI 0).toNatClampNeg 1))))]) H := hP
    refine lv_goto hx hb dL_holds_16 rfl ?_
    refine lv_iconst (v := nI 0) hx hb dL_holds_22 (by decide) ?_
    exact W.iret (v := nI 0) hx hb hr (fun t9 ht9 hW9 => ⟨⟨_, ((), vp_updL OU (nI 0).toNatClampNeg 1), rfl, ⟨rfl, _, ⟨q9, hq9, Or.inl ⟨rfl, h1⟩⟩, by show vp_updL OU (nI 0).toNatClampNeg 1 0 = _; rw [show (nI 0).toNatClampNeg = 0 from by decide]; unfold vp_updL; rw [if_pos rfl]; decide⟩, by show va_P D vwCl ([(x0, .inr (3, [.ref hh, .ref h, .ref w, .ref k0])), (h, .inr (1, [.ref a1, .ref a2, .ref a3, .ref a4, .ref a5, .int (nI n), .int nm])), (a1, .inl (cI, 6, .inl S)), (a2, .inl (cI, 6, .inl O)), (a3, .inl (cI, 5, .inl Fr)), (a4, .inl (cI, 5, .inl To)), (a5, .inl (cZ, 5, .inl Li)), (w, .inr (2, [.ref w0, .int (nI 9), .ref w1, .ref w2, .ref w3, .int flw])), (w0, .inl (cI, 6, .inl VW)), (w1, .inl (cI, 9 + 1, .inl EW)), (w2, .inl (cZ, 9 + 1, .inl LW)), (w3, .inl (cI, 9 + 1, .inl BW))] ++ [(ou, .inl (cJ, 1, .inr (.inl (vp_updL OU (nI 0).toNatClampNeg 1))))]) t9.heap; rw [ht9]; exact hP⟩, hS.F ht9⟩) hS.2.2 dL_holds_23
  · refine lv_if_eq hx hb dL_holds_7 rfl (fun hc9 => ?_) (fun hc9 => absurd rfl hc9)
    refine lv_lconst (v := 0) hx hb dL_holds_14 rfl ?_
    refine va_last hx hb hK hP hD hS 12 2 rfl rfl (i := nI 0) (x := 0) (nI_in (c := 0) (N := 1) (by omega) (by omega)) dL_holds_15 (fun H locs hP hD hS => ?_)
    replace hP : va_P D vwCl ([(x0, .inr (3, [.ref hh, .ref h, .ref w, .ref k0])), (h, .inr (1, [.ref a1, .ref a2, .ref a3, .ref a4, .ref a5, .int (nI n), .int nm])), (a1, .inl (cI, 6, .inl S)), (a2, .inl (cI, 6, .inl O)), (a3, .inl (cI, 5, .inl Fr)), (a4, .inl (cI, 5, .inl To)), (a5, .inl (cZ, 5, .inl Li)), (w, .inr (2, [.ref w0, .int (nI 9), .ref w1, .ref w2, .ref w3, .int flw])), (w0, .inl (cI, 6, .inl VW)), (w1, .inl (cI, 9 + 1, .inl EW)), (w2, .inl (cZ, 9 + 1, .inl LW)), (w3, .inl (cI, 9 + 1, .inl BW))] ++ [(ou, .inl (cJ, 1, .inr (.inl (vp_updL OU (nI 0).toNatClampNeg 0))))]) H := hP
    refine lv_goto hx hb dL_holds_16 rfl ?_
    refine lv_iconst (v := nI 0) hx hb dL_holds_22 (by decide) ?_
    exact W.iret (v := nI 0) hx hb hr (fun t9 ht9 hW9 => ⟨⟨_, ((), vp_updL OU (nI 0).toNatClampNeg 0), rfl, ⟨rfl, _, ⟨q9, hq9, Or.inr ⟨rfl, h1⟩⟩, by show vp_updL OU (nI 0).toNatClampNeg 0 0 = _; rw [show (nI 0).toNatClampNeg = 0 from by decide]; unfold vp_updL; rw [if_pos rfl]; decide⟩, by show va_P D vwCl ([(x0, .inr (3, [.ref hh, .ref h, .ref w, .ref k0])), (h, .inr (1, [.ref a1, .ref a2, .ref a3, .ref a4, .ref a5, .int (nI n), .int nm])), (a1, .inl (cI, 6, .inl S)), (a2, .inl (cI, 6, .inl O)), (a3, .inl (cI, 5, .inl Fr)), (a4, .inl (cI, 5, .inl To)), (a5, .inl (cZ, 5, .inl Li)), (w, .inr (2, [.ref w0, .int (nI 9), .ref w1, .ref w2, .ref w3, .int flw])), (w0, .inl (cI, 6, .inl VW)), (w1, .inl (cI, 9 + 1, .inl EW)), (w2, .inl (cZ, 9 + 1, .inl LW)), (w3, .inl (cI, 9 + 1, .inl BW))] ++ [(ou, .inl (cJ, 1, .inr (.inl (vp_updL OU (nI 0).toNatClampNeg 0))))]) t9.heap; rw [ht9]; exact hP⟩, hS.F ht9⟩) hS.2.2 dL_holds_23

set_option maxHeartbeats 4000000 in
set_option maxRecDepth 100000 in
/-- it throws -/
theorem kh_piece_x (l : Launch) (hst : l.stackTraces = false) (sa : Nat → Nat) (D : va_G) (cI cZ cJ : ClassId) (sz : Nat) (cx a b : Nat) (o : Bool) (x0 h hh w k0 : Nat) (ou : Nat) (hcx : cx < 2 ^ 32) (ha : a < 2 ^ 32) (hb9 : b < 2 ^ 32) (hbad : ¬ (cx < 2 ∧ a < 6 ∧ b < 6)) : Met l yL_piece (Cond.codeWith yL_piece cL_piece 7 (some .int) [(0, 14, 17, 13), (0, 14, 21, 19)] :: hwG) { frames := 8, cells := 1, slots := 6, locals := 128 } (hp_H [.ref x0, .int (nI cx), .int (nI a), .int (nI b), .int (hc_b o), .ref ou] D cI cZ cJ [(x0, .inr (3, [.ref h, .ref hh, .ref w, .ref k0]))] sa sz) (va_Qi (S := Unit) (fun r _ => r = nI 1) (fun u t => va_P D vwCl ([(x0, .inr (3, [.ref h, .ref hh, .ref w, .ref k0]))]) t.heap) (va_A [(x0, .inr (3, [.ref h, .ref hh, .ref w, .ref k0]))] sz)) 1 6 (va_A [(x0, .inr (3, [.ref h, .ref hh, .ref w, .ref k0]))] sz) := by
  refine va_MetW (cc := cL_piece) (maxL := 7) (ret := (some .int)) (hh := [(0, 14, 17, 13), (0, 14, 21, 19)]) (by decide) rfl ?_
  intro p e s m args below meth c s₁ B hml hv
  obtain ⟨rfl, hsz, hP, hz, hD0, hE, hNc⟩ := hv
  have hx := B.exec
  have hb := B.bytes
  have hr := B.returns
  have hts := atoms_spec (ws := (Cond.codeWith yL_piece cL_piece 7 (some .int) [(0, 14, 17, 13), (0, 14, 21, 19)] :: hwG)) B.pre
  have htg := fun w h => hts w (List.mem_cons_of_mem _ h)
  have hown : s.vm.findClass RL = some m.cls := findClass_of_methodNamed B.named
  have hlocks := B.notSynchronized
  have hK := hz.1
  have htab := hw_tab (hts _ List.mem_cons_self) B.named B.method (Stand.of_body B).code
  subst hsz
  have hD := hD0.self (sz := s.heap.size)
  generalize hAe : va_A [(x0, .inr (3, [.ref h, .ref hh, .ref w, .ref k0]))] s.heap.size = A at hD ⊢
  have hA : ∀ q : Nat, s.heap.size ≤ q → A q := fun q h => by rw [← hAe]; exact Or.inr h
  have hS : va_S A s.heap s.heap [] := va_S.rf
  have hl := lv_entry ([.ref x0, .int (nI cx), .int (nI a), .int (nI b), .int (hc_b o), .ref ou]) (n := 7) (Nat.le_of_ble_eq_true rfl)
  rw [lg_entry_eq]
  generalize (lg_sl ([.ref x0, .int (nI cx), .int (nI a), .int (nI b), .int (hc_b o), .ref ou]) ++ List.replicate (7 - (lg_sl ([.ref x0, .int (nI cx), .int (nI a), .int (nI b), .int (hc_b o), .ref ou])).length) Slot.unset).toArray = ls at hl ⊢
  replace hl : lv_has ls 7 [(0, .ref x0), (1, .int (nI cx)), (2, .int (nI a)), (3, .int (nI b)), (4, .int (hc_b o)), (5, .ref ou)] := hl
  replace hP : va_P D vwCl [(x0, .inr (3, [.ref h, .ref hh, .ref w, .ref k0]))] s.heap := hP
  refine lv_aload hx hb dL_piece_0 (lv_at hl 5 rfl) ?_
  refine lv_iconst (v := nI 0) hx hb dL_piece_2 (by decide) ?_
  refine lv_aload_n hx hb dL_piece_3 rfl (lv_at hl 0 rfl) ?_
  refine lv_iload_n hx hb dL_piece_4 rfl (lv_at hl 1 rfl) ?_
  refine lv_iload_n hx hb dL_piece_5 rfl (lv_at hl 2 rfl) ?_
  refine lv_iload_n hx hb dL_piece_6 rfl (lv_at hl 3 rfl) ?_
  refine lv_iload hx hb dL_piece_7 (lv_at hl 4 rfl) ?_
  obtain ⟨⟨b1, b2, b3, b4⟩, ⟨d1, d2, d3, d4⟩, hsp, hx1, hx2⟩ := hw_t2 htab
  cases hx1
  cases hx2
  refine hx_catch (E := hxI) (own := RL) (name := "java/lang/IndexOutOfBoundsException") (hx_runV (C := RX3) (b := x0) (As := [.int (nI cx), .int (nI a), .int (nI b), .int (hc_b o)]) (rest := [.int (nI 0), .ref ou]) ⟨hx, hb, hml, hown, htg⟩ (kx_X3_piece l hst D cI cZ cJ sa cx a b o x0 h hh w k0 hcx ha hb9 hbad) (cwV 4 htg (hg_V hm_303 hm_304 hm_305 hm_1 hm_306) rfl rfl rfl (by decide +kernel) ⟨Nat.le_of_ble_eq_true rfl, Nat.le_of_ble_eq_true rfl⟩) ⟨hp_X_blind, va_recv (q := (RX3, TX3, 4)) (q0 := 0) (ci := 3) hK hP rfl rfl, hp_X_pre (hP.sub (ws' := [(x0, .inr (3, [.ref h, .ref hh, .ref w, .ref k0]))]) [0] rfl) hz hE⟩ rfl rfl hl.1 rfl (lv_room (Nat.le_of_ble_eq_true rfl)) dL_piece_9 ⟨Nat.le_of_ble_eq_true rfl, Nat.le_of_ble_eq_true rfl⟩) hown [] ⟨0, 14, 17, 13⟩ [⟨0, 14, 21, 19⟩] hsp (fun z hz9 => absurd hz9 List.not_mem_nil) (by decide) (by decide) (htg _ hm_212) (hE.1.2 _ (by simp [hxB, hxI]) _) (fun q9 H hq1 hq2 => ?_)
  replace hS : va_S A s.heap H [] := ⟨hq1, fun q hq _ => hq2 q hq, fun _ h => nomatch h⟩
  replace hP := hP.kept (H1 := H) (fun k x hx => hq2 x.1 ((hP k x hx).lt))
  replace hP : va_P D vwCl [(x0, .inr (3, [.ref h, .ref hh, .ref w, .ref k0]))] H := hP
  replace hD : va_D A [(x0, .inr (3, [.ref h, .ref hh, .ref w, .ref k0]))] := hD
  refine lv_astore hx hb dL_piece_17 hl (by decide) rfl (fun ls hl => ?_)
  replace hl : lv_has ls 7 [(6, .ref q9), (0, .ref x0), (1, .int (nI cx)), (2, .int (nI a)), (3, .int (nI b)), (4, .int (hc_b o)), (5, .ref ou)] := hl
  refine lv_iconst (v := nI 1) hx hb dL_piece_19 (by decide) ?_
  exact W.iret (v := nI 1) hx hb hr (fun t9 ht9 hW9 => ⟨⟨_, (), rfl, rfl, by show va_P D vwCl [(x0, .inr (3, [.ref h, .ref hh, .ref w, .ref k0]))] t9.heap; rw [ht9]; exact hP⟩, hS.F ht9⟩) hS.2.2 dL_piece_20

set_option maxHeartbeats 4000000 in
set_option maxRecDepth 100000 in
/-- it throws -/
theorem kh_piece_f0 (l : Launch) (hst : l.stackTraces = false) (sa : Nat → Nat) (D : va_G) (cI cZ cJ : ClassId) (sz : Nat) (a b : Nat) (o : Bool) (nm : Int32) (h a1 a2 a3 a4 a5 : Nat) (x0 hh w k0 : Nat) (ou : Nat) (ha : a < 6) (hb6 : b < 6) : Met l yL_piece (Cond.codeWith yL_piece cL_piece 7 (some .int) [(0, 14, 17, 13), (0, 14, 21, 19)] :: hwG) { frames := 7, cells := 1, slots := 6, locals := 107 } (hp_H [.ref x0, .int (nI 0), .int (nI a), .int (nI b), .int (hc_b o), .ref ou] D cI cZ cJ [(x0, .inr (3, [.ref h, .ref hh, .ref w, .ref k0])), (h, .inr (1, [.ref a1, .ref a2, .ref a3, .ref a4, .ref a5, .int (nI 5), .int nm]))] sa sz) (va_Qi (S := Unit) (fun r _ => r = nI 2) (fun u t => va_P D vwCl ([(x0, .inr (3, [.ref h, .ref hh, .ref w, .ref k0])), (h, .inr (1, [.ref a1, .ref a2, .ref a3, .ref a4, .ref a5, .int (nI 5), .int nm]))]) t.heap) (va_A [(x0, .inr (3, [.ref h, .ref hh, .ref w, .ref k0])), (h, .inr (1, [.ref a1, .ref a2, .ref a3, .ref a4, .ref a5, .int (nI 5), .int nm]))] sz)) 1 6 (va_A [(x0, .inr (3, [.ref h, .ref hh, .ref w, .ref k0])), (h, .inr (1, [.ref a1, .ref a2, .ref a3, .ref a4, .ref a5, .int (nI 5), .int nm]))] sz) := by
  refine va_MetW (cc := cL_piece) (maxL := 7) (ret := (some .int)) (hh := [(0, 14, 17, 13), (0, 14, 21, 19)]) (by decide) rfl ?_
  intro p e s m args below meth c s₁ B hml hv
  obtain ⟨rfl, hsz, hP, hz, hD0, hE, hNc⟩ := hv
  have hx := B.exec
  have hb := B.bytes
  have hr := B.returns
  have hts := atoms_spec (ws := (Cond.codeWith yL_piece cL_piece 7 (some .int) [(0, 14, 17, 13), (0, 14, 21, 19)] :: hwG)) B.pre
  have htg := fun w h => hts w (List.mem_cons_of_mem _ h)
  have hown : s.vm.findClass RL = some m.cls := findClass_of_methodNamed B.named
  have hlocks := B.notSynchronized
  have hK := hz.1
  have htab := hw_tab (hts _ List.mem_cons_self) B.named B.method (Stand.of_body B).code
  subst hsz
  have hD := hD0.self (sz := s.heap.size)
  generalize hAe : va_A [(x0, .inr (3, [.ref h, .ref hh, .ref w, .ref k0])), (h, .inr (1, [.ref a1, .ref a2, .ref a3, .ref a4, .ref a5, .int (nI 5), .int nm]))] s.heap.size = A at hD ⊢
  have hA : ∀ q : Nat, s.heap.size ≤ q → A q := fun q h => by rw [← hAe]; exact Or.inr h
  have hS : va_S A s.heap s.heap [] := va_S.rf
  have hl := lv_entry ([.ref x0, .int (nI 0), .int (nI a), .int (nI b), .int (hc_b o), .ref ou]) (n := 7) (Nat.le_of_ble_eq_true rfl)
  rw [lg_entry_eq]
  generalize (lg_sl ([.ref x0, .int (nI 0), .int (nI a), .int (nI b), .int (hc_b o), .ref ou]) ++ List.replicate (7 - (lg_sl ([.ref x0, .int (nI 0), .int (nI a), .int (nI b), .int (hc_b o), .ref ou])).length) Slot.unset).toArray = ls at hl ⊢
  replace hl : lv_has ls 7 [(0, .ref x0), (1, .int (nI 0)), (2, .int (nI a)), (3, .int (nI b)), (4, .int (hc_b o)), (5, .ref ou)] := hl
  replace hP : va_P D vwCl [(x0, .inr (3, [.ref h, .ref hh, .ref w, .ref k0])), (h, .inr (1, [.ref a1, .ref a2, .ref a3, .ref a4, .ref a5, .int (nI 5), .int nm]))] s.heap := hP
  refine lv_aload hx hb dL_piece_0 (lv_at hl 5 rfl) ?_
  refine lv_iconst (v := nI 0) hx hb dL_piece_2 (by decide) ?_
  refine lv_aload_n hx hb dL_piece_3 rfl (lv_at hl 0 rfl) ?_
  refine lv_iload_n hx hb dL_piece_4 rfl (lv_at hl 1 rfl) ?_
  refine lv_iload_n hx hb dL_piece_5 rfl (lv_at hl 2 rfl) ?_
  refine lv_iload_n hx hb dL_piece_6 rfl (lv_at hl 3 rfl) ?_
  refine lv_iload hx hb dL_piece_7 (lv_at hl 4 rfl) ?_
  obtain ⟨⟨b1, b2, b3, b4⟩, ⟨d1, d2, d3, d4⟩, hsp, hx1, hx2⟩ := hw_t2 htab
  cases hx1
  cases hx2
  refine hx_catch (E := hxG) (own := RL) (name := "java/lang/IllegalStateException") (hx_runV (C := RX3) (b := x0) (As := [.int (nI 0), .int (nI a), .int (nI b), .int (hc_b o)]) (rest := [.int (nI 0), .ref ou]) ⟨hx, hb, hml, hown, htg⟩ (kf_X3_piece0 l hst D cI cZ cJ sa a b o nm h a1 a2 a3 a4 a5 x0 hh w k0 ha hb6) (cwV 4 htg (hg_V hm_303 hm_304 hm_305 hm_1 hm_306) rfl rfl rfl (by decide +kernel) ⟨Nat.le_of_ble_eq_true rfl, Nat.le_of_ble_eq_true rfl⟩) ⟨hp_X_blind, va_recv (q := (RX3, TX3, 4)) (q0 := 0) (ci := 3) hK hP rfl rfl, hp_X_pre (hP.sub (ws' := [(x0, .inr (3, [.ref h, .ref hh, .ref w, .ref k0])), (h, .inr (1, [.ref a1, .ref a2, .ref a3, .ref a4, .ref a5, .int (nI 5), .int nm]))]) [0, 1] rfl) hz hE⟩ rfl rfl hl.1 rfl (lv_room (Nat.le_of_ble_eq_true rfl)) dL_piece_9 ⟨Nat.le_of_ble_eq_true rfl, Nat.le_of_ble_eq_true rfl⟩) hown [⟨0, 14, 17, 13⟩] ⟨0, 14, 21, 19⟩ [] hsp (fun z hz9 => by rw [List.mem_singleton.mp hz9]; exact Or.inr ⟨by decide, _, (htg _ hm_212), hNc.1⟩) (by decide) (by decide) (htg _ hm_302) (hE.1.2 _ (by simp [hxB, hxG]) _) (fun q9 H hq1 hq2 => ?_)
  replace hS : va_S A s.heap H [] := ⟨hq1, fun q hq _ => hq2 q hq, fun _ h => nomatch h⟩
  replace hP := hP.kept (H1 := H) (fun k x hx => hq2 x.1 ((hP k x hx).lt))
  replace hP : va_P D vwCl [(x0, .inr (3, [.ref h, .ref hh, .ref w, .ref k0])), (h, .inr (1, [.ref a1, .ref a2, .ref a3, .ref a4, .ref a5, .int (nI 5), .int nm]))] H := hP
  replace hD : va_D A [(x0, .inr (3, [.ref h, .ref hh, .ref w, .ref k0])), (h, .inr (1, [.ref a1, .ref a2, .ref a3, .ref a4, .ref a5, .int (nI 5), .int nm]))] := hD
  refine lv_astore hx hb dL_piece_21 hl (by decide) rfl (fun ls hl => ?_)
  replace hl : lv_has ls 7 [(6, .ref q9), (0, .ref x0), (1, .int (nI 0)), (2, .int (nI a)), (3, .int (nI b)), (4, .int (hc_b o)), (5, .ref ou)] := hl
  refine lv_iconst (v := nI 2) hx hb dL_piece_23 (by decide) ?_
  exact W.iret (v := nI 2) hx hb hr (fun t9 ht9 hW9 => ⟨⟨_, (), rfl, rfl, by show va_P D vwCl [(x0, .inr (3, [.ref h, .ref hh, .ref w, .ref k0])), (h, .inr (1, [.ref a1, .ref a2, .ref a3, .ref a4, .ref a5, .int (nI 5), .int nm]))] t9.heap; rw [ht9]; exact hP⟩, hS.F ht9⟩) hS.2.2 dL_piece_24

set_option maxHeartbeats 4000000 in
set_option maxRecDepth 100000 in
/-- it throws -/
theorem kh_piece_f1 (l : Launch) (hst : l.stackTraces = false) (sa : Nat → Nat) (D : va_G) (cI cZ cJ : ClassId) (sz : Nat) (a b : Nat) (o : Bool) (nm : Int32) (h a1 a2 a3 a4 a5 : Nat) (x0 hh w k0 : Nat) (ou : Nat) (ha : a < 6) (hb6 : b < 6) : Met l yL_piece (Cond.codeWith yL_piece cL_piece 7 (some .int) [(0, 14, 17, 13), (0, 14, 21, 19)] :: hwG) { frames := 7, cells := 1, slots := 6, locals := 107 } (hp_H [.ref x0, .int (nI 1), .int (nI a), .int (nI b), .int (hc_b o), .ref ou] D cI cZ cJ [(x0, .inr (3, [.ref hh, .ref h, .ref w, .ref k0])), (h, .inr (1, [.ref a1, .ref a2, .ref a3, .ref a4, .ref a5, .int (nI 5), .int nm]))] sa sz) (va_Qi (S := Unit) (fun r _ => r = nI 2) (fun u t => va_P D vwCl ([(x0, .inr (3, [.ref hh, .ref h, .ref w, .ref k0])), (h, .inr (1, [.ref a1, .ref a2, .ref a3, .ref a4, .ref a5, .int (nI 5), .int nm]))]) t.heap) (va_A [(x0, .inr (3, [.ref hh, .ref h, .ref w, .ref k0])), (h, .inr (1, [.ref a1, .ref a2, .ref a3, .ref a4, .ref a5, .int (nI 5), .int nm]))] sz)) 1 6 (va_A [(x0, .inr (3, [.ref hh, .ref h, .ref w, .ref k0])), (h, .inr (1, [.ref a1, .ref a2, .ref a3, .ref a4, .ref a5, .int (nI 5), .int nm]))] sz) := by
  refine va_MetW (cc := cL_piece) (maxL := 7) (ret := (some .int)) (hh := [(0, 14, 17, 13), (0, 14, 21, 19)]) (by decide) rfl ?_
  intro p e s m args below meth c s₁ B hml hv
  obtain ⟨rfl, hsz, hP, hz, hD0, hE, hNc⟩ := hv
  have hx := B.exec
  have hb := B.bytes
  have hr := B.returns
  have hts := atoms_spec (ws := (Cond.codeWith yL_piece cL_piece 7 (some .int) [(0, 14, 17, 13), (0, 14, 21, 19)] :: hwG)) B.pre
  have htg := fun w h => hts w (List.mem_cons_of_mem _ h)
  have hown : s.vm.findClass RL = some m.cls := findClass_of_methodNamed B.named
  have hlocks := B.notSynchronized
  have hK := hz.1
  have htab := hw_tab (hts _ List.mem_cons_self) B.named B.method (Stand.of_body B).code
  subst hsz
  have hD := hD0.self (sz := s.heap.size)
  generalize hAe : va_A [(x0, .inr (3, [.ref hh, .ref h, .ref w, .ref k0])), (h, .inr (1, [.ref a1, .ref a2, .ref a3, .ref a4, .ref a5, .int (nI 5), .int nm]))] s.heap.size = A at hD ⊢
  have hA : ∀ q : Nat, s.heap.size ≤ q → A q := fun q h => by rw [← hAe]; exact Or.inr h
  have hS : va_S A s.heap s.heap [] := va_S.rf
  have hl := lv_entry ([.ref x0, .int (nI 1), .int (nI a), .int (nI b), .int (hc_b o), .ref ou]) (n := 7) (Nat.le_of_ble_eq_true rfl)
  rw [lg_entry_eq]
  generalize (lg_sl ([.ref x0, .int (nI 1), .int (nI a), .int (nI b), .int (hc_b o), .ref ou]) ++ List.replicate (7 - (lg_sl ([.ref x0, .int (nI 1), .int (nI a), .int (nI b), .int (hc_b o), .ref ou])).length) Slot.unset).toArray = ls at hl ⊢
  replace hl : lv_has ls 7 [(0, .ref x0), (1, .int (nI 1)), (2, .int (nI a)), (3, .int (nI b)), (4, .int (hc_b o)), (5, .ref ou)] := hl
  replace hP : va_P D vwCl [(x0, .inr (3, [.ref hh, .ref h, .ref w, .ref k0])), (h, .inr (1, [.ref a1, .ref a2, .ref a3, .ref a4, .ref a5, .int (nI 5), .int nm]))] s.heap := hP
  refine lv_aload hx hb dL_piece_0 (lv_at hl 5 rfl) ?_
  refine lv_iconst (v := nI 0) hx hb dL_piece_2 (by decide) ?_
  refine lv_aload_n hx hb dL_piece_3 rfl (lv_at hl 0 rfl) ?_
  refine lv_iload_n hx hb dL_piece_4 rfl (lv_at hl 1 rfl) ?_
  refine lv_iload_n hx hb dL_piece_5 rfl (lv_at hl 2 rfl) ?_
  refine lv_iload_n hx hb dL_piece_6 rfl (lv_at hl 3 rfl) ?_
  refine lv_iload hx hb dL_piece_7 (lv_at hl 4 rfl) ?_
  obtain ⟨⟨b1, b2, b3, b4⟩, ⟨d1, d2, d3, d4⟩, hsp, hx1, hx2⟩ := hw_t2 htab
  cases hx1
  cases hx2
  refine hx_catch (E := hxG) (own := RL) (name := "java/lang/IllegalStateException") (hx_runV (C := RX3) (b := x0) (As := [.int (nI 1), .int (nI a), .int (nI b), .int (hc_b o)]) (rest := [.int (nI 0), .ref ou]) ⟨hx, hb, hml, hown, htg⟩ (kf_X3_piece1 l hst D cI cZ cJ sa a b o nm h a1 a2 a3 a4 a5 x0 hh w k0 ha hb6) (cwV 4 htg (hg_V hm_303 hm_304 hm_305 hm_1 hm_306) rfl rfl rfl (by decide +kernel) ⟨Nat.le_of_ble_eq_true rfl, Nat.le_of_ble_eq_true rfl⟩) ⟨hp_X_blind, va_recv (q := (RX3, TX3, 4)) (q0 := 0) (ci := 3) hK hP rfl rfl, hp_X_pre (hP.sub (ws' := [(x0, .inr (3, [.ref hh, .ref h, .ref w, .ref k0])), (h, .inr (1, [.ref a1, .ref a2, .ref a3, .ref a4, .ref a5, .int (nI 5), .int nm]))]) [0, 1] rfl) hz hE⟩ rfl rfl hl.1 rfl (lv_room (Nat.le_of_ble_eq_true rfl)) dL_piece_9 ⟨Nat.le_of_ble_eq_true rfl, Nat.le_of_ble_eq_true rfl⟩) hown [⟨0, 14, 17, 13⟩] ⟨0, 14, 21, 19⟩ [] hsp (fun z hz9 => by rw [List.mem_singleton.mp hz9]; exact Or.inr ⟨by decide, _, (htg _ hm_212), hNc.1⟩) (by decide) (by decide) (htg _ hm_302) (hE.1.2 _ (by simp [hxB, hxG]) _) (fun q9 H hq1 hq2 => ?_)
  replace hS : va_S A s.heap H [] := ⟨hq1, fun q hq _ => hq2 q hq, fun _ h => nomatch h⟩
  replace hP := hP.kept (H1 := H) (fun k x hx => hq2 x.1 ((hP k x hx).lt))
  replace hP : va_P D vwCl [(x0, .inr (3, [.ref hh, .ref h, .ref w, .ref k0])), (h, .inr (1, [.ref a1, .ref a2, .ref a3, .ref a4, .ref a5, .int (nI 5), .int nm]))] H := hP
  replace hD : va_D A [(x0, .inr (3, [.ref hh, .ref h, .ref w, .ref k0])), (h, .inr (1, [.ref a1, .ref a2, .ref a3, .ref a4, .ref a5, .int (nI 5), .int nm]))] := hD
  refine lv_astore hx hb dL_piece_21 hl (by decide) rfl (fun ls hl => ?_)
  replace hl : lv_has ls 7 [(6, .ref q9), (0, .ref x0), (1, .int (nI 1)), (2, .int (nI a)), (3, .int (nI b)), (4, .int (hc_b o)), (5, .ref ou)] := hl
  refine lv_iconst (v := nI 2) hx hb dL_piece_23 (by decide) ?_
  exact W.iret (v := nI 2) hx hb hr (fun t9 ht9 hW9 => ⟨⟨_, (), rfl, rfl, by show va_P D vwCl [(x0, .inr (3, [.ref hh, .ref h, .ref w, .ref k0])), (h, .inr (1, [.ref a1, .ref a2, .ref a3, .ref a4, .ref a5, .int (nI 5), .int nm]))] t9.heap; rw [ht9]; exact hP⟩, hS.F ht9⟩) hS.2.2 dL_piece_24

set_option maxHeartbeats 4000000 in
set_option maxRecDepth 100000 in
/-- it throws -/
theorem kh_pieces_x (l : Launch) (hst : l.stackTraces = false) (sa : Nat → Nat) (D : va_G) (cI cZ cJ : ClassId) (sz : Nat) (cx : Nat) (x0 h hh w k0 : Nat) (ou : Nat) (hcx : cx < 2 ^ 32) (hbad : ¬ cx < 2) : Met l yL_pieces (Cond.codeWith yL_pieces cL_pieces 4 (some .int) [(0, 9, 12, 13)] :: hwG) { frames := 8, cells := 1, slots := 6, locals := 124 } (hp_H [.ref x0, .int (nI cx), .ref ou] D cI cZ cJ [(x0, .inr (3, [.ref h, .ref hh, .ref w, .ref k0]))] sa sz) (va_Qi (S := Unit) (fun r _ => r = nI 1) (fun u t => va_P D vwCl ([(x0, .inr (3, [.ref h, .ref hh, .ref w, .ref k0]))]) t.heap) (va_A [(x0, .inr (3, [.ref h, .ref hh, .ref w, .ref k0]))] sz)) 1 6 (va_A [(x0, .inr (3, [.ref h, .ref hh, .ref w, .ref k0]))] sz) := by
  refine va_MetW (cc := cL_pieces) (maxL := 4) (ret := (some .int)) (hh := [(0, 9, 12, 13)]) (by decide) rfl ?_
  intro p e s m args below meth c s₁ B hml hv
  obtain ⟨rfl, hsz, hP, hz, hD0, hE, hNc⟩ := hv
  have hx := B.exec
  have hb := B.bytes
  have hr := B.returns
  have hts := atoms_spec (ws := (Cond.codeWith yL_pieces cL_pieces 4 (some .int) [(0, 9, 12, 13)] :: hwG)) B.pre
  have htg := fun w h => hts w (List.mem_cons_of_mem _ h)
  have hown : s.vm.findClass RL = some m.cls := findClass_of_methodNamed B.named
  have hlocks := B.notSynchronized
  have hK := hz.1
  have htab := hw_tab (hts _ List.mem_cons_self) B.named B.method (Stand.of_body B).code
  subst hsz
  have hD := hD0.self (sz := s.heap.size)
  generalize hAe : va_A [(x0, .inr (3, [.ref h, .ref hh, .ref w, .ref k0]))] s.heap.size = A at hD ⊢
  have hA : ∀ q : Nat, s.heap.size ≤ q → A q := fun q h => by rw [← hAe]; exact Or.inr h
  have hS : va_S A s.heap s.heap [] := va_S.rf
  have hl := lv_entry ([.ref x0, .int (nI cx), .ref ou]) (n := 4) (Nat.le_of_ble_eq_true rfl)
  rw [lg_entry_eq]
  generalize (lg_sl ([.ref x0, .int (nI cx), .ref ou]) ++ List.replicate (4 - (lg_sl ([.ref x0, .int (nI cx), .ref ou])).length) Slot.unset).toArray = ls at hl ⊢
  replace hl : lv_has ls 4 [(0, .ref x0), (1, .int (nI cx)), (2, .ref ou)] := hl
  replace hP : va_P D vwCl [(x0, .inr (3, [.ref h, .ref hh, .ref w, .ref k0]))] s.heap := hP
  refine lv_aload_n hx hb dL_pieces_0 rfl (lv_at hl 2 rfl) ?_
  refine lv_iconst (v := nI 0) hx hb dL_pieces_1 (by decide) ?_
  refine lv_aload_n hx hb dL_pieces_2 rfl (lv_at hl 0 rfl) ?_
  refine lv_iload_n hx hb dL_pieces_3 rfl (lv_at hl 1 rfl) ?_
  obtain ⟨⟨b1, b2, b3, b4⟩, hsp, hx1⟩ := hw_t1 htab
  cases hx1
  refine hx_catch (E := hxI) (own := RL) (name := "java/lang/IndexOutOfBoundsException") (hx_runV (C := RX3) (b := x0) (As := [.int (nI cx)]) (rest := [.int (nI 0), .ref ou]) ⟨hx, hb, hml, hown, htg⟩ (kx_X3_pieces l hst D cI cZ cJ sa cx x0 h hh w k0 hcx hbad) (cwV 1 htg (hg_V hm_342 hm_343 hm_344 hm_1 hm_345) rfl rfl rfl (by decide +kernel) ⟨Nat.le_of_ble_eq_true rfl, Nat.le_of_ble_eq_true rfl⟩) ⟨hp_X_blind, va_recv (q := (RX3, TX3, 4)) (q0 := 0) (ci := 3) hK hP rfl rfl, hp_X_pre (hP.sub (ws' := [(x0, .inr (3, [.ref h, .ref hh, .ref w, .ref k0]))]) [0] rfl) hz hE⟩ rfl rfl hl.1 rfl (lv_room (Nat.le_of_ble_eq_true rfl)) dL_pieces_4 ⟨Nat.le_of_ble_eq_true rfl, Nat.le_of_ble_eq_true rfl⟩) hown [] ⟨0, 9, 12, 13⟩ [] hsp (fun z hz9 => absurd hz9 List.not_mem_nil) (by decide) (by decide) (htg _ hm_212) (hE.1.2 _ (by simp [hxB, hxI]) _) (fun q9 H hq1 hq2 => ?_)
  replace hS : va_S A s.heap H [] := ⟨hq1, fun q hq _ => hq2 q hq, fun _ h => nomatch h⟩
  replace hP := hP.kept (H1 := H) (fun k x hx => hq2 x.1 ((hP k x hx).lt))
  replace hP : va_P D vwCl [(x0, .inr (3, [.ref h, .ref hh, .ref w, .ref k0]))] H := hP
  replace hD : va_D A [(x0, .inr (3, [.ref h, .ref hh, .ref w, .ref k0]))] := hD
  refine lv_astore_n hx hb dL_pieces_12 rfl hl (by decide) rfl (fun ls hl => ?_)
  replace hl : lv_has ls 4 [(3, .ref q9), (0, .ref x0), (1, .int (nI cx)), (2, .ref ou)] := hl
  refine lv_iconst (v := nI 1) hx hb dL_pieces_13 (by decide) ?_
  exact W.iret (v := nI 1) hx hb hr (fun t9 ht9 hW9 => ⟨⟨_, (), rfl, rfl, by show va_P D vwCl [(x0, .inr (3, [.ref h, .ref hh, .ref w, .ref k0]))] t9.heap; rw [ht9]; exact hP⟩, hS.F ht9⟩) hS.2.2 dL_pieces_14

set_option maxHeartbeats 4000000 in
set_option maxRecDepth 100000 in
/-- it throws -/
theorem kh_possible_x (l : Launch) (hst : l.stackTraces = false) (sa : Nat → Nat) (D : va_G) (cI cZ cJ : ClassId) (sz : Nat) (cx : Nat) (x0 h hh w k0 : Nat) (ou : Nat) (hcx : cx < 2 ^ 32) (hbad : ¬ cx < 2) : Met l yL_possible (Cond.codeWith yL_possible cL_possible 4 (some .int) [(0, 16, 19, 13)] :: hwG) { frames := 8, cells := 1, slots := 6, locals := 127 } (hp_H [.ref x0, .int (nI cx), .ref ou] D cI cZ cJ [(x0, .inr (3, [.ref h, .ref hh, .ref w, .ref k0]))] sa sz) (va_Qi (S := Unit) (fun r _ => r = nI 1) (fun u t => va_P D vwCl ([(x0, .inr (3, [.ref h, .ref hh, .ref w, .ref k0]))]) t.heap) (va_A [(x0, .inr (3, [.ref h, .ref hh, .ref w, .ref k0]))] sz)) 1 6 (va_A [(x0, .inr (3, [.ref h, .ref hh, .ref w, .ref k0]))] sz) := by
  refine va_MetW (cc := cL_possible) (maxL := 4) (ret := (some .int)) (hh := [(0, 16, 19, 13)]) (by decide) rfl ?_
  intro p e s m args below meth c s₁ B hml hv
  obtain ⟨rfl, hsz, hP, hz, hD0, hE, hNc⟩ := hv
  have hx := B.exec
  have hb := B.bytes
  have hr := B.returns
  have hts := atoms_spec (ws := (Cond.codeWith yL_possible cL_possible 4 (some .int) [(0, 16, 19, 13)] :: hwG)) B.pre
  have htg := fun w h => hts w (List.mem_cons_of_mem _ h)
  have hown : s.vm.findClass RL = some m.cls := findClass_of_methodNamed B.named
  have hlocks := B.notSynchronized
  have hK := hz.1
  have htab := hw_tab (hts _ List.mem_cons_self) B.named B.method (Stand.of_body B).code
  subst hsz
  have hD := hD0.self (sz := s.heap.size)
  generalize hAe : va_A [(x0, .inr (3, [.ref h, .ref hh, .ref w, .ref k0]))] s.heap.size = A at hD ⊢
  have hA : ∀ q : Nat, s.heap.size ≤ q → A q := fun q h => by rw [← hAe]; exact Or.inr h
  have hS : va_S A s.heap s.heap [] := va_S.rf
  have hl := lv_entry ([.ref x0, .int (nI cx), .ref ou]) (n := 4) (Nat.le_of_ble_eq_true rfl)
  rw [lg_entry_eq]
  generalize (lg_sl ([.ref x0, .int (nI cx), .ref ou]) ++ List.replicate (4 - (lg_sl ([.ref x0, .int (nI cx), .ref ou])).length) Slot.unset).toArray = ls at hl ⊢
  replace hl : lv_has ls 4 [(0, .ref x0), (1, .int (nI cx)), (2, .ref ou)] := hl
  replace hP : va_P D vwCl [(x0, .inr (3, [.ref h, .ref hh, .ref w, .ref k0]))] s.heap := hP
  refine lv_aload_n hx hb dL_possible_0 rfl (lv_at hl 2 rfl) ?_
  refine lv_iconst (v := nI 0) hx hb dL_possible_1 (by decide) ?_
  refine lv_aload_n hx hb dL_possible_2 rfl (lv_at hl 0 rfl) ?_
  refine lv_iload_n hx hb dL_possible_3 rfl (lv_at hl 1 rfl) ?_
  obtain ⟨⟨b1, b2, b3, b4⟩, hsp, hx1⟩ := hw_t1 htab
  cases hx1
  refine hx_catch (E := hxI) (own := RL) (name := "java/lang/IndexOutOfBoundsException") (hx_runV (C := RX3) (b := x0) (As := [.int (nI cx)]) (rest := [.int (nI 0), .ref ou]) ⟨hx, hb, hml, hown, htg⟩ (kx_X3_possible l hst D cI cZ cJ sa cx x0 h hh w k0 hcx hbad) (cwV 1 htg (hg_V hm_349 hm_350 hm_351 hm_1 hm_352) rfl rfl rfl (by decide +kernel) ⟨Nat.le_of_ble_eq_true rfl, Nat.le_of_ble_eq_true rfl⟩) ⟨hp_X_blind, va_recv (q := (RX3, TX3, 4)) (q0 := 0) (ci := 3) hK hP rfl rfl, hp_X_pre (hP.sub (ws' := [(x0, .inr (3, [.ref h, .ref hh, .ref w, .ref k0]))]) [0] rfl) hz hE⟩ rfl rfl hl.1 rfl (lv_room (Nat.le_of_ble_eq_true rfl)) dL_possible_4 ⟨Nat.le_of_ble_eq_true rfl, Nat.le_of_ble_eq_true rfl⟩) hown [] ⟨0, 16, 19, 13⟩ [] hsp (fun z hz9 => absurd hz9 List.not_mem_nil) (by decide) (by decide) (htg _ hm_212) (hE.1.2 _ (by simp [hxB, hxI]) _) (fun q9 H hq1 hq2 => ?_)
  replace hS : va_S A s.heap H [] := ⟨hq1, fun q hq _ => hq2 q hq, fun _ h => nomatch h⟩
  replace hP := hP.kept (H1 := H) (fun k x hx => hq2 x.1 ((hP k x hx).lt))
  replace hP : va_P D vwCl [(x0, .inr (3, [.ref h, .ref hh, .ref w, .ref k0]))] H := hP
  replace hD : va_D A [(x0, .inr (3, [.ref h, .ref hh, .ref w, .ref k0]))] := hD
  refine lv_astore_n hx hb dL_possible_19 rfl hl (by decide) rfl (fun ls hl => ?_)
  replace hl : lv_has ls 4 [(3, .ref q9), (0, .ref x0), (1, .int (nI cx)), (2, .ref ou)] := hl
  refine lv_iconst (v := nI 1) hx hb dL_possible_20 (by decide) ?_
  exact W.iret (v := nI 1) hx hb hr (fun t9 ht9 hW9 => ⟨⟨_, (), rfl, rfl, by show va_P D vwCl [(x0, .inr (3, [.ref h, .ref hh, .ref w, .ref k0]))] t9.heap; rw [ht9]; exact hP⟩, hS.F ht9⟩) hS.2.2 dL_possible_21

set_option maxHeartbeats 4000000 in
set_option maxRecDepth 100000 in
/-- it throws -/
theorem kh_holds_x (l : Launch) (hst : l.stackTraces = false) (sa : Nat → Nat) (D : va_G) (cI cZ cJ : ClassId) (sz : Nat) (cx : Nat) (x0 h hh w k0 : Nat) (ou : Nat) (hcx : cx < 2 ^ 32) (hbad : ¬ cx < 2) : Met l yL_holds (Cond.codeWith yL_holds cL_holds 4 (some .int) [(0, 16, 19, 13)] :: hwG) { frames := 8, cells := 1, slots := 6, locals := 124 } (hp_H [.ref x0, .int (nI cx), .ref ou] D cI cZ cJ [(x0, .inr (3, [.ref h, .ref hh, .ref w, .ref k0]))] sa sz) (va_Qi (S := Unit) (fun r _ => r = nI 1) (fun u t => va_P D vwCl ([(x0, .inr (3, [.ref h, .ref hh, .ref w, .ref k0]))]) t.heap) (va_A [(x0, .inr (3, [.ref h, .ref hh, .ref w, .ref k0]))] sz)) 1 6 (va_A [(x0, .inr (3, [.ref h, .ref hh, .ref w, .ref k0]))] sz) := by
  refine va_MetW (cc := cL_holds) (maxL := 4) (ret := (some .int)) (hh := [(0, 16, 19, 13)]) (by decide) rfl ?_
  intro p e s m args below meth c s₁ B hml hv
  obtain ⟨rfl, hsz, hP, hz, hD0, hE, hNc⟩ := hv
  have hx := B.exec
  have hb := B.bytes
  have hr := B.returns
  have hts := atoms_spec (ws := (Cond.codeWith yL_holds cL_holds 4 (some .int) [(0, 16, 19, 13)] :: hwG)) B.pre
  have htg := fun w h => hts w (List.mem_cons_of_mem _ h)
  have hown : s.vm.findClass RL = some m.cls := findClass_of_methodNamed B.named
  have hlocks := B.notSynchronized
  have hK := hz.1
  have htab := hw_tab (hts _ List.mem_cons_self) B.named B.method (Stand.of_body B).code
  subst hsz
  have hD := hD0.self (sz := s.heap.size)
  generalize hAe : va_A [(x0, .inr (3, [.ref h, .ref hh, .ref w, .ref k0]))] s.heap.size = A at hD ⊢
  have hA : ∀ q : Nat, s.heap.size ≤ q → A q := fun q h => by rw [← hAe]; exact Or.inr h
  have hS : va_S A s.heap s.heap [] := va_S.rf
  have hl := lv_entry ([.ref x0, .int (nI cx), .ref ou]) (n := 4) (Nat.le_of_ble_eq_true rfl)
  rw [lg_entry_eq]
  generalize (lg_sl ([.ref x0, .int (nI cx), .ref ou]) ++ List.replicate (4 - (lg_sl ([.ref x0, .int (nI cx), .ref ou])).length) Slot.unset).toArray = ls at hl ⊢
  replace hl : lv_has ls 4 [(0, .ref x0), (1, .int (nI cx)), (2, .ref ou)] := hl
  replace hP : va_P D vwCl [(x0, .inr (3, [.ref h, .ref hh, .ref w, .ref k0]))] s.heap := hP
  refine lv_aload_n hx hb dL_holds_0 rfl (lv_at hl 2 rfl) ?_
  refine lv_iconst (v := nI 0) hx hb dL_holds_1 (by decide) ?_
  refine lv_aload_n hx hb dL_holds_2 rfl (lv_at hl 0 rfl) ?_
  refine lv_iload_n hx hb dL_holds_3 rfl (lv_at hl 1 rfl) ?_
  obtain ⟨⟨b1, b2, b3, b4⟩, hsp, hx1⟩ := hw_t1 htab
  cases hx1
  refine hx_catch (E := hxI) (own := RL) (name := "java/lang/IndexOutOfBoundsException") (hx_runV (C := RX3) (b := x0) (As := [.int (nI cx)]) (rest := [.int (nI 0), .ref ou]) ⟨hx, hb, hml, hown, htg⟩ (kx_X3_holds l hst D cI cZ cJ sa cx x0 h hh w k0 hcx hbad) (cwV 1 htg (hg_V hm_414 hm_415 hm_416 hm_1 hm_417) rfl rfl rfl (by decide +kernel) ⟨Nat.le_of_ble_eq_true rfl, Nat.le_of_ble_eq_true rfl⟩) ⟨hp_X_blind, va_recv (q := (RX3, TX3, 4)) (q0 := 0) (ci := 3) hK hP rfl rfl, hp_X_pre (hP.sub (ws' := [(x0, .inr (3, [.ref h, .ref hh, .ref w, .ref k0]))]) [0] rfl) hz hE⟩ rfl rfl hl.1 rfl (lv_room (Nat.le_of_ble_eq_true rfl)) dL_holds_4 ⟨Nat.le_of_ble_eq_true rfl, Nat.le_of_ble_eq_true rfl⟩) hown [] ⟨0, 16, 19, 13⟩ [] hsp (fun z hz9 => absurd hz9 List.not_mem_nil) (by decide) (by decide) (htg _ hm_212) (hE.1.2 _ (by simp [hxB, hxI]) _) (fun q9 H hq1 hq2 => ?_)
  replace hS : va_S A s.heap H [] := ⟨hq1, fun q hq _ => hq2 q hq, fun _ h => nomatch h⟩
  replace hP := hP.kept (H1 := H) (fun k x hx => hq2 x.1 ((hP k x hx).lt))
  replace hP : va_P D vwCl [(x0, .inr (3, [.ref h, .ref hh, .ref w, .ref k0]))] H := hP
  replace hD : va_D A [(x0, .inr (3, [.ref h, .ref hh, .ref w, .ref k0]))] := hD
  refine lv_astore_n hx hb dL_holds_19 rfl hl (by decide) rfl (fun ls hl => ?_)
  replace hl : lv_has ls 4 [(3, .ref q9), (0, .ref x0), (1, .int (nI cx)), (2, .ref ou)] := hl
  refine lv_iconst (v := nI 1) hx hb dL_holds_20 (by decide) ?_
  exact W.iret (v := nI 1) hx hb hr (fun t9 ht9 hW9 => ⟨⟨_, (), rfl, rfl, by show va_P D vwCl [(x0, .inr (3, [.ref h, .ref hh, .ref w, .ref k0]))] t9.heap; rw [ht9]; exact hP⟩, hS.F ht9⟩) hS.2.2 dL_holds_21

set_option maxHeartbeats 4000000 in
set_option maxRecDepth 100000 in
/-- it throws -/
theorem kh_value_x (l : Launch) (hst : l.stackTraces = false) (sa : Nat → Nat) (D : va_G) (cI cZ cJ : ClassId) (sz : Nat) (x : Nat) (x0 h hh w k0 : Nat) (ou : Nat) (hx9 : x < 2 ^ 32) (hbad : ¬ x < 6) : Met l yL_value (Cond.codeWith yL_value cL_value 4 (some .int) [(0, 9, 12, 13)] :: hwG) { frames := 8, cells := 1, slots := 6, locals := 124 } (hp_H [.ref x0, .int (nI x), .ref ou] D cI cZ cJ [(x0, .inr (3, [.ref h, .ref hh, .ref w, .ref k0]))] sa sz) (va_Qi (S := Unit) (fun r _ => r = nI 1) (fun u t => va_P D vwCl ([(x0, .inr (3, [.ref h, .ref hh, .ref w, .ref k0]))]) t.heap) (va_A [(x0, .inr (3, [.ref h, .ref hh, .ref w, .ref k0]))] sz)) 1 6 (va_A [(x0, .inr (3, [.ref h, .ref hh, .ref w, .ref k0]))] sz) := by
  refine va_MetW (cc := cL_value) (maxL := 4) (ret := (some .int)) (hh := [(0, 9, 12, 13)]) (by decide) rfl ?_
  intro p e s m args below meth c s₁ B hml hv
  obtain ⟨rfl, hsz, hP, hz, hD0, hE, hNc⟩ := hv
  have hx := B.exec
  have hb := B.bytes
  have hr := B.returns
  have hts := atoms_spec (ws := (Cond.codeWith yL_value cL_value 4 (some .int) [(0, 9, 12, 13)] :: hwG)) B.pre
  have htg := fun w h => hts w (List.mem_cons_of_mem _ h)
  have hown : s.vm.findClass RL = some m.cls := findClass_of_methodNamed B.named
  have hlocks := B.notSynchronized
  have hK := hz.1
  have htab := hw_tab (hts _ List.mem_cons_self) B.named B.method (Stand.of_body B).code
  subst hsz
  have hD := hD0.self (sz := s.heap.size)
  generalize hAe : va_A [(x0, .inr (3, [.ref h, .ref hh, .ref w, .ref k0]))] s.heap.size = A at hD ⊢
  have hA : ∀ q : Nat, s.heap.size ≤ q → A q := fun q h => by rw [← hAe]; exact Or.inr h
  have hS : va_S A s.heap s.heap [] := va_S.rf
  have hl := lv_entry ([.ref x0, .int (nI x), .ref ou]) (n := 4) (Nat.le_of_ble_eq_true rfl)
  rw [lg_entry_eq]
  generalize (lg_sl ([.ref x0, .int (nI x), .ref ou]) ++ List.replicate (4 - (lg_sl ([.ref x0, .int (nI x), .ref ou])).length) Slot.unset).toArray = ls at hl ⊢
  replace hl : lv_has ls 4 [(0, .ref x0), (1, .int (nI x)), (2, .ref ou)] := hl
  replace hP : va_P D vwCl [(x0, .inr (3, [.ref h, .ref hh, .ref w, .ref k0]))] s.heap := hP
  refine lv_aload_n hx hb dL_value_0 rfl (lv_at hl 2 rfl) ?_
  refine lv_iconst (v := nI 0) hx hb dL_value_1 (by decide) ?_
  refine lv_aload_n hx hb dL_value_2 rfl (lv_at hl 0 rfl) ?_
  refine lv_iload_n hx hb dL_value_3 rfl (lv_at hl 1 rfl) ?_
  obtain ⟨⟨b1, b2, b3, b4⟩, hsp, hx1⟩ := hw_t1 htab
  cases hx1
  refine hx_catch (E := hxI) (own := RL) (name := "java/lang/IndexOutOfBoundsException") (hx_runV (C := RX3) (b := x0) (As := [.int (nI x)]) (rest := [.int (nI 0), .ref ou]) ⟨hx, hb, hml, hown, htg⟩ (kx_X3_value l hst D cI cZ cJ sa x x0 h hh w k0 hx9 hbad) (cwV 1 htg (hg_V hm_486 hm_487 hm_488 hm_1 hm_489) rfl rfl rfl (by decide +kernel) ⟨Nat.le_of_ble_eq_true rfl, Nat.le_of_ble_eq_true rfl⟩) ⟨hp_X_blind, va_recv (q := (RX3, TX3, 4)) (q0 := 0) (ci := 3) hK hP rfl rfl, hp_X_pre (hP.sub (ws' := [(x0, .inr (3, [.ref h, .ref hh, .ref w, .ref k0]))]) [0] rfl) hz hE⟩ rfl rfl hl.1 rfl (lv_room (Nat.le_of_ble_eq_true rfl)) dL_value_4 ⟨Nat.le_of_ble_eq_true rfl, Nat.le_of_ble_eq_true rfl⟩) hown [] ⟨0, 9, 12, 13⟩ [] hsp (fun z hz9 => absurd hz9 List.not_mem_nil) (by decide) (by decide) (htg _ hm_212) (hE.1.2 _ (by simp [hxB, hxI]) _) (fun q9 H hq1 hq2 => ?_)
  replace hS : va_S A s.heap H [] := ⟨hq1, fun q hq _ => hq2 q hq, fun _ h => nomatch h⟩
  replace hP := hP.kept (H1 := H) (fun k x hx => hq2 x.1 ((hP k x hx).lt))
  replace hP : va_P D vwCl [(x0, .inr (3, [.ref h, .ref hh, .ref w, .ref k0]))] H := hP
  replace hD : va_D A [(x0, .inr (3, [.ref h, .ref hh, .ref w, .ref k0]))] := hD
  refine lv_astore_n hx hb dL_value_12 rfl hl (by decide) rfl (fun ls hl => ?_)
  replace hl : lv_has ls 4 [(3, .ref q9), (0, .ref x0), (1, .int (nI x)), (2, .ref ou)] := hl
  refine lv_iconst (v := nI 1) hx hb dL_value_13 (by decide) ?_
  exact W.iret (v := nI 1) hx hb hr (fun t9 ht9 hW9 => ⟨⟨_, (), rfl, rfl, by show va_P D vwCl [(x0, .inr (3, [.ref h, .ref hh, .ref w, .ref k0]))] t9.heap; rw [ht9]; exact hP⟩, hS.F ht9⟩) hS.2.2 dL_value_14

set_option maxHeartbeats 4000000 in
set_option maxRecDepth 100000 in
/-- a number is wrong -/
theorem kx_X3_sure (l : Launch) (hst : l.stackTraces = false) (D : va_G) (cI cZ cJ : ClassId) (sa : Nat → Nat) (wh a b : Nat) (x0 h hh w k0 : Nat) (ha : a < 2 ^ 32) (hb9 : b < 2 ^ 32) (hbad : ¬ (a < 6 ∧ b < 6)) : hx_Met l yX3_sure (Cond.code yX3_sure cX3_sure 6 (some .boolean) :: hwG) { frames := 7, cells := 1, slots := 6, locals := 103 } (hp_X [.ref x0, .int (nI wh), .int (nI a), .int (nI b)] D cI cZ cJ [(x0, .inr (3, [.ref h, .ref hh, .ref w, .ref k0]))] sa) hxI := by
  refine hx_ofW (cc := cX3_sure) (maxL := 6) (ret := (some .boolean)) (by decide) rfl ?_
  intro p e s m args below meth c s₁ B hml hout hv
  obtain ⟨rfl, hP, hz, hE⟩ := hv
  have hx := B.exec
  have hb := B.bytes
  have hts := atoms_spec (ws := (Cond.code yX3_sure cX3_sure 6 (some .boolean) :: hwG)) B.pre
  have htg := fun w h => hts w (List.mem_cons_of_mem _ h)
  have hown : s.vm.findClass RX3 = some m.cls := findClass_of_methodNamed B.named
  have hlocks := B.notSynchronized
  have hK := hz.1
  have hl := lv_entry ([.ref x0, .int (nI wh), .int (nI a), .int (nI b)]) (n := 6) (Nat.le_of_ble_eq_true rfl)
  rw [lg_entry_eq]
  generalize (lg_sl ([.ref x0, .int (nI wh), .int (nI a), .int (nI b)]) ++ List.replicate (6 - (lg_sl ([.ref x0, .int (nI wh), .int (nI a), .int (nI b)])).length) Slot.unset).toArray = ls at hl ⊢
  replace hl : lv_has ls 6 [(0, .ref x0), (1, .int (nI wh)), (2, .int (nI a)), (3, .int (nI b))] := hl
  refine lv_aload_n hx hb dX3_sure_0 rfl (lv_at hl 0 rfl) ?_
  refine lv_iload_n hx hb dX3_sure_1 rfl (lv_at hl 2 rfl) ?_
  by_cases hk0 : a < 6
  · refine hw_csv (va_runV (C := RX3) (b := x0) (As := [.int (nI a)]) (rest := []) ⟨hx, hb, hml, hown, htg⟩ (k_X3_checkTerm l D cI cZ cJ a x0 h hh w k0 (by omega)) (cwV 1 htg (hg_V hm_290 hm_292 hs_yX3_checkTerm hm_1 hm_293) rfl rfl rfl (by decide +kernel) ⟨Nat.le_of_ble_eq_true rfl, Nat.le_of_ble_eq_true rfl⟩) ⟨hp_R_blind, va_recv (q := (RX3, TX3, 4)) (q0 := 0) (ci := 3) hK hP rfl rfl, hp_R_pre (hP.sub (ws' := [(x0, .inr (3, [.ref h, .ref hh, .ref w, .ref k0]))]) [0] rfl) hz⟩ rfl rfl hl.1 rfl (lv_room (Nat.le_of_ble_eq_true rfl)) dX3_sure_2 ⟨Nat.zero_le _, Nat.zero_le _⟩) (fun _h => ?_)
    refine lv_aload_n hx hb dX3_sure_5 rfl (lv_at hl 0 rfl) ?_
    refine lv_iload_n hx hb dX3_sure_6 rfl (lv_at hl 3 rfl) ?_
    by_cases hk1 : b < 6
    · refine hw_csv (va_runV (C := RX3) (b := x0) (As := [.int (nI b)]) (rest := []) ⟨hx, hb, hml, hown, htg⟩ (k_X3_checkTerm l D cI cZ cJ b x0 h hh w k0 (by omega)) (cwV 1 htg (hg_V hm_290 hm_292 hs_yX3_checkTerm hm_1 hm_293) rfl rfl rfl (by decide +kernel) ⟨Nat.le_of_ble_eq_true rfl, Nat.le_of_ble_eq_true rfl⟩) ⟨hp_R_blind, va_recv (q := (RX3, TX3, 4)) (q0 := 0) (ci := 3) hK hP rfl rfl, hp_R_pre (hP.sub (ws' := [(x0, .inr (3, [.ref h, .ref hh, .ref w, .ref k0]))]) [0] rfl) hz⟩ rfl rfl hl.1 rfl (lv_room (Nat.le_of_ble_eq_true rfl)) dX3_sure_7 ⟨Nat.zero_le _, Nat.zero_le _⟩) (fun _h => ?_)
      exact absurd ⟨hk0, hk1⟩ hbad
    · exact hx_out (hx_runV (C := RX3) (b := x0) (As := [.int (nI b)]) (rest := []) ⟨hx, hb, hml, hown, htg⟩ (kx_X3_checkTerm l hst D cI cZ cJ sa b x0 h hh w k0 (by omega) hk1) (cwV 1 htg (hg_V hm_290 hm_292 hs_yX3_checkTerm hm_1 hm_293) rfl rfl rfl (by decide +kernel) ⟨Nat.le_of_ble_eq_true rfl, Nat.le_of_ble_eq_true rfl⟩) ⟨hp_X_blind, va_recv (q := (RX3, TX3, 4)) (q0 := 0) (ci := 3) hK hP rfl rfl, hp_X_pre (hP.sub (ws' := [(x0, .inr (3, [.ref h, .ref hh, .ref w, .ref k0]))]) [0] rfl) hz hE⟩ rfl rfl hl.1 rfl (lv_room (Nat.le_of_ble_eq_true rfl)) dX3_sure_7 ⟨Nat.le_of_ble_eq_true rfl, Nat.le_of_ble_eq_true rfl⟩) hout hlocks
  · exact hx_out (hx_runV (C := RX3) (b := x0) (As := [.int (nI a)]) (rest := []) ⟨hx, hb, hml, hown, htg⟩ (kx_X3_checkTerm l hst D cI cZ cJ sa a x0 h hh w k0 (by omega) hk0) (cwV 1 htg (hg_V hm_290 hm_292 hs_yX3_checkTerm hm_1 hm_293) rfl rfl rfl (by decide +kernel) ⟨Nat.le_of_ble_eq_true rfl, Nat.le_of_ble_eq_true rfl⟩) ⟨hp_X_blind, va_recv (q := (RX3, TX3, 4)) (q0 := 0) (ci := 3) hK hP rfl rfl, hp_X_pre (hP.sub (ws' := [(x0, .inr (3, [.ref h, .ref hh, .ref w, .ref k0]))]) [0] rfl) hz hE⟩ rfl rfl hl.1 rfl (lv_room (Nat.le_of_ble_eq_true rfl)) dX3_sure_2 ⟨Nat.le_of_ble_eq_true rfl, Nat.le_of_ble_eq_true rfl⟩) hout hlocks

set_option maxHeartbeats 4000000 in
set_option maxRecDepth 100000 in
/-- no such question -/
theorem kf_X3_sure (l : Launch) (hst : l.stackTraces = false) (D : va_G) (cI cZ cJ : ClassId) (sa : Nat → Nat) (wh a b : Nat) (x0 h hh w k0 : Nat) (hwh : wh < 2 ^ 32) (ha : a < 6) (hb9 : b < 6) (hbad : ¬ wh < 3) : hx_Met l yX3_sure (Cond.code yX3_sure cX3_sure 6 (some .boolean) :: hwG) { frames := 6, cells := 1, slots := 6, locals := 82 } (hp_X [.ref x0, .int (nI wh), .int (nI a), .int (nI b)] D cI cZ cJ [(x0, .inr (3, [.ref h, .ref hh, .ref w, .ref k0]))] sa) hxA := by
  refine hx_ofW (cc := cX3_sure) (maxL := 6) (ret := (some .boolean)) (by decide) rfl ?_
  intro p e s m args below meth c s₁ B hml hout hv
  obtain ⟨rfl, hP, hz, hE⟩ := hv
  have hx := B.exec
  have hb := B.bytes
  have hts := atoms_spec (ws := (Cond.code yX3_sure cX3_sure 6 (some .boolean) :: hwG)) B.pre
  have htg := fun w h => hts w (List.mem_cons_of_mem _ h)
  have hown : s.vm.findClass RX3 = some m.cls := findClass_of_methodNamed B.named
  have hlocks := B.notSynchronized
  have hK := hz.1
  have hl := lv_entry ([.ref x0, .int (nI wh), .int (nI a), .int (nI b)]) (n := 6) (Nat.le_of_ble_eq_true rfl)
  rw [lg_entry_eq]
  generalize (lg_sl ([.ref x0, .int (nI wh), .int (nI a), .int (nI b)]) ++ List.replicate (6 - (lg_sl ([.ref x0, .int (nI wh), .int (nI a), .int (nI b)])).length) Slot.unset).toArray = ls at hl ⊢
  replace hl : lv_has ls 6 [(0, .ref x0), (1, .int (nI wh)), (2, .int (nI a)), (3, .int (nI b))] := hl
  refine lv_aload_n hx hb dX3_sure_0 rfl (lv_at hl 0 rfl) ?_
  refine lv_iload_n hx hb dX3_sure_1 rfl (lv_at hl 2 rfl) ?_
  refine hw_csv (va_runV (C := RX3) (b := x0) (As := [.int (nI a)]) (rest := []) ⟨hx, hb, hml, hown, htg⟩ (k_X3_checkTerm l D cI cZ cJ a x0 h hh w k0 (by omega)) (cwV 1 htg (hg_V hm_290 hm_292 hs_yX3_checkTerm hm_1 hm_293) rfl rfl rfl (by decide +kernel) ⟨Nat.le_of_ble_eq_true rfl, Nat.le_of_ble_eq_true rfl⟩) ⟨hp_R_blind, va_recv (q := (RX3, TX3, 4)) (q0 := 0) (ci := 3) hK hP rfl rfl, hp_R_pre (hP.sub (ws' := [(x0, .inr (3, [.ref h, .ref hh, .ref w, .ref k0]))]) [0] rfl) hz⟩ rfl rfl hl.1 rfl (lv_room (Nat.le_of_ble_eq_true rfl)) dX3_sure_2 ⟨Nat.zero_le _, Nat.zero_le _⟩) (fun _h => ?_)
  refine lv_aload_n hx hb dX3_sure_5 rfl (lv_at hl 0 rfl) ?_
  refine lv_iload_n hx hb dX3_sure_6 rfl (lv_at hl 3 rfl) ?_
  refine hw_csv (va_runV (C := RX3) (b := x0) (As := [.int (nI b)]) (rest := []) ⟨hx, hb, hml, hown, htg⟩ (k_X3_checkTerm l D cI cZ cJ b x0 h hh w k0 (by omega)) (cwV 1 htg (hg_V hm_290 hm_292 hs_yX3_checkTerm hm_1 hm_293) rfl rfl rfl (by decide +kernel) ⟨Nat.le_of_ble_eq_true rfl, Nat.le_of_ble_eq_true rfl⟩) ⟨hp_R_blind, va_recv (q := (RX3, TX3, 4)) (q0 := 0) (ci := 3) hK hP rfl rfl, hp_R_pre (hP.sub (ws' := [(x0, .inr (3, [.ref h, .ref hh, .ref w, .ref k0]))]) [0] rfl) hz⟩ rfl rfl hl.1 rfl (lv_room (Nat.le_of_ble_eq_true rfl)) dX3_sure_7 ⟨Nat.zero_le _, Nat.zero_le _⟩) (fun _h => ?_)
  refine lv_iload_n hx hb dX3_sure_10 rfl (lv_at hl 1 rfl) ?_
  refine lv_if_eq hx hb dX3_sure_11 rfl (fun hc => absurd ((hm_eq (b := 0) hwh (by omega)).mp hc) (by omega)) (fun hc => ?_)
  refine lv_iload_n hx hb dX3_sure_14 rfl (lv_at hl 1 rfl) ?_
  refine lv_iconst (v := nI 1) hx hb dX3_sure_15 (by decide) ?_
  refine lv_icmp_eq hx hb dX3_sure_16 rfl (fun hc => absurd ((hm_eq (b := 1) hwh (by omega)).mp hc) (by omega)) (fun hc => ?_)
  refine lv_iload_n hx hb dX3_sure_19 rfl (lv_at hl 1 rfl) ?_
  refine lv_iconst (v := nI 2) hx hb dX3_sure_20 (by decide) ?_
  refine lv_icmp_eq hx hb dX3_sure_21 rfl (fun hc => absurd ((hm_eq (b := 2) hwh (by omega)).mp hc) (by omega)) (fun hc => ?_)
  exact hx_throw hx hb hst (own := RX3) (cls := hxA) (names := hxN) (ik := 81) (is := 83) (ic := 85) hown (by decide) (by decide) (htg _ hm_361) (htg _ hm_13) (hE.2 (83, "what is 0, 1 or 2") (by decide)) (hx_own hx_oA htg hE.1) (hl.1.trans hml.symm) dX3_sure_24 dX3_sure_27 dX3_sure_28 dX3_sure_30 dX3_sure_33 hout (Nat.le_of_ble_eq_true rfl) (Nat.le_of_ble_eq_true rfl) (Nat.le_of_ble_eq_true rfl) (Nat.le_of_ble_eq_true rfl) hlocks

set_option maxHeartbeats 4000000 in
set_option maxRecDepth 100000 in
/-- it throws -/
theorem kh_sure_x (l : Launch) (hst : l.stackTraces = false) (sa : Nat → Nat) (D : va_G) (cI cZ cJ : ClassId) (sz : Nat) (wh a b : Nat) (x0 h hh w k0 : Nat) (ou : Nat) (ha : a < 2 ^ 32) (hb9 : b < 2 ^ 32) (hbad : ¬ (a < 6 ∧ b < 6)) : Met l yL_sure (Cond.codeWith yL_sure cL_sure 6 (some .int) [(0, 19, 22, 13), (0, 19, 26, 37)] :: hwG) { frames := 8, cells := 1, slots := 6, locals := 128 } (hp_H [.ref x0, .int (nI wh), .int (nI a), .int (nI b), .ref ou] D cI cZ cJ [(x0, .inr (3, [.ref h, .ref hh, .ref w, .ref k0]))] sa sz) (va_Qi (S := Unit) (fun r _ => r = nI 1) (fun u t => va_P D vwCl ([(x0, .inr (3, [.ref h, .ref hh, .ref w, .ref k0]))]) t.heap) (va_A [(x0, .inr (3, [.ref h, .ref hh, .ref w, .ref k0]))] sz)) 1 6 (va_A [(x0, .inr (3, [.ref h, .ref hh, .ref w, .ref k0]))] sz) := by
  refine va_MetW (cc := cL_sure) (maxL := 6) (ret := (some .int)) (hh := [(0, 19, 22, 13), (0, 19, 26, 37)]) (by decide) rfl ?_
  intro p e s m args below meth c s₁ B hml hv
  obtain ⟨rfl, hsz, hP, hz, hD0, hE, hNc⟩ := hv
  have hx := B.exec
  have hb := B.bytes
  have hr := B.returns
  have hts := atoms_spec (ws := (Cond.codeWith yL_sure cL_sure 6 (some .int) [(0, 19, 22, 13), (0, 19, 26, 37)] :: hwG)) B.pre
  have htg := fun w h => hts w (List.mem_cons_of_mem _ h)
  have hown : s.vm.findClass RL = some m.cls := findClass_of_methodNamed B.named
  have hlocks := B.notSynchronized
  have hK := hz.1
  have htab := hw_tab (hts _ List.mem_cons_self) B.named B.method (Stand.of_body B).code
  subst hsz
  have hD := hD0.self (sz := s.heap.size)
  generalize hAe : va_A [(x0, .inr (3, [.ref h, .ref hh, .ref w, .ref k0]))] s.heap.size = A at hD ⊢
  have hA : ∀ q : Nat, s.heap.size ≤ q → A q := fun q h => by rw [← hAe]; exact Or.inr h
  have hS : va_S A s.heap s.heap [] := va_S.rf
  have hl := lv_entry ([.ref x0, .int (nI wh), .int (nI a), .int (nI b), .ref ou]) (n := 6) (Nat.le_of_ble_eq_true rfl)
  rw [lg_entry_eq]
  generalize (lg_sl ([.ref x0, .int (nI wh), .int (nI a), .int (nI b), .ref ou]) ++ List.replicate (6 - (lg_sl ([.ref x0, .int (nI wh), .int (nI a), .int (nI b), .ref ou])).length) Slot.unset).toArray = ls at hl ⊢
  replace hl : lv_has ls 6 [(0, .ref x0), (1, .int (nI wh)), (2, .int (nI a)), (3, .int (nI b)), (4, .ref ou)] := hl
  replace hP : va_P D vwCl [(x0, .inr (3, [.ref h, .ref hh, .ref w, .ref k0]))] s.heap := hP
  refine lv_aload hx hb dL_sure_0 (lv_at hl 4 rfl) ?_
  refine lv_iconst (v := nI 0) hx hb dL_sure_2 (by decide) ?_
  refine lv_aload_n hx hb dL_sure_3 rfl (lv_at hl 0 rfl) ?_
  refine lv_iload_n hx hb dL_sure_4 rfl (lv_at hl 1 rfl) ?_
  refine lv_iload_n hx hb dL_sure_5 rfl (lv_at hl 2 rfl) ?_
  refine lv_iload_n hx hb dL_sure_6 rfl (lv_at hl 3 rfl) ?_
  obtain ⟨⟨b1, b2, b3, b4⟩, ⟨d1, d2, d3, d4⟩, hsp, hx1, hx2⟩ := hw_t2 htab
  cases hx1
  cases hx2
  refine hx_catch (E := hxI) (own := RL) (name := "java/lang/IndexOutOfBoundsException") (hx_runV (C := RX3) (b := x0) (As := [.int (nI wh), .int (nI a), .int (nI b)]) (rest := [.int (nI 0), .ref ou]) ⟨hx, hb, hml, hown, htg⟩ (kx_X3_sure l hst D cI cZ cJ sa wh a b x0 h hh w k0 ha hb9 hbad) (cwV 3 htg (hg_V hm_357 hm_358 hm_359 hm_1 hm_360) rfl rfl rfl (by decide +kernel) ⟨Nat.le_of_ble_eq_true rfl, Nat.le_of_ble_eq_true rfl⟩) ⟨hp_X_blind, va_recv (q := (RX3, TX3, 4)) (q0 := 0) (ci := 3) hK hP rfl rfl, hp_X_pre (hP.sub (ws' := [(x0, .inr (3, [.ref h, .ref hh, .ref w, .ref k0]))]) [0] rfl) hz hE⟩ rfl rfl hl.1 rfl (lv_room (Nat.le_of_ble_eq_true rfl)) dL_sure_7 ⟨Nat.le_of_ble_eq_true rfl, Nat.le_of_ble_eq_true rfl⟩) hown [] ⟨0, 19, 22, 13⟩ [⟨0, 19, 26, 37⟩] hsp (fun z hz9 => absurd hz9 List.not_mem_nil) (by decide) (by decide) (htg _ hm_212) (hE.1.2 _ (by simp [hxB, hxI]) _) (fun q9 H hq1 hq2 => ?_)
  replace hS : va_S A s.heap H [] := ⟨hq1, fun q hq _ => hq2 q hq, fun _ h => nomatch h⟩
  replace hP := hP.kept (H1 := H) (fun k x hx => hq2 x.1 ((hP k x hx).lt))
  replace hP : va_P D vwCl [(x0, .inr (3, [.ref h, .ref hh, .ref w, .ref k0]))] H := hP
  replace hD : va_D A [(x0, .inr (3, [.ref h, .ref hh, .ref w, .ref k0]))] := hD
  refine lv_astore hx hb dL_sure_22 hl (by decide) rfl (fun ls hl => ?_)
  replace hl : lv_has ls 6 [(5, .ref q9), (0, .ref x0), (1, .int (nI wh)), (2, .int (nI a)), (3, .int (nI b)), (4, .ref ou)] := hl
  refine lv_iconst (v := nI 1) hx hb dL_sure_24 (by decide) ?_
  exact W.iret (v := nI 1) hx hb hr (fun t9 ht9 hW9 => ⟨⟨_, (), rfl, rfl, by show va_P D vwCl [(x0, .inr (3, [.ref h, .ref hh, .ref w, .ref k0]))] t9.heap; rw [ht9]; exact hP⟩, hS.F ht9⟩) hS.2.2 dL_sure_25

set_option maxHeartbeats 4000000 in
set_option maxRecDepth 100000 in
/-- it throws -/
theorem kh_sure_f (l : Launch) (hst : l.stackTraces = false) (sa : Nat → Nat) (D : va_G) (cI cZ cJ : ClassId) (sz : Nat) (wh a b : Nat) (x0 h hh w k0 : Nat) (ou : Nat) (hwh : wh < 2 ^ 32) (ha : a < 6) (hb9 : b < 6) (hbad : ¬ wh < 3) : Met l yL_sure (Cond.codeWith yL_sure cL_sure 6 (some .int) [(0, 19, 22, 13), (0, 19, 26, 37)] :: hwG) { frames := 7, cells := 1, slots := 6, locals := 107 } (hp_H [.ref x0, .int (nI wh), .int (nI a), .int (nI b), .ref ou] D cI cZ cJ [(x0, .inr (3, [.ref h, .ref hh, .ref w, .ref k0]))] sa sz) (va_Qi (S := Unit) (fun r _ => r = nI 2) (fun u t => va_P D vwCl ([(x0, .inr (3, [.ref h, .ref hh, .ref w, .ref k0]))]) t.heap) (va_A [(x0, .inr (3, [.ref h, .ref hh, .ref w, .ref k0]))] sz)) 1 6 (va_A [(x0, .inr (3, [.ref h, .ref hh, .ref w, .ref k0]))] sz) := by
  refine va_MetW (cc := cL_sure) (maxL := 6) (ret := (some .int)) (hh := [(0, 19, 22, 13), (0, 19, 26, 37)]) (by decide) rfl ?_
  intro p e s m args below meth c s₁ B hml hv
  obtain ⟨rfl, hsz, hP, hz, hD0, hE, hNc⟩ := hv
  have hx := B.exec
  have hb := B.bytes
  have hr := B.returns
  have hts := atoms_spec (ws := (Cond.codeWith yL_sure cL_sure 6 (some .int) [(0, 19, 22, 13), (0, 19, 26, 37)] :: hwG)) B.pre
  have htg := fun w h => hts w (List.mem_cons_of_mem _ h)
  have hown : s.vm.findClass RL = some m.cls := findClass_of_methodNamed B.named
  have hlocks := B.notSynchronized
  have hK := hz.1
  have htab := hw_tab (hts _ List.mem_cons_self) B.named B.method (Stand.of_body B).code
  subst hsz
  have hD := hD0.self (sz := s.heap.size)
  generalize hAe : va_A [(x0, .inr (3, [.ref h, .ref hh, .ref w, .ref k0]))] s.heap.size = A at hD ⊢
  have hA : ∀ q : Nat, s.heap.size ≤ q → A q := fun q h => by rw [← hAe]; exact Or.inr h
  have hS : va_S A s.heap s.heap [] := va_S.rf
  have hl := lv_entry ([.ref x0, .int (nI wh), .int (nI a), .int (nI b), .ref ou]) (n := 6) (Nat.le_of_ble_eq_true rfl)
  rw [lg_entry_eq]
  generalize (lg_sl ([.ref x0, .int (nI wh), .int (nI a), .int (nI b), .ref ou]) ++ List.replicate (6 - (lg_sl ([.ref x0, .int (nI wh), .int (nI a), .int (nI b), .ref ou])).length) Slot.unset).toArray = ls at hl ⊢
  replace hl : lv_has ls 6 [(0, .ref x0), (1, .int (nI wh)), (2, .int (nI a)), (3, .int (nI b)), (4, .ref ou)] := hl
  replace hP : va_P D vwCl [(x0, .inr (3, [.ref h, .ref hh, .ref w, .ref k0]))] s.heap := hP
  refine lv_aload hx hb dL_sure_0 (lv_at hl 4 rfl) ?_
  refine lv_iconst (v := nI 0) hx hb dL_sure_2 (by decide) ?_
  refine lv_aload_n hx hb dL_sure_3 rfl (lv_at hl 0 rfl) ?_
  refine lv_iload_n hx hb dL_sure_4 rfl (lv_at hl 1 rfl) ?_
  refine lv_iload_n hx hb dL_sure_5 rfl (lv_at hl 2 rfl) ?_
  refine lv_iload_n hx hb dL_sure_6 rfl (lv_at hl 3 rfl) ?_
  obtain ⟨⟨b1, b2, b3, b4⟩, ⟨d1, d2, d3, d4⟩, hsp, hx1, hx2⟩ := hw_t2 htab
  cases hx1
  cases hx2
  refine hx_catch (E := hxA) (own := RL) (name := "java/lang/IllegalArgumentException") (hx_runV (C := RX3) (b := x0) (As := [.int (nI wh), .int (nI a), .int (nI b)]) (rest := [.int (nI 0), .ref ou]) ⟨hx, hb, hml, hown, htg⟩ (kf_X3_sure l hst D cI cZ cJ sa wh a b x0 h hh w k0 hwh ha hb9 hbad) (cwV 3 htg (hg_V hm_357 hm_358 hm_359 hm_1 hm_360) rfl rfl rfl (by decide +kernel) ⟨Nat.le_of_ble_eq_true rfl, Nat.le_of_ble_eq_true rfl⟩) ⟨hp_X_blind, va_recv (q := (RX3, TX3, 4)) (q0 := 0) (ci := 3) hK hP rfl rfl, hp_X_pre (hP.sub (ws' := [(x0, .inr (3, [.ref h, .ref hh, .ref w, .ref k0]))]) [0] rfl) hz hE⟩ rfl rfl hl.1 rfl (lv_room (Nat.le_of_ble_eq_true rfl)) dL_sure_7 ⟨Nat.le_of_ble_eq_true rfl, Nat.le_of_ble_eq_true rfl⟩) hown [⟨0, 19, 22, 13⟩] ⟨0, 19, 26, 37⟩ [] hsp (fun z hz9 => by rw [List.mem_singleton.mp hz9]; exact Or.inr ⟨by decide, _, (htg _ hm_212), hNc.2.1⟩) (by decide) (by decide) (htg _ hm_356) (hE.1.2 _ (by simp [hxB, hxA]) _) (fun q9 H hq1 hq2 => ?_)
  replace hS : va_S A s.heap H [] := ⟨hq1, fun q hq _ => hq2 q hq, fun _ h => nomatch h⟩
  replace hP := hP.kept (H1 := H) (fun k x hx => hq2 x.1 ((hP k x hx).lt))
  replace hP : va_P D vwCl [(x0, .inr (3, [.ref h, .ref hh, .ref w, .ref k0]))] H := hP
  replace hD : va_D A [(x0, .inr (3, [.ref h, .ref hh, .ref w, .ref k0]))] := hD
  refine lv_astore hx hb dL_sure_26 hl (by decide) rfl (fun ls hl => ?_)
  replace hl : lv_has ls 6 [(5, .ref q9), (0, .ref x0), (1, .int (nI wh)), (2, .int (nI a)), (3, .int (nI b)), (4, .ref ou)] := hl
  refine lv_iconst (v := nI 2) hx hb dL_sure_28 (by decide) ?_
  exact W.iret (v := nI 2) hx hb hr (fun t9 ht9 hW9 => ⟨⟨_, (), rfl, rfl, by show va_P D vwCl [(x0, .inr (3, [.ref h, .ref hh, .ref w, .ref k0]))] t9.heap; rw [ht9]; exact hP⟩, hS.F ht9⟩) hS.2.2 dL_sure_29
