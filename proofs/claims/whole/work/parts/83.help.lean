/-! The law's helpers. -/
def hx_Nc (U : State) : Prop := va_Nc hxG hxI U ∧ va_Nc hxA hxI U ∧ va_Nc hxU hxI U
/-- a helper whose call throws -/
def hp_H (av : List Value) (D : va_G) (cI cZ cJ : ClassId) (ws : va_W) (sa : Nat → Nat) (sz : Nat) : Array Value → State → Prop := va_Pc av (fun U => U.heap.size = sz ∧ va_P D vwCl ws U.heap ∧ hz_K D cI cZ cJ U ∧ va_D (fun _ => True) ws ∧ hx_E sa U ∧ hx_Nc U)
theorem hx_Nc.warm {s U : State} (hW : s.WarmedH U.vm) (h : hx_Nc s) : hx_Nc U := ⟨h.1.moved hW.alike, h.2.1.moved hW.alike, h.2.2.moved hW.alike⟩
theorem hp_H_blind {av : List Value} {D : va_G} {cI cZ cJ : ClassId} {ws : va_W} {sa : Nat → Nat} {sz : Nat} : FrameBlind (hp_H av D cI cZ cJ ws sa sz) := fun a U g mk q =>
  ⟨q.1, q.2.1, q.2.2.1, hz_K.warm (U := U.calling g mk a) (State.WarmedH.refl U) q.2.2.2.1, q.2.2.2.2.1, hx_E_old (U := U.calling g mk a) (s0 := U) ⟨State.WarmedH.refl U, Nat.le_refl _, fun _ _ => rfl⟩ q.2.2.2.2.2.1, hx_Nc.warm (U := U.calling g mk a) (State.WarmedH.refl U) q.2.2.2.2.2.2⟩
theorem hp_H_pre {av : List Value} {D : va_G} {cI cZ cJ : ClassId} {ws : va_W} {sa : Nat → Nat} {s : State} {H : Heap} {A : Nat → Prop} (hP : va_P D vwCl ws H) (hD : va_D A ws) (hz : hz_K D cI cZ cJ s) (hE : hx_E sa s) (hN : hx_Nc s) (hO : s.heap.size ≤ H.size ∧ ∀ q : Nat, q < s.heap.size → H[q]? = s.heap[q]?) : ∀ U : State, U.heap = H → s.WarmedH U.vm → hp_H av D cI cZ cJ ws sa H.size av.toArray U :=
  fun U hU hW => ⟨rfl, by rw [hU], by rw [hU]; exact hP, hz.warm hW, hD.weaken (fun _ _ _ _ => trivial), hx_E_old ⟨hW, by rw [hU]; exact hO.1, fun q h => by rw [hU]; exact hO.2 q h⟩ hE, hN.warm hW⟩
set_option maxHeartbeats 4000000 in
set_option maxRecDepth 100000 in
/-- it throws -/
theorem kh_pair_x (l : Launch) (hst : l.stackTraces = false) (sa : Nat → Nat) (D : va_G) (cI cZ cJ : ClassId) (sz : Nat) (cx a b : Nat) (o : Bool) (x0 h hh w k0 : Nat) (hcx : cx < 2 ^ 32) (ha : a < 2 ^ 32) (hb9 : b < 2 ^ 32) (hbad : ¬ (cx < 2 ∧ a < 6 ∧ b < 6)) : Met l yL_pair (Cond.codeWith yL_pair cL_pair 6 (some .int) [(0, 9, 12, 13)] :: hwG) { frames := 8, cells := 1, slots := 6, locals := 128 } (hp_H [.ref x0, .int (nI cx), .int (nI a), .int (nI b), .int (hc_b o)] D cI cZ cJ [(x0, .inr (3, [.ref h, .ref hh, .ref w, .ref k0]))] sa sz) (va_Qi (S := Unit) (fun r _ => r = nI 1) (fun u t => va_P D vwCl ([(x0, .inr (3, [.ref h, .ref hh, .ref w, .ref k0]))]) t.heap) (va_A [(x0, .inr (3, [.ref h, .ref hh, .ref w, .ref k0]))] sz)) 1 6 (va_A [(x0, .inr (3, [.ref h, .ref hh, .ref w, .ref k0]))] sz) := by
  refine va_MetW (cc := cL_pair) (maxL := 6) (ret := (some .int)) (hh := [(0, 9, 12, 13)]) (by decide) rfl ?_
  intro p e s m args below meth c s₁ B hml hv
  obtain ⟨rfl, hsz, hP, hz, hD0, hE, hNc⟩ := hv
  have hx := B.exec
  have hb := B.bytes
  have hr := B.returns
  have hts := atoms_spec (ws := (Cond.codeWith yL_pair cL_pair 6 (some .int) [(0, 9, 12, 13)] :: hwG)) B.pre
  have htg := fun w h => hts w (List.mem_cons_of_mem _ h)
  have hown : s.vm.findClass RL = some m.cls := findClass_of_methodNamed B.named
  have hlocks := B.notSynchronized
  have hK := hz.1
  have htab := hw_tab (hts _ List.mem_cons_self) B.named B.method (Stand.of_body B).code
  subst hsz
  have hD := hD0.self (sz := s.heap.size)
  generalize hAe : va_A [(x0, .inr (3, [.ref h, .ref hh, .ref w, .ref k0]))] s.heap.size = A at hD ⊢
  have hA : ∀ q : Nat, s.heap.size ≤ q → A q := fun q h => by rw [← hAe]; exact Or.inr h
  have hS : va_S A s.heap s.heap [] := va_S.rf
  have hl := lv_entry ([.ref x0, .int (nI cx), .int (nI a), .int (nI b), .int (hc_b o)]) (n := 6) (Nat.le_of_ble_eq_true rfl)
  rw [lg_entry_eq]
  generalize (lg_sl ([.ref x0, .int (nI cx), .int (nI a), .int (nI b), .int (hc_b o)]) ++ List.replicate (6 - (lg_sl ([.ref x0, .int (nI cx), .int (nI a), .int (nI b), .int (hc_b o)])).length) Slot.unset).toArray = ls at hl ⊢
  replace hl : lv_has ls 6 [(0, .ref x0), (1, .int (nI cx)), (2, .int (nI a)), (3, .int (nI b)), (4, .int (hc_b o))] := hl
  replace hP : va_P D vwCl [(x0, .inr (3, [.ref h, .ref hh, .ref w, .ref k0]))] s.heap := hP
  refine lv_aload_n hx hb dL_pair_0 rfl (lv_at hl 0 rfl) ?_
  refine lv_iload_n hx hb dL_pair_1 rfl (lv_at hl 1 rfl) ?_
  refine lv_iload_n hx hb dL_pair_2 rfl (lv_at hl 2 rfl) ?_
  refine lv_iload_n hx hb dL_pair_3 rfl (lv_at hl 3 rfl) ?_
  refine lv_iload hx hb dL_pair_4 (lv_at hl 4 rfl) ?_
  obtain ⟨⟨b1, b2, b3, b4⟩, hsp, hx1⟩ := hw_t1 htab
  cases hx1
  refine hx_catch (E := hxI) (own := RL) (name := "java/lang/IndexOutOfBoundsException") (hx_runV (C := RX3) (b := x0) (As := [.int (nI cx), .int (nI a), .int (nI b), .int (hc_b o)]) (rest := []) ⟨hx, hb, hml, hown, htg⟩ (kx_X3_pair l hst D cI cZ cJ sa cx a b o x0 h hh w k0 hcx ha hb9 hbad) (cwV 4 htg (hg_V hm_213 hm_214 hm_215 hm_1 hm_216) rfl rfl rfl (by decide +kernel) ⟨Nat.le_of_ble_eq_true rfl, Nat.le_of_ble_eq_true rfl⟩) ⟨hp_X_blind, va_recv (q := (RX3, TX3, 4)) (q0 := 0) (ci := 3) hK hP rfl rfl, hp_X_pre (hP.sub (ws' := [(x0, .inr (3, [.ref h, .ref hh, .ref w, .ref k0]))]) [0] rfl) hz hE⟩ rfl rfl hl.1 rfl (lv_room (Nat.le_of_ble_eq_true rfl)) dL_pair_6 ⟨Nat.le_of_ble_eq_true rfl, Nat.le_of_ble_eq_true rfl⟩) hown [] ⟨0, 9, 12, 13⟩ [] hsp (fun z hz9 => absurd hz9 List.not_mem_nil) (by decide) (by decide) (htg _ hm_212) (hE.1.2 _ (by simp [hxB, hxI]) _) (fun q9 H hq1 hq2 => ?_)
  replace hS : va_S A s.heap H [] := ⟨hq1, fun q hq _ => hq2 q hq, fun _ h => nomatch h⟩
  replace hP := hP.kept (H1 := H) (fun k x hx => hq2 x.1 ((hP k x hx).lt))
  replace hP : va_P D vwCl [(x0, .inr (3, [.ref h, .ref hh, .ref w, .ref k0]))] H := hP
  replace hD : va_D A [(x0, .inr (3, [.ref h, .ref hh, .ref w, .ref k0]))] := hD
  refine lv_astore hx hb dL_pair_12 hl (by decide) rfl (fun ls hl => ?_)
  replace hl : lv_has ls 6 [(5, .ref q9), (0, .ref x0), (1, .int (nI cx)), (2, .int (nI a)), (3, .int (nI b)), (4, .int (hc_b o))] := hl
  refine lv_iconst (v := nI 1) hx hb dL_pair_14 (by decide) ?_
  exact W.iret (v := nI 1) hx hb hr (fun t9 ht9 hW9 => ⟨⟨_, (), rfl, rfl, by show va_P D vwCl [(x0, .inr (3, [.ref h, .ref hh, .ref w, .ref k0]))] t9.heap; rw [ht9]; exact hP⟩, hS.F ht9⟩) hS.2.2 dL_pair_15

set_option maxHeartbeats 4000000 in
set_option maxRecDepth 100000 in
/-- it returns -/
theorem kh_pair0 (l : Launch) (D : va_G) (cI cZ cJ : ClassId) (sz : Nat) (a b : Nat) (o : Bool) (n : Nat) (S O : Nat → Int32) (nm : Int32) (h a1 a2 a3 a4 a5 : Nat) (x0 hh w k0 : Nat) (ha : a < 6) (hb6 : b < 6) : Met l yL_pair (Cond.codeWith yL_pair cL_pair 6 (some .int) [(0, 9, 12, 13)] :: hwG) { frames := 2, cells := 0, slots := 0, locals := 48 } (hp_M [.ref x0, .int (nI 0), .int (nI a), .int (nI b), .int (hc_b o)] D cI cZ cJ [(x0, .inr (3, [.ref h, .ref hh, .ref w, .ref k0])), (h, .inr (1, [.ref a1, .ref a2, .ref a3, .ref a4, .ref a5, .int (nI n), .int nm])), (a1, .inl (cI, 6, .inl S)), (a2, .inl (cI, 6, .inl O))] sz) (va_Qi (S := (Nat → Int32) × (Nat → Int32) × Int32) (fun r u => r = nI 0 ∧ (fun u => u.1 = (bif o then S else upd S a (S a ||| (nI 1 <<< (nI b &&& 31)))) ∧ u.2.1 = (bif o then upd O a (O a ||| (nI 1 <<< (nI b &&& 31))) else O) ∧ u.2.2 = nm ||| ((nI 1 <<< (nI a &&& 31)) ||| (nI 1 <<< (nI b &&& 31)))) u) (fun u t => va_P D vwCl (((x0, .inr (3, [.ref h, .ref hh, .ref w, .ref k0]))) :: [(h, .inr (1, [.ref a1, .ref a2, .ref a3, .ref a4, .ref a5, .int (nI n), .int u.2.2])), (a1, .inl (cI, 6, .inl u.1)), (a2, .inl (cI, 6, .inl u.2.1))]) t.heap) (va_A [(x0, .inr (3, [.ref h, .ref hh, .ref w, .ref k0])), (h, .inr (1, [.ref a1, .ref a2, .ref a3, .ref a4, .ref a5, .int (nI n), .int nm])), (a1, .inl (cI, 6, .inl S)), (a2, .inl (cI, 6, .inl O))] sz)) 0 0 (va_A [(x0, .inr (3, [.ref h, .ref hh, .ref w, .ref k0])), (h, .inr (1, [.ref a1, .ref a2, .ref a3, .ref a4, .ref a5, .int (nI n), .int nm])), (a1, .inl (cI, 6, .inl S)), (a2, .inl (cI, 6, .inl O))] sz) := by
  refine va_MetW (cc := cL_pair) (maxL := 6) (ret := (some .int)) (hh := [(0, 9, 12, 13)]) (by decide) rfl ?_
  intro p e s m args below meth c s₁ B hml hv
  obtain ⟨rfl, hsz, hP, hz, hD0⟩ := hv
  have hx := B.exec
  have hb := B.bytes
  have hr := B.returns
  have hts := atoms_spec (ws := (Cond.codeWith yL_pair cL_pair 6 (some .int) [(0, 9, 12, 13)] :: hwG)) B.pre
  have htg := fun w h => hts w (List.mem_cons_of_mem _ h)
  have hown : s.vm.findClass RL = some m.cls := findClass_of_methodNamed B.named
  have hlocks := B.notSynchronized
  have hK := hz.1
  have htab := hw_tab (hts _ List.mem_cons_self) B.named B.method (Stand.of_body B).code
  subst hsz
  have hD := hD0.self (sz := s.heap.size)
  generalize hAe : va_A [(x0, .inr (3, [.ref h, .ref hh, .ref w, .ref k0])), (h, .inr (1, [.ref a1, .ref a2, .ref a3, .ref a4, .ref a5, .int (nI n), .int nm])), (a1, .inl (cI, 6, .inl S)), (a2, .inl (cI, 6, .inl O))] s.heap.size = A at hD ⊢
  have hA : ∀ q : Nat, s.heap.size ≤ q → A q := fun q h => by rw [← hAe]; exact Or.inr h
  have hS : va_S A s.heap s.heap [] := va_S.rf
  have hl := lv_entry ([.ref x0, .int (nI 0), .int (nI a), .int (nI b), .int (hc_b o)]) (n := 6) (Nat.le_of_ble_eq_true rfl)
  rw [lg_entry_eq]
  generalize (lg_sl ([.ref x0, .int (nI 0), .int (nI a), .int (nI b), .int (hc_b o)]) ++ List.replicate (6 - (lg_sl ([.ref x0, .int (nI 0), .int (nI a), .int (nI b), .int (hc_b o)])).length) Slot.unset).toArray = ls at hl ⊢
  replace hl : lv_has ls 6 [(0, .ref x0), (1, .int (nI 0)), (2, .int (nI a)), (3, .int (nI b)), (4, .int (hc_b o))] := hl
  replace hP : va_P D vwCl [(x0, .inr (3, [.ref h, .ref hh, .ref w, .ref k0])), (h, .inr (1, [.ref a1, .ref a2, .ref a3, .ref a4, .ref a5, .int (nI n), .int nm])), (a1, .inl (cI, 6, .inl S)), (a2, .inl (cI, 6, .inl O))] s.heap := hP
  refine lv_aload_n hx hb dL_pair_0 rfl (lv_at hl 0 rfl) ?_
  refine lv_iload_n hx hb dL_pair_1 rfl (lv_at hl 1 rfl) ?_
  refine lv_iload_n hx hb dL_pair_2 rfl (lv_at hl 2 rfl) ?_
  refine lv_iload_n hx hb dL_pair_3 rfl (lv_at hl 3 rfl) ?_
  refine lv_iload hx hb dL_pair_4 (lv_at hl 4 rfl) ?_
  refine hv_callv (w1 := fun u : (Nat → Int32) × (Nat → Int32) × Int32 => ((x0, .inr (3, [.ref h, .ref hh, .ref w, .ref k0]))) :: [(h, .inr (1, [.ref a1, .ref a2, .ref a3, .ref a4, .ref a5, .int (nI n), .int u.2.2])), (a1, .inl (cI, 6, .inl u.1)), (a2, .inl (cI, 6, .inl u.2.1))]) (va_runV (C := RX3) (b := x0) (As := [.int (nI 0), .int (nI a), .int (nI b), .int (hc_b o)]) (rest := []) ⟨hx, hb, hml, hown, htg⟩ (k_X3_pair0 l D cI cZ cJ _ a b o n S O nm h a1 a2 a3 a4 a5 x0 hh w k0 ha hb6) (cwV 4 htg (hg_V hm_213 hm_214 hm_215 hm_1 hm_216) rfl rfl rfl (by decide +kernel) ⟨Nat.le_of_ble_eq_true rfl, Nat.le_of_ble_eq_true rfl⟩) ⟨hp_M_blind, va_recv (q := (RX3, TX3, 4)) (q0 := 0) (ci := 3) hK hP rfl rfl, hp_M_pre (hP.sub (ws' := [(x0, .inr (3, [.ref h, .ref hh, .ref w, .ref k0])), (h, .inr (1, [.ref a1, .ref a2, .ref a3, .ref a4, .ref a5, .int (nI n), .int nm])), (a1, .inl (cI, 6, .inl S)), (a2, .inl (cI, 6, .inl O))]) [0, 1, 2, 3] rfl) (hD.sub (ws' := [(x0, .inr (3, [.ref h, .ref hh, .ref w, .ref k0])), (h, .inr (1, [.ref a1, .ref a2, .ref a3, .ref a4, .ref a5, .int (nI n), .int nm])), (a1, .inl (cI, 6, .inl S)), (a2, .inl (cI, 6, .inl O))]) [0, 1, 2, 3] (by decide) rfl) hz⟩ rfl rfl hl.1 rfl (lv_room (Nat.le_of_ble_eq_true rfl)) dL_pair_6 ⟨Nat.zero_le _, Nat.zero_le _⟩) hP hD hS hA [0, 1, 2, 3] rfl (fun _ => rfl) (fun u1 H locs h1 hP hD hS => ?_)
  replace hP : va_P D vwCl (((x0, .inr (3, [.ref h, .ref hh, .ref w, .ref k0]))) :: [(h, .inr (1, [.ref a1, .ref a2, .ref a3, .ref a4, .ref a5, .int (nI n), .int u1.2.2])), (a1, .inl (cI, 6, .inl u1.1)), (a2, .inl (cI, 6, .inl u1.2.1))]) H := hP
  refine lv_goto hx hb dL_pair_9 rfl ?_
  refine lv_iconst (v := nI 0) hx hb dL_pair_16 (by decide) ?_
  exact W.iret (v := nI 0) hx hb hr (fun t9 ht9 hW9 => ⟨⟨_, u1, rfl, ⟨rfl, h1⟩, by show va_P D vwCl (((x0, .inr (3, [.ref h, .ref hh, .ref w, .ref k0]))) :: [(h, .inr (1, [.ref a1, .ref a2, .ref a3, .ref a4, .ref a5, .int (nI n), .int u1.2.2])), (a1, .inl (cI, 6, .inl u1.1)), (a2, .inl (cI, 6, .inl u1.2.1))]) t9.heap; rw [ht9]; exact hP⟩, hS.F ht9⟩) hS.2.2 dL_pair_17

set_option maxHeartbeats 4000000 in
set_option maxRecDepth 100000 in
/-- it returns -/
theorem kh_pair1 (l : Launch) (D : va_G) (cI cZ cJ : ClassId) (sz : Nat) (a b : Nat) (o : Bool) (n : Nat) (S O : Nat → Int32) (nm : Int32) (h a1 a2 a3 a4 a5 : Nat) (x0 hh w k0 : Nat) (ha : a < 6) (hb6 : b < 6) : Met l yL_pair (Cond.codeWith yL_pair cL_pair 6 (some .int) [(0, 9, 12, 13)] :: hwG) { frames := 2, cells := 0, slots := 0, locals := 48 } (hp_M [.ref x0, .int (nI 1), .int (nI a), .int (nI b), .int (hc_b o)] D cI cZ cJ [(x0, .inr (3, [.ref hh, .ref h, .ref w, .ref k0])), (h, .inr (1, [.ref a1, .ref a2, .ref a3, .ref a4, .ref a5, .int (nI n), .int nm])), (a1, .inl (cI, 6, .inl S)), (a2, .inl (cI, 6, .inl O))] sz) (va_Qi (S := (Nat → Int32) × (Nat → Int32) × Int32) (fun r u => r = nI 0 ∧ (fun u => u.1 = (bif o then S else upd S a (S a ||| (nI 1 <<< (nI b &&& 31)))) ∧ u.2.1 = (bif o then upd O a (O a ||| (nI 1 <<< (nI b &&& 31))) else O) ∧ u.2.2 = nm ||| ((nI 1 <<< (nI a &&& 31)) ||| (nI 1 <<< (nI b &&& 31)))) u) (fun u t => va_P D vwCl (((x0, .inr (3, [.ref hh, .ref h, .ref w, .ref k0]))) :: [(h, .inr (1, [.ref a1, .ref a2, .ref a3, .ref a4, .ref a5, .int (nI n), .int u.2.2])), (a1, .inl (cI, 6, .inl u.1)), (a2, .inl (cI, 6, .inl u.2.1))]) t.heap) (va_A [(x0, .inr (3, [.ref hh, .ref h, .ref w, .ref k0])), (h, .inr (1, [.ref a1, .ref a2, .ref a3, .ref a4, .ref a5, .int (nI n), .int nm])), (a1, .inl (cI, 6, .inl S)), (a2, .inl (cI, 6, .inl O))] sz)) 0 0 (va_A [(x0, .inr (3, [.ref hh, .ref h, .ref w, .ref k0])), (h, .inr (1, [.ref a1, .ref a2, .ref a3, .ref a4, .ref a5, .int (nI n), .int nm])), (a1, .inl (cI, 6, .inl S)), (a2, .inl (cI, 6, .inl O))] sz) := by
  refine va_MetW (cc := cL_pair) (maxL := 6) (ret := (some .int)) (hh := [(0, 9, 12, 13)]) (by decide) rfl ?_
  intro p e s m args below meth c s₁ B hml hv
  obtain ⟨rfl, hsz, hP, hz, hD0⟩ := hv
  have hx := B.exec
  have hb := B.bytes
  have hr := B.returns
  have hts := atoms_spec (ws := (Cond.codeWith yL_pair cL_pair 6 (some .int) [(0, 9, 12, 13)] :: hwG)) B.pre
  have htg := fun w h => hts w (List.mem_cons_of_mem _ h)
  have hown : s.vm.findClass RL = some m.cls := findClass_of_methodNamed B.named
  have hlocks := B.notSynchronized
  have hK := hz.1
  have htab := hw_tab (hts _ List.mem_cons_self) B.named B.method (Stand.of_body B).code
  subst hsz
  have hD := hD0.self (sz := s.heap.size)
  generalize hAe : va_A [(x0, .inr (3, [.ref hh, .ref h, .ref w, .ref k0])), (h, .inr (1, [.ref a1, .ref a2, .ref a3, .ref a4, .ref a5, .int (nI n), .int nm])), (a1, .inl (cI, 6, .inl S)), (a2, .inl (cI, 6, .inl O))] s.heap.size = A at hD ⊢
  have hA : ∀ q : Nat, s.heap.size ≤ q → A q := fun q h => by rw [← hAe]; exact Or.inr h
  have hS : va_S A s.heap s.heap [] := va_S.rf
  have hl := lv_entry ([.ref x0, .int (nI 1), .int (nI a), .int (nI b), .int (hc_b o)]) (n := 6) (Nat.le_of_ble_eq_true rfl)
  rw [lg_entry_eq]
  generalize (lg_sl ([.ref x0, .int (nI 1), .int (nI a), .int (nI b), .int (hc_b o)]) ++ List.replicate (6 - (lg_sl ([.ref x0, .int (nI 1), .int (nI a), .int (nI b), .int (hc_b o)])).length) Slot.unset).toArray = ls at hl ⊢
  replace hl : lv_has ls 6 [(0, .ref x0), (1, .int (nI 1)), (2, .int (nI a)), (3, .int (nI b)), (4, .int (hc_b o))] := hl
  replace hP : va_P D vwCl [(x0, .inr (3, [.ref hh, .ref h, .ref w, .ref k0])), (h, .inr (1, [.ref a1, .ref a2, .ref a3, .ref a4, .ref a5, .int (nI n), .int nm])), (a1, .inl (cI, 6, .inl S)), (a2, .inl (cI, 6, .inl O))] s.heap := hP
  refine lv_aload_n hx hb dL_pair_0 rfl (lv_at hl 0 rfl) ?_
  refine lv_iload_n hx hb dL_pair_1 rfl (lv_at hl 1 rfl) ?_
  refine lv_iload_n hx hb dL_pair_2 rfl (lv_at hl 2 rfl) ?_
  refine lv_iload_n hx hb dL_pair_3 rfl (lv_at hl 3 rfl) ?_
  refine lv_iload hx hb dL_pair_4 (lv_at hl 4 rfl) ?_
  refine hv_callv (w1 := fun u : (Nat → Int32) × (Nat → Int32) × Int32 => ((x0, .inr (3, [.ref hh, .ref h, .ref w, .ref k0]))) :: [(h, .inr (1, [.ref a1, .ref a2, .ref a3, .ref a4, .ref a5, .int (nI n), .int u.2.2])), (a1, .inl (cI, 6, .inl u.1)), (a2, .inl (cI, 6, .inl u.2.1))]) (va_runV (C := RX3) (b := x0) (As := [.int (nI 1), .int (nI a), .int (nI b), .int (hc_b o)]) (rest := []) ⟨hx, hb, hml, hown, htg⟩ (k_X3_pair1 l D cI cZ cJ _ a b o n S O nm h a1 a2 a3 a4 a5 x0 hh w k0 ha hb6) (cwV 4 htg (hg_V hm_213 hm_214 hm_215 hm_1 hm_216) rfl rfl rfl (by decide +kernel) ⟨Nat.le_of_ble_eq_true rfl, Nat.le_of_ble_eq_true rfl⟩) ⟨hp_M_blind, va_recv (q := (RX3, TX3, 4)) (q0 := 0) (ci := 3) hK hP rfl rfl, hp_M_pre (hP.sub (ws' := [(x0, .inr (3, [.ref hh, .ref h, .ref w, .ref k0])), (h, .inr (1, [.ref a1, .ref a2, .ref a3, .ref a4, .ref a5, .int (nI n), .int nm])), (a1, .inl (cI, 6, .inl S)), (a2, .inl (cI, 6, .inl O))]) [0, 1, 2, 3] rfl) (hD.sub (ws' := [(x0, .inr (3, [.ref hh, .ref h, .ref w, .ref k0])), (h, .inr (1, [.ref a1, .ref a2, .ref a3, .ref a4, .ref a5, .int (nI n), .int nm])), (a1, .inl (cI, 6, .inl S)), (a2, .inl (cI, 6, .inl O))]) [0, 1, 2, 3] (by decide) rfl) hz⟩ rfl rfl hl.1 rfl (lv_room (Nat.le_of_ble_eq_true rfl)) dL_pair_6 ⟨Nat.zero_le _, Nat.zero_le _⟩) hP hD hS hA [0, 1, 2, 3] rfl (fun _ => rfl) (fun u1 H locs h1 hP hD hS => ?_)
  replace hP : va_P D vwCl (((x0, .inr (3, [.ref hh, .ref h, .ref w, .ref k0]))) :: [(h, .inr (1, [.ref a1, .ref a2, .ref a3, .ref a4, .ref a5, .int (nI n), .int u1.2.2])), (a1, .inl (cI, 6, .inl u1.1)), (a2, .inl (cI, 6, .inl u1.2.1))]) H := hP
  refine lv_goto hx hb dL_pair_9 rfl ?_
  refine lv_iconst (v := nI 0) hx hb dL_pair_16 (by decide) ?_
  exact W.iret (v := nI 0) hx hb hr (fun t9 ht9 hW9 => ⟨⟨_, u1, rfl, ⟨rfl, h1⟩, by show va_P D vwCl (((x0, .inr (3, [.ref hh, .ref h, .ref w, .ref k0]))) :: [(h, .inr (1, [.ref a1, .ref a2, .ref a3, .ref a4, .ref a5, .int (nI n), .int u1.2.2])), (a1, .inl (cI, 6, .inl u1.1)), (a2, .inl (cI, 6, .inl u1.2.1))]) t9.heap; rw [ht9]; exact hP⟩, hS.F ht9⟩) hS.2.2 dL_pair_17

set_option maxHeartbeats 4000000 in
set_option maxRecDepth 100000 in
/-- it returns -/
theorem kh_clear0 (l : Launch) (D : va_G) (cI cZ cJ : ClassId) (sz : Nat) (n : Nat) (S O : Nat → Int32) (nm : Int32) (h a1 a2 a3 a4 a5 : Nat) (x0 hh w k0 : Nat) : Met l yL_clear (Cond.codeWith yL_clear cL_clear 3 (some .int) [(0, 5, 8, 13)] :: hwG) { frames := 3, cells := 0, slots := 0, locals := 64 } (hp_M [.ref x0, .int (nI 0)] D cI cZ cJ [(x0, .inr (3, [.ref h, .ref hh, .ref w, .ref k0])), (h, .inr (1, [.ref a1, .ref a2, .ref a3, .ref a4, .ref a5, .int (nI n), .int nm])), (a1, .inl (cI, 6, .inl S)), (a2, .inl (cI, 6, .inl O))] sz) (va_Qi (S := (Nat → Int32) × (Nat → Int32)) (fun r u => r = nI 0 ∧ (fun u => (∀ j, j < 6 → u.1 j = nI 0) ∧ ∀ j, j < 6 → u.2 j = nI 0) u) (fun u t => va_P D vwCl (((x0, .inr (3, [.ref h, .ref hh, .ref w, .ref k0]))) :: [(h, .inr (1, [.ref a1, .ref a2, .ref a3, .ref a4, .ref a5, .int (nI 0), .int (nI 0)])), (a1, .inl (cI, 6, .inl u.1)), (a2, .inl (cI, 6, .inl u.2))]) t.heap) (va_A [(x0, .inr (3, [.ref h, .ref hh, .ref w, .ref k0])), (h, .inr (1, [.ref a1, .ref a2, .ref a3, .ref a4, .ref a5, .int (nI n), .int nm])), (a1, .inl (cI, 6, .inl S)), (a2, .inl (cI, 6, .inl O))] sz)) 0 0 (va_A [(x0, .inr (3, [.ref h, .ref hh, .ref w, .ref k0])), (h, .inr (1, [.ref a1, .ref a2, .ref a3, .ref a4, .ref a5, .int (nI n), .int nm])), (a1, .inl (cI, 6, .inl S)), (a2, .inl (cI, 6, .inl O))] sz) := by
  refine va_MetW (cc := cL_clear) (maxL := 3) (ret := (some .int)) (hh := [(0, 5, 8, 13)]) (by decide) rfl ?_
  intro p e s m args below meth c s₁ B hml hv
  obtain ⟨rfl, hsz, hP, hz, hD0⟩ := hv
  have hx := B.exec
  have hb := B.bytes
  have hr := B.returns
  have hts := atoms_spec (ws := (Cond.codeWith yL_clear cL_clear 3 (some .int) [(0, 5, 8, 13)] :: hwG)) B.pre
  have htg := fun w h => hts w (List.mem_cons_of_mem _ h)
  have hown : s.vm.findClass RL = some m.cls := findClass_of_methodNamed B.named
  have hlocks := B.notSynchronized
  have hK := hz.1
  have htab := hw_tab (hts _ List.mem_cons_self) B.named B.method (Stand.of_body B).code
  subst hsz
  have hD := hD0.self (sz := s.heap.size)
  generalize hAe : va_A [(x0, .inr (3, [.ref h, .ref hh, .ref w, .ref k0])), (h, .inr (1, [.ref a1, .ref a2, .ref a3, .ref a4, .ref a5, .int (nI n), .int nm])), (a1, .inl (cI, 6, .inl S)), (a2, .inl (cI, 6, .inl O))] s.heap.size = A at hD ⊢
  have hA : ∀ q : Nat, s.heap.size ≤ q → A q := fun q h => by rw [← hAe]; exact Or.inr h
  have hS : va_S A s.heap s.heap [] := va_S.rf
  have hl := lv_entry ([.ref x0, .int (nI 0)]) (n := 3) (Nat.le_of_ble_eq_true rfl)
  rw [lg_entry_eq]
  generalize (lg_sl ([.ref x0, .int (nI 0)]) ++ List.replicate (3 - (lg_sl ([.ref x0, .int (nI 0)])).length) Slot.unset).toArray = ls at hl ⊢
  replace hl : lv_has ls 3 [(0, .ref x0), (1, .int (nI 0))] := hl
  replace hP : va_P D vwCl [(x0, .inr (3, [.ref h, .ref hh, .ref w, .ref k0])), (h, .inr (1, [.ref a1, .ref a2, .ref a3, .ref a4, .ref a5, .int (nI n), .int nm])), (a1, .inl (cI, 6, .inl S)), (a2, .inl (cI, 6, .inl O))] s.heap := hP
  refine lv_aload_n hx hb dL_clear_0 rfl (lv_at hl 0 rfl) ?_
  refine lv_iload_n hx hb dL_clear_1 rfl (lv_at hl 1 rfl) ?_
  refine hv_callv (w1 := fun u : (Nat → Int32) × (Nat → Int32) => ((x0, .inr (3, [.ref h, .ref hh, .ref w, .ref k0]))) :: [(h, .inr (1, [.ref a1, .ref a2, .ref a3, .ref a4, .ref a5, .int (nI 0), .int (nI 0)])), (a1, .inl (cI, 6, .inl u.1)), (a2, .inl (cI, 6, .inl u.2))]) (va_runV (C := RX3) (b := x0) (As := [.int (nI 0)]) (rest := []) ⟨hx, hb, hml, hown, htg⟩ (k_X3_clear0 l D cI cZ cJ _ n S O nm h a1 a2 a3 a4 a5 x0 hh w k0) (cwV 1 htg (hg_V hm_330 hm_331 hm_332 hm_1 hm_333) rfl rfl rfl (by decide +kernel) ⟨Nat.le_of_ble_eq_true rfl, Nat.le_of_ble_eq_true rfl⟩) ⟨hp_M_blind, va_recv (q := (RX3, TX3, 4)) (q0 := 0) (ci := 3) hK hP rfl rfl, hp_M_pre (hP.sub (ws' := [(x0, .inr (3, [.ref h, .ref hh, .ref w, .ref k0])), (h, .inr (1, [.ref a1, .ref a2, .ref a3, .ref a4, .ref a5, .int (nI n), .int nm])), (a1, .inl (cI, 6, .inl S)), (a2, .inl (cI, 6, .inl O))]) [0, 1, 2, 3] rfl) (hD.sub (ws' := [(x0, .inr (3, [.ref h, .ref hh, .ref w, .ref k0])), (h, .inr (1, [.ref a1, .ref a2, .ref a3, .ref a4, .ref a5, .int (nI n), .int nm])), (a1, .inl (cI, 6, .inl S)), (a2, .inl (cI, 6, .inl O))]) [0, 1, 2, 3] (by decide) rfl) hz⟩ rfl rfl hl.1 rfl (lv_room (Nat.le_of_ble_eq_true rfl)) dL_clear_2 ⟨Nat.zero_le _, Nat.zero_le _⟩) hP hD hS hA [0, 1, 2, 3] rfl (fun _ => rfl) (fun u1 H locs h1 hP hD hS => ?_)
  replace hP : va_P D vwCl (((x0, .inr (3, [.ref h, .ref hh, .ref w, .ref k0]))) :: [(h, .inr (1, [.ref a1, .ref a2, .ref a3, .ref a4, .ref a5, .int (nI 0), .int (nI 0)])), (a1, .inl (cI, 6, .inl u1.1)), (a2, .inl (cI, 6, .inl u1.2))]) H := hP
  refine lv_goto hx hb dL_clear_5 rfl ?_
  refine lv_iconst (v := nI 0) hx hb dL_clear_11 (by decide) ?_
  exact W.iret (v := nI 0) hx hb hr (fun t9 ht9 hW9 => ⟨⟨_, u1, rfl, ⟨rfl, h1⟩, by show va_P D vwCl (((x0, .inr (3, [.ref h, .ref hh, .ref w, .ref k0]))) :: [(h, .inr (1, [.ref a1, .ref a2, .ref a3, .ref a4, .ref a5, .int (nI 0), .int (nI 0)])), (a1, .inl (cI, 6, .inl u1.1)), (a2, .inl (cI, 6, .inl u1.2))]) t9.heap; rw [ht9]; exact hP⟩, hS.F ht9⟩) hS.2.2 dL_clear_12

set_option maxHeartbeats 4000000 in
set_option maxRecDepth 100000 in
/-- it returns -/
theorem kh_clear1 (l : Launch) (D : va_G) (cI cZ cJ : ClassId) (sz : Nat) (n : Nat) (S O : Nat → Int32) (nm : Int32) (h a1 a2 a3 a4 a5 : Nat) (x0 hh w k0 : Nat) : Met l yL_clear (Cond.codeWith yL_clear cL_clear 3 (some .int) [(0, 5, 8, 13)] :: hwG) { frames := 3, cells := 0, slots := 0, locals := 64 } (hp_M [.ref x0, .int (nI 1)] D cI cZ cJ [(x0, .inr (3, [.ref hh, .ref h, .ref w, .ref k0])), (h, .inr (1, [.ref a1, .ref a2, .ref a3, .ref a4, .ref a5, .int (nI n), .int nm])), (a1, .inl (cI, 6, .inl S)), (a2, .inl (cI, 6, .inl O))] sz) (va_Qi (S := (Nat → Int32) × (Nat → Int32)) (fun r u => r = nI 0 ∧ (fun u => (∀ j, j < 6 → u.1 j = nI 0) ∧ ∀ j, j < 6 → u.2 j = nI 0) u) (fun u t => va_P D vwCl (((x0, .inr (3, [.ref hh, .ref h, .ref w, .ref k0]))) :: [(h, .inr (1, [.ref a1, .ref a2, .ref a3, .ref a4, .ref a5, .int (nI 0), .int (nI 0)])), (a1, .inl (cI, 6, .inl u.1)), (a2, .inl (cI, 6, .inl u.2))]) t.heap) (va_A [(x0, .inr (3, [.ref hh, .ref h, .ref w, .ref k0])), (h, .inr (1, [.ref a1, .ref a2, .ref a3, .ref a4, .ref a5, .int (nI n), .int nm])), (a1, .inl (cI, 6, .inl S)), (a2, .inl (cI, 6, .inl O))] sz)) 0 0 (va_A [(x0, .inr (3, [.ref hh, .ref h, .ref w, .ref k0])), (h, .inr (1, [.ref a1, .ref a2, .ref a3, .ref a4, .ref a5, .int (nI n), .int nm])), (a1, .inl (cI, 6, .inl S)), (a2, .inl (cI, 6, .inl O))] sz) := by
  refine va_MetW (cc := cL_clear) (maxL := 3) (ret := (some .int)) (hh := [(0, 5, 8, 13)]) (by decide) rfl ?_
  intro p e s m args below meth c s₁ B hml hv
  obtain ⟨rfl, hsz, hP, hz, hD0⟩ := hv
  have hx := B.exec
  have hb := B.bytes
  have hr := B.returns
  have hts := atoms_spec (ws := (Cond.codeWith yL_clear cL_clear 3 (some .int) [(0, 5, 8, 13)] :: hwG)) B.pre
  have htg := fun w h => hts w (List.mem_cons_of_mem _ h)
  have hown : s.vm.findClass RL = some m.cls := findClass_of_methodNamed B.named
  have hlocks := B.notSynchronized
  have hK := hz.1
  have htab := hw_tab (hts _ List.mem_cons_self) B.named B.method (Stand.of_body B).code
  subst hsz
  have hD := hD0.self (sz := s.heap.size)
  generalize hAe : va_A [(x0, .inr (3, [.ref hh, .ref h, .ref w, .ref k0])), (h, .inr (1, [.ref a1, .ref a2, .ref a3, .ref a4, .ref a5, .int (nI n), .int nm])), (a1, .inl (cI, 6, .inl S)), (a2, .inl (cI, 6, .inl O))] s.heap.size = A at hD ⊢
  have hA : ∀ q : Nat, s.heap.size ≤ q → A q := fun q h => by rw [← hAe]; exact Or.inr h
  have hS : va_S A s.heap s.heap [] := va_S.rf
  have hl := lv_entry ([.ref x0, .int (nI 1)]) (n := 3) (Nat.le_of_ble_eq_true rfl)
  rw [lg_entry_eq]
  generalize (lg_sl ([.ref x0, .int (nI 1)]) ++ List.replicate (3 - (lg_sl ([.ref x0, .int (nI 1)])).length) Slot.unset).toArray = ls at hl ⊢
  replace hl : lv_has ls 3 [(0, .ref x0), (1, .int (nI 1))] := hl
  replace hP : va_P D vwCl [(x0, .inr (3, [.ref hh, .ref h, .ref w, .ref k0])), (h, .inr (1, [.ref a1, .ref a2, .ref a3, .ref a4, .ref a5, .int (nI n), .int nm])), (a1, .inl (cI, 6, .inl S)), (a2, .inl (cI, 6, .inl O))] s.heap := hP
  refine lv_aload_n hx hb dL_clear_0 rfl (lv_at hl 0 rfl) ?_
  refine lv_iload_n hx hb dL_clear_1 rfl (lv_at hl 1 rfl) ?_
  refine hv_callv (w1 := fun u : (Nat → Int32) × (Nat → Int32) => ((x0, .inr (3, [.ref hh, .ref h, .ref w, .ref k0]))) :: [(h, .inr (1, [.ref a1, .ref a2, .ref a3, .ref a4, .ref a5, .int (nI 0), .int (nI 0)])), (a1, .inl (cI, 6, .inl u.1)), (a2, .inl (cI, 6, .inl u.2))]) (va_runV (C := RX3) (b := x0) (As := [.int (nI 1)]) (rest := []) ⟨hx, hb, hml, hown, htg⟩ (k_X3_clear1 l D cI cZ cJ _ n S O nm h a1 a2 a3 a4 a5 x0 hh w k0) (cwV 1 htg (hg_V hm_330 hm_331 hm_332 hm_1 hm_333) rfl rfl rfl (by decide +kernel) ⟨Nat.le_of_ble_eq_true rfl, Nat.le_of_ble_eq_true rfl⟩) ⟨hp_M_blind, va_recv (q := (RX3, TX3, 4)) (q0 := 0) (ci := 3) hK hP rfl rfl, hp_M_pre (hP.sub (ws' := [(x0, .inr (3, [.ref hh, .ref h, .ref w, .ref k0])), (h, .inr (1, [.ref a1, .ref a2, .ref a3, .ref a4, .ref a5, .int (nI n), .int nm])), (a1, .inl (cI, 6, .inl S)), (a2, .inl (cI, 6, .inl O))]) [0, 1, 2, 3] rfl) (hD.sub (ws' := [(x0, .inr (3, [.ref hh, .ref h, .ref w, .ref k0])), (h, .inr (1, [.ref a1, .ref a2, .ref a3, .ref a4, .ref a5, .int (nI n), .int nm])), (a1, .inl (cI, 6, .inl S)), (a2, .inl (cI, 6, .inl O))]) [0, 1, 2, 3] (by decide) rfl) hz⟩ rfl rfl hl.1 rfl (lv_room (Nat.le_of_ble_eq_true rfl)) dL_clear_2 ⟨Nat.zero_le _, Nat.zero_le _⟩) hP hD hS hA [0, 1, 2, 3] rfl (fun _ => rfl) (fun u1 H locs h1 hP hD hS => ?_)
  replace hP : va_P D vwCl (((x0, .inr (3, [.ref hh, .ref h, .ref w, .ref k0]))) :: [(h, .inr (1, [.ref a1, .ref a2, .ref a3, .ref a4, .ref a5, .int (nI 0), .int (nI 0)])), (a1, .inl (cI, 6, .inl u1.1)), (a2, .inl (cI, 6, .inl u1.2))]) H := hP
  refine lv_goto hx hb dL_clear_5 rfl ?_
  refine lv_iconst (v := nI 0) hx hb dL_clear_11 (by decide) ?_
  exact W.iret (v := nI 0) hx hb hr (fun t9 ht9 hW9 => ⟨⟨_, u1, rfl, ⟨rfl, h1⟩, by show va_P D vwCl (((x0, .inr (3, [.ref hh, .ref h, .ref w, .ref k0]))) :: [(h, .inr (1, [.ref a1, .ref a2, .ref a3, .ref a4, .ref a5, .int (nI 0), .int (nI 0)])), (a1, .inl (cI, 6, .inl u1.1)), (a2, .inl (cI, 6, .inl u1.2))]) t9.heap; rw [ht9]; exact hP⟩, hS.F ht9⟩) hS.2.2 dL_clear_12

set_option maxHeartbeats 4000000 in
set_option maxRecDepth 100000 in
/-- it returns -/
theorem kh_give (l : Launch) (D : va_G) (cI cZ cJ : ClassId) (sz : Nat) (x y : Nat) (VW EW LW BW : Nat → Int32) (flw : Int32) (VA : Nat → Nat) (HA : Nat → Option Nat) (x0 h hh w k0 : Nat) (w0 w1 w2 w3 : Nat) (hx5 : x < 5) (hy10 : y < 10) : Met l yL_give (Cond.codeWith yL_give cL_give 4 (some .int) [(0, 6, 9, 13), (0, 6, 12, 37)] :: hwG) { frames := 2, cells := 0, slots := 0, locals := 43 } (hp_M [.ref x0, .int (nI x), .int (nI y)] D cI cZ cJ [(x0, .inr (3, [.ref h, .ref hh, .ref w, .ref k0])), (w, .inr (2, [.ref w0, .int (nI 9), .ref w1, .ref w2, .ref w3, .int flw])), (w0, .inl (cI, 6, .inl VW))] sz) (va_Qi (S := (Nat → Int32)) (fun r u => r = nI 0 ∧ (fun u => u = upd VW x (nI y)) u) (fun u t => va_P D vwCl ([(x0, .inr (3, [.ref h, .ref hh, .ref w, .ref k0])), (w, .inr (2, [.ref w0, .int (nI 9), .ref w1, .ref w2, .ref w3, .int flw])), (w0, .inl (cI, 6, .inl u))]) t.heap) (va_A [(x0, .inr (3, [.ref h, .ref hh, .ref w, .ref k0])), (w, .inr (2, [.ref w0, .int (nI 9), .ref w1, .ref w2, .ref w3, .int flw])), (w0, .inl (cI, 6, .inl VW))] sz)) 0 0 (va_A [(x0, .inr (3, [.ref h, .ref hh, .ref w, .ref k0])), (w, .inr (2, [.ref w0, .int (nI 9), .ref w1, .ref w2, .ref w3, .int flw])), (w0, .inl (cI, 6, .inl VW))] sz) := by
  refine va_MetW (cc := cL_give) (maxL := 4) (ret := (some .int)) (hh := [(0, 6, 9, 13), (0, 6, 12, 37)]) (by decide) rfl ?_
  intro p e s m args below meth c s₁ B hml hv
  obtain ⟨rfl, hsz, hP, hz, hD0⟩ := hv
  have hx := B.exec
  have hb := B.bytes
  have hr := B.returns
  have hts := atoms_spec (ws := (Cond.codeWith yL_give cL_give 4 (some .int) [(0, 6, 9, 13), (0, 6, 12, 37)] :: hwG)) B.pre
  have htg := fun w h => hts w (List.mem_cons_of_mem _ h)
  have hown : s.vm.findClass RL = some m.cls := findClass_of_methodNamed B.named
  have hlocks := B.notSynchronized
  have hK := hz.1
  have htab := hw_tab (hts _ List.mem_cons_self) B.named B.method (Stand.of_body B).code
  subst hsz
  have hD := hD0.self (sz := s.heap.size)
  generalize hAe : va_A [(x0, .inr (3, [.ref h, .ref hh, .ref w, .ref k0])), (w, .inr (2, [.ref w0, .int (nI 9), .ref w1, .ref w2, .ref w3, .int flw])), (w0, .inl (cI, 6, .inl VW))] s.heap.size = A at hD ⊢
  have hA : ∀ q : Nat, s.heap.size ≤ q → A q := fun q h => by rw [← hAe]; exact Or.inr h
  have hS : va_S A s.heap s.heap [] := va_S.rf
  have hl := lv_entry ([.ref x0, .int (nI x), .int (nI y)]) (n := 4) (Nat.le_of_ble_eq_true rfl)
  rw [lg_entry_eq]
  generalize (lg_sl ([.ref x0, .int (nI x), .int (nI y)]) ++ List.replicate (4 - (lg_sl ([.ref x0, .int (nI x), .int (nI y)])).length) Slot.unset).toArray = ls at hl ⊢
  replace hl : lv_has ls 4 [(0, .ref x0), (1, .int (nI x)), (2, .int (nI y))] := hl
  replace hP : va_P D vwCl [(x0, .inr (3, [.ref h, .ref hh, .ref w, .ref k0])), (w, .inr (2, [.ref w0, .int (nI 9), .ref w1, .ref w2, .ref w3, .int flw])), (w0, .inl (cI, 6, .inl VW))] s.heap := hP
  refine lv_aload_n hx hb dL_give_0 rfl (lv_at hl 0 rfl) ?_
  refine lv_iload_n hx hb dL_give_1 rfl (lv_at hl 1 rfl) ?_
  refine lv_iload_n hx hb dL_give_2 rfl (lv_at hl 2 rfl) ?_
  refine hv_callv (w1 := fun u : (Nat → Int32) => [(x0, .inr (3, [.ref h, .ref hh, .ref w, .ref k0])), (w, .inr (2, [.ref w0, .int (nI 9), .ref w1, .ref w2, .ref w3, .int flw])), (w0, .inl (cI, 6, .inl u))]) (va_runV (C := RX3) (b := x0) (As := [.int (nI x), .int (nI y)]) (rest := []) ⟨hx, hb, hml, hown, htg⟩ (k_X3_give l D cI cZ cJ _ x y VW EW LW BW flw VA HA x0 h hh w k0 w0 w1 w2 w3 hx5 hy10) (cwV 2 htg (hg_V hm_384 hm_385 hm_386 hm_1 hm_387) rfl rfl rfl (by decide +kernel) ⟨Nat.le_of_ble_eq_true rfl, Nat.le_of_ble_eq_true rfl⟩) ⟨hp_M_blind, va_recv (q := (RX3, TX3, 4)) (q0 := 0) (ci := 3) hK hP rfl rfl, hp_M_pre (hP.sub (ws' := [(x0, .inr (3, [.ref h, .ref hh, .ref w, .ref k0])), (w, .inr (2, [.ref w0, .int (nI 9), .ref w1, .ref w2, .ref w3, .int flw])), (w0, .inl (cI, 6, .inl VW))]) [0, 1, 2] rfl) (hD.sub (ws' := [(x0, .inr (3, [.ref h, .ref hh, .ref w, .ref k0])), (w, .inr (2, [.ref w0, .int (nI 9), .ref w1, .ref w2, .ref w3, .int flw])), (w0, .inl (cI, 6, .inl VW))]) [0, 1, 2] (by decide) rfl) hz⟩ rfl rfl hl.1 rfl (lv_room (Nat.le_of_ble_eq_true rfl)) dL_give_3 ⟨Nat.zero_le _, Nat.zero_le _⟩) hP hD hS hA [0, 1, 2] rfl (fun _ => rfl) (fun u1 H locs h1 hP hD hS => ?_)
  replace hP : va_P D vwCl ([(x0, .inr (3, [.ref h, .ref hh, .ref w, .ref k0])), (w, .inr (2, [.ref w0, .int (nI 9), .ref w1, .ref w2, .ref w3, .int flw])), (w0, .inl (cI, 6, .inl u1))]) H := hP
  refine lv_goto hx hb dL_give_6 rfl ?_
  refine lv_iconst (v := nI 0) hx hb dL_give_15 (by decide) ?_
  exact W.iret (v := nI 0) hx hb hr (fun t9 ht9 hW9 => ⟨⟨_, u1, rfl, ⟨rfl, h1⟩, by show va_P D vwCl ([(x0, .inr (3, [.ref h, .ref hh, .ref w, .ref k0])), (w, .inr (2, [.ref w0, .int (nI 9), .ref w1, .ref w2, .ref w3, .int flw])), (w0, .inl (cI, 6, .inl u1))]) t9.heap; rw [ht9]; exact hP⟩, hS.F ht9⟩) hS.2.2 dL_give_16

set_option maxHeartbeats 4000000 in
set_option maxRecDepth 100000 in
/-- it returns -/
theorem kh_put (l : Launch) (D : va_G) (cI cZ cJ : ClassId) (sz : Nat) (x y : Nat) (VW EW LW BW : Nat → Int32) (flw : Int32) (VA : Nat → Nat) (HA : Nat → Option Nat) (x0 h hh w k0 : Nat) (w0 w1 w2 w3 : Nat) (hx1 : 1 ≤ x) (hx5 : x ≤ 9) (hy10 : y < 10) : Met l yL_put (Cond.codeWith yL_put cL_put 4 (some .int) [(0, 6, 9, 37)] :: hwG) { frames := 3, cells := 0, slots := 0, locals := 68 } (hp_M [.ref x0, .int (nI x), .int (nI y)] D cI cZ cJ [(x0, .inr (3, [.ref h, .ref hh, .ref w, .ref k0])), (w, .inr (2, [.ref w0, .int (nI 9), .ref w1, .ref w2, .ref w3, .int flw])), (w1, .inl (cI, 9 + 1, .inl EW)), (w2, .inl (cZ, 9 + 1, .inl LW)), (w3, .inl (cI, 9 + 1, .inl BW))] sz) (va_Qi (S := (Nat → Int32) × (Nat → Int32) × (Nat → Int32) × Int32) (fun r u => r = nI 0 ∧ (fun u => u.1 = upd EW (x) (nI y) ∧ u.2.1 = upd LW (x) (hc_b false) ∧ u.2.2.1 = upd BW (x) (nI 1 <<< (nI (x) &&& 31)) ∧ u.2.2.2 = flw ||| (nI 1 <<< (nI (x) &&& 31))) u) (fun u t => va_P D vwCl (((x0, .inr (3, [.ref h, .ref hh, .ref w, .ref k0]))) :: [(w, .inr (2, [.ref w0, .int (nI 9), .ref w1, .ref w2, .ref w3, .int u.2.2.2])), (w1, .inl (cI, 9 + 1, .inl u.1)), (w2, .inl (cZ, 9 + 1, .inl u.2.1)), (w3, .inl (cI, 9 + 1, .inl u.2.2.1))]) t.heap) (va_A [(x0, .inr (3, [.ref h, .ref hh, .ref w, .ref k0])), (w, .inr (2, [.ref w0, .int (nI 9), .ref w1, .ref w2, .ref w3, .int flw])), (w1, .inl (cI, 9 + 1, .inl EW)), (w2, .inl (cZ, 9 + 1, .inl LW)), (w3, .inl (cI, 9 + 1, .inl BW))] sz)) 0 0 (va_A [(x0, .inr (3, [.ref h, .ref hh, .ref w, .ref k0])), (w, .inr (2, [.ref w0, .int (nI 9), .ref w1, .ref w2, .ref w3, .int flw])), (w1, .inl (cI, 9 + 1, .inl EW)), (w2, .inl (cZ, 9 + 1, .inl LW)), (w3, .inl (cI, 9 + 1, .inl BW))] sz) := by
  refine va_MetW (cc := cL_put) (maxL := 4) (ret := (some .int)) (hh := [(0, 6, 9, 37)]) (by decide) rfl ?_
  intro p e s m args below meth c s₁ B hml hv
  obtain ⟨rfl, hsz, hP, hz, hD0⟩ := hv
  have hx := B.exec
  have hb := B.bytes
  have hr := B.returns
  have hts := atoms_spec (ws := (Cond.codeWith yL_put cL_put 4 (some .int) [(0, 6, 9, 37)] :: hwG)) B.pre
  have htg := fun w h => hts w (List.mem_cons_of_mem _ h)
  have hown : s.vm.findClass RL = some m.cls := findClass_of_methodNamed B.named
  have hlocks := B.notSynchronized
  have hK := hz.1
  have htab := hw_tab (hts _ List.mem_cons_self) B.named B.method (Stand.of_body B).code
  subst hsz
  have hD := hD0.self (sz := s.heap.size)
  generalize hAe : va_A [(x0, .inr (3, [.ref h, .ref hh, .ref w, .ref k0])), (w, .inr (2, [.ref w0, .int (nI 9), .ref w1, .ref w2, .ref w3, .int flw])), (w1, .inl (cI, 9 + 1, .inl EW)), (w2, .inl (cZ, 9 + 1, .inl LW)), (w3, .inl (cI, 9 + 1, .inl BW))] s.heap.size = A at hD ⊢
  have hA : ∀ q : Nat, s.heap.size ≤ q → A q := fun q h => by rw [← hAe]; exact Or.inr h
  have hS : va_S A s.heap s.heap [] := va_S.rf
  have hl := lv_entry ([.ref x0, .int (nI x), .int (nI y)]) (n := 4) (Nat.le_of_ble_eq_true rfl)
  rw [lg_entry_eq]
  generalize (lg_sl ([.ref x0, .int (nI x), .int (nI y)]) ++ List.replicate (4 - (lg_sl ([.ref x0, .int (nI x), .int (nI y)])).length) Slot.unset).toArray = ls at hl ⊢
  replace hl : lv_has ls 4 [(0, .ref x0), (1, .int (nI x)), (2, .int (nI y))] := hl
  replace hP : va_P D vwCl [(x0, .inr (3, [.ref h, .ref hh, .ref w, .ref k0])), (w, .inr (2, [.ref w0, .int (nI 9), .ref w1, .ref w2, .ref w3, .int flw])), (w1, .inl (cI, 9 + 1, .inl EW)), (w2, .inl (cZ, 9 + 1, .inl LW)), (w3, .inl (cI, 9 + 1, .inl BW))] s.heap := hP
  refine lv_aload_n hx hb dL_put_0 rfl (lv_at hl 0 rfl) ?_
  refine lv_iload_n hx hb dL_put_1 rfl (lv_at hl 1 rfl) ?_
  refine lv_iload_n hx hb dL_put_2 rfl (lv_at hl 2 rfl) ?_
  refine hv_callv (w1 := fun u : (Nat → Int32) × (Nat → Int32) × (Nat → Int32) × Int32 => ((x0, .inr (3, [.ref h, .ref hh, .ref w, .ref k0]))) :: [(w, .inr (2, [.ref w0, .int (nI 9), .ref w1, .ref w2, .ref w3, .int u.2.2.2])), (w1, .inl (cI, 9 + 1, .inl u.1)), (w2, .inl (cZ, 9 + 1, .inl u.2.1)), (w3, .inl (cI, 9 + 1, .inl u.2.2.1))]) (va_runV (C := RX3) (b := x0) (As := [.int (nI x), .int (nI y)]) (rest := []) ⟨hx, hb, hml, hown, htg⟩ (k_X3_put l D cI cZ cJ _ x y VW EW LW BW flw VA HA x0 h hh w k0 w0 w1 w2 w3 hx1 hx5 hy10) (cwV 2 htg (hg_V hm_401 hm_402 hm_403 hm_1 hm_404) rfl rfl rfl (by decide +kernel) ⟨Nat.le_of_ble_eq_true rfl, Nat.le_of_ble_eq_true rfl⟩) ⟨hp_M_blind, va_recv (q := (RX3, TX3, 4)) (q0 := 0) (ci := 3) hK hP rfl rfl, hp_M_pre (hP.sub (ws' := [(x0, .inr (3, [.ref h, .ref hh, .ref w, .ref k0])), (w, .inr (2, [.ref w0, .int (nI 9), .ref w1, .ref w2, .ref w3, .int flw])), (w1, .inl (cI, 9 + 1, .inl EW)), (w2, .inl (cZ, 9 + 1, .inl LW)), (w3, .inl (cI, 9 + 1, .inl BW))]) [0, 1, 2, 3, 4] rfl) (hD.sub (ws' := [(x0, .inr (3, [.ref h, .ref hh, .ref w, .ref k0])), (w, .inr (2, [.ref w0, .int (nI 9), .ref w1, .ref w2, .ref w3, .int flw])), (w1, .inl (cI, 9 + 1, .inl EW)), (w2, .inl (cZ, 9 + 1, .inl LW)), (w3, .inl (cI, 9 + 1, .inl BW))]) [0, 1, 2, 3, 4] (by decide) rfl) hz⟩ rfl rfl hl.1 rfl (lv_room (Nat.le_of_ble_eq_true rfl)) dL_put_3 ⟨Nat.zero_le _, Nat.zero_le _⟩) hP hD hS hA [0, 1, 2, 3, 4] rfl (fun _ => rfl) (fun u1 H locs h1 hP hD hS => ?_)
  replace hP : va_P D vwCl (((x0, .inr (3, [.ref h, .ref hh, .ref w, .ref k0]))) :: [(w, .inr (2, [.ref w0, .int (nI 9), .ref w1, .ref w2, .ref w3, .int u1.2.2.2])), (w1, .inl (cI, 9 + 1, .inl u1.1)), (w2, .inl (cZ, 9 + 1, .inl u1.2.1)), (w3, .inl (cI, 9 + 1, .inl u1.2.2.1))]) H := hP
  refine lv_goto hx hb dL_put_6 rfl ?_
  refine lv_iconst (v := nI 0) hx hb dL_put_12 (by decide) ?_
  exact W.iret (v := nI 0) hx hb hr (fun t9 ht9 hW9 => ⟨⟨_, u1, rfl, ⟨rfl, h1⟩, by show va_P D vwCl (((x0, .inr (3, [.ref h, .ref hh, .ref w, .ref k0]))) :: [(w, .inr (2, [.ref w0, .int (nI 9), .ref w1, .ref w2, .ref w3, .int u1.2.2.2])), (w1, .inl (cI, 9 + 1, .inl u1.1)), (w2, .inl (cZ, 9 + 1, .inl u1.2.1)), (w3, .inl (cI, 9 + 1, .inl u1.2.2.1))]) t9.heap; rw [ht9]; exact hP⟩, hS.F ht9⟩) hS.2.2 dL_put_13

set_option maxHeartbeats 4000000 in
set_option maxRecDepth 100000 in
/-- it returns -/
theorem kh_copy (l : Launch) (D : va_G) (cI cZ cJ : ClassId) (sz : Nat) (x y : Nat) (VW EW LW BW : Nat → Int32) (flw : Int32) (VA : Nat → Nat) (HA : Nat → Option Nat) (x0 h hh w k0 : Nat) (w0 w1 w2 w3 : Nat) (hV : ∀ j, j < 6 → VW j = nI (VA j)) (hx5 : x < 5) (hy6 : y < 6) : Met l yL_copy (Cond.codeWith yL_copy cL_copy 4 (some .int) [(0, 6, 9, 13)] :: hwG) { frames := 2, cells := 0, slots := 0, locals := 43 } (hp_M [.ref x0, .int (nI x), .int (nI y)] D cI cZ cJ [(x0, .inr (3, [.ref h, .ref hh, .ref w, .ref k0])), (w, .inr (2, [.ref w0, .int (nI 9), .ref w1, .ref w2, .ref w3, .int flw])), (w0, .inl (cI, 6, .inl VW))] sz) (va_Qi (S := (Nat → Int32)) (fun r u => r = nI 0 ∧ (fun u => u = upd VW x (nI (VA y))) u) (fun u t => va_P D vwCl ([(x0, .inr (3, [.ref h, .ref hh, .ref w, .ref k0])), (w, .inr (2, [.ref w0, .int (nI 9), .ref w1, .ref w2, .ref w3, .int flw])), (w0, .inl (cI, 6, .inl u))]) t.heap) (va_A [(x0, .inr (3, [.ref h, .ref hh, .ref w, .ref k0])), (w, .inr (2, [.ref w0, .int (nI 9), .ref w1, .ref w2, .ref w3, .int flw])), (w0, .inl (cI, 6, .inl VW))] sz)) 0 0 (va_A [(x0, .inr (3, [.ref h, .ref hh, .ref w, .ref k0])), (w, .inr (2, [.ref w0, .int (nI 9), .ref w1, .ref w2, .ref w3, .int flw])), (w0, .inl (cI, 6, .inl VW))] sz) := by
  refine va_MetW (cc := cL_copy) (maxL := 4) (ret := (some .int)) (hh := [(0, 6, 9, 13)]) (by decide) rfl ?_
  intro p e s m args below meth c s₁ B hml hv
  obtain ⟨rfl, hsz, hP, hz, hD0⟩ := hv
  have hx := B.exec
  have hb := B.bytes
  have hr := B.returns
  have hts := atoms_spec (ws := (Cond.codeWith yL_copy cL_copy 4 (some .int) [(0, 6, 9, 13)] :: hwG)) B.pre
  have htg := fun w h => hts w (List.mem_cons_of_mem _ h)
  have hown : s.vm.findClass RL = some m.cls := findClass_of_methodNamed B.named
  have hlocks := B.notSynchronized
  have hK := hz.1
  have htab := hw_tab (hts _ List.mem_cons_self) B.named B.method (Stand.of_body B).code
  subst hsz
  have hD := hD0.self (sz := s.heap.size)
  generalize hAe : va_A [(x0, .inr (3, [.ref h, .ref hh, .ref w, .ref k0])), (w, .inr (2, [.ref w0, .int (nI 9), .ref w1, .ref w2, .ref w3, .int flw])), (w0, .inl (cI, 6, .inl VW))] s.heap.size = A at hD ⊢
  have hA : ∀ q : Nat, s.heap.size ≤ q → A q := fun q h => by rw [← hAe]; exact Or.inr h
  have hS : va_S A s.heap s.heap [] := va_S.rf
  have hl := lv_entry ([.ref x0, .int (nI x), .int (nI y)]) (n := 4) (Nat.le_of_ble_eq_true rfl)
  rw [lg_entry_eq]
  generalize (lg_sl ([.ref x0, .int (nI x), .int (nI y)]) ++ List.replicate (4 - (lg_sl ([.ref x0, .int (nI x), .int (nI y)])).length) Slot.unset).toArray = ls at hl ⊢
  replace hl : lv_has ls 4 [(0, .ref x0), (1, .int (nI x)), (2, .int (nI y))] := hl
  replace hP : va_P D vwCl [(x0, .inr (3, [.ref h, .ref hh, .ref w, .ref k0])), (w, .inr (2, [.ref w0, .int (nI 9), .ref w1, .ref w2, .ref w3, .int flw])), (w0, .inl (cI, 6, .inl VW))] s.heap := hP
  refine lv_aload_n hx hb dL_copy_0 rfl (lv_at hl 0 rfl) ?_
  refine lv_iload_n hx hb dL_copy_1 rfl (lv_at hl 1 rfl) ?_
  refine lv_iload_n hx hb dL_copy_2 rfl (lv_at hl 2 rfl) ?_
  refine hv_callv (w1 := fun u : (Nat → Int32) => [(x0, .inr (3, [.ref h, .ref hh, .ref w, .ref k0])), (w, .inr (2, [.ref w0, .int (nI 9), .ref w1, .ref w2, .ref w3, .int flw])), (w0, .inl (cI, 6, .inl u))]) (va_runV (C := RX3) (b := x0) (As := [.int (nI x), .int (nI y)]) (rest := []) ⟨hx, hb, hml, hown, htg⟩ (k_X3_copy l D cI cZ cJ _ x y VW EW LW BW flw VA HA x0 h hh w k0 w0 w1 w2 w3 hV hx5 hy6) (cwV 2 htg (hg_V hm_421 hm_422 hm_423 hm_1 hm_424) rfl rfl rfl (by decide +kernel) ⟨Nat.le_of_ble_eq_true rfl, Nat.le_of_ble_eq_true rfl⟩) ⟨hp_M_blind, va_recv (q := (RX3, TX3, 4)) (q0 := 0) (ci := 3) hK hP rfl rfl, hp_M_pre (hP.sub (ws' := [(x0, .inr (3, [.ref h, .ref hh, .ref w, .ref k0])), (w, .inr (2, [.ref w0, .int (nI 9), .ref w1, .ref w2, .ref w3, .int flw])), (w0, .inl (cI, 6, .inl VW))]) [0, 1, 2] rfl) (hD.sub (ws' := [(x0, .inr (3, [.ref h, .ref hh, .ref w, .ref k0])), (w, .inr (2, [.ref w0, .int (nI 9), .ref w1, .ref w2, .ref w3, .int flw])), (w0, .inl (cI, 6, .inl VW))]) [0, 1, 2] (by decide) rfl) hz⟩ rfl rfl hl.1 rfl (lv_room (Nat.le_of_ble_eq_true rfl)) dL_copy_3 ⟨Nat.zero_le _, Nat.zero_le _⟩) hP hD hS hA [0, 1, 2] rfl (fun _ => rfl) (fun u1 H locs h1 hP hD hS => ?_)
  replace hP : va_P D vwCl ([(x0, .inr (3, [.ref h, .ref hh, .ref w, .ref k0])), (w, .inr (2, [.ref w0, .int (nI 9), .ref w1, .ref w2, .ref w3, .int flw])), (w0, .inl (cI, 6, .inl u1))]) H := hP
  refine lv_goto hx hb dL_copy_6 rfl ?_
  refine lv_iconst (v := nI 0) hx hb dL_copy_12 (by decide) ?_
  exact W.iret (v := nI 0) hx hb hr (fun t9 ht9 hW9 => ⟨⟨_, u1, rfl, ⟨rfl, h1⟩, by show va_P D vwCl ([(x0, .inr (3, [.ref h, .ref hh, .ref w, .ref k0])), (w, .inr (2, [.ref w0, .int (nI 9), .ref w1, .ref w2, .ref w3, .int flw])), (w0, .inl (cI, 6, .inl u1))]) t9.heap; rw [ht9]; exact hP⟩, hS.F ht9⟩) hS.2.2 dL_copy_13

set_option maxHeartbeats 4000000 in
set_option maxRecDepth 100000 in
/-- it returns -/
theorem kh_load (l : Launch) (D : va_G) (cI cZ cJ : ClassId) (sz : Nat) (x y z9 : Nat) (VW EW LW BW : Nat → Int32) (flw : Int32) (VA : Nat → Nat) (HA : Nat → Option Nat) (x0 h hh w k0 : Nat) (w0 w1 w2 w3 : Nat) (hV : ∀ j, j < 6 → VW j = nI (VA j)) (hV9 : ∀ j, j < 6 → VA j ≤ 9) (hW : hs_hp 9 EW LW BW HA (fun _ => false) (fun a => a)) (hx5 : x < 5) (hy6 : y < 5) (hz9 : HA (VA y) = some z9) : Met l yL_load (Cond.codeWith yL_load cL_load 4 (some .int) [(0, 6, 9, 13), (0, 6, 12, 19)] :: hwG) { frames := 3, cells := 0, slots := 0, locals := 64 } (hp_M [.ref x0, .int (nI x), .int (nI y)] D cI cZ cJ [(x0, .inr (3, [.ref h, .ref hh, .ref w, .ref k0])), (w, .inr (2, [.ref w0, .int (nI 9), .ref w1, .ref w2, .ref w3, .int flw])), (w0, .inl (cI, 6, .inl VW)), (w1, .inl (cI, 9 + 1, .inl EW))] sz) (va_Qi (S := (Nat → Int32)) (fun r u => r = nI 0 ∧ (fun u => u = upd VW x (nI z9)) u) (fun u t => va_P D vwCl ([(x0, .inr (3, [.ref h, .ref hh, .ref w, .ref k0])), (w, .inr (2, [.ref w0, .int (nI 9), .ref w1, .ref w2, .ref w3, .int flw])), (w0, .inl (cI, 6, .inl u)), (w1, .inl (cI, 9 + 1, .inl EW))]) t.heap) (va_A [(x0, .inr (3, [.ref h, .ref hh, .ref w, .ref k0])), (w, .inr (2, [.ref w0, .int (nI 9), .ref w1, .ref w2, .ref w3, .int flw])), (w0, .inl (cI, 6, .inl VW)), (w1, .inl (cI, 9 + 1, .inl EW))] sz)) 0 0 (va_A [(x0, .inr (3, [.ref h, .ref hh, .ref w, .ref k0])), (w, .inr (2, [.ref w0, .int (nI 9), .ref w1, .ref w2, .ref w3, .int flw])), (w0, .inl (cI, 6, .inl VW)), (w1, .inl (cI, 9 + 1, .inl EW))] sz) := by
  refine va_MetW (cc := cL_load) (maxL := 4) (ret := (some .int)) (hh := [(0, 6, 9, 13), (0, 6, 12, 19)]) (by decide) rfl ?_
  intro p e s m args below meth c s₁ B hml hv
  obtain ⟨rfl, hsz, hP, hz, hD0⟩ := hv
  have hx := B.exec
  have hb := B.bytes
  have hr := B.returns
  have hts := atoms_spec (ws := (Cond.codeWith yL_load cL_load 4 (some .int) [(0, 6, 9, 13), (0, 6, 12, 19)] :: hwG)) B.pre
  have htg := fun w h => hts w (List.mem_cons_of_mem _ h)
  have hown : s.vm.findClass RL = some m.cls := findClass_of_methodNamed B.named
  have hlocks := B.notSynchronized
  have hK := hz.1
  have htab := hw_tab (hts _ List.mem_cons_self) B.named B.method (Stand.of_body B).code
  subst hsz
  have hD := hD0.self (sz := s.heap.size)
  generalize hAe : va_A [(x0, .inr (3, [.ref h, .ref hh, .ref w, .ref k0])), (w, .inr (2, [.ref w0, .int (nI 9), .ref w1, .ref w2, .ref w3, .int flw])), (w0, .inl (cI, 6, .inl VW)), (w1, .inl (cI, 9 + 1, .inl EW))] s.heap.size = A at hD ⊢
  have hA : ∀ q : Nat, s.heap.size ≤ q → A q := fun q h => by rw [← hAe]; exact Or.inr h
  have hS : va_S A s.heap s.heap [] := va_S.rf
  have hl := lv_entry ([.ref x0, .int (nI x), .int (nI y)]) (n := 4) (Nat.le_of_ble_eq_true rfl)
  rw [lg_entry_eq]
  generalize (lg_sl ([.ref x0, .int (nI x), .int (nI y)]) ++ List.replicate (4 - (lg_sl ([.ref x0, .int (nI x), .int (nI y)])).length) Slot.unset).toArray = ls at hl ⊢
  replace hl : lv_has ls 4 [(0, .ref x0), (1, .int (nI x)), (2, .int (nI y))] := hl
  replace hP : va_P D vwCl [(x0, .inr (3, [.ref h, .ref hh, .ref w, .ref k0])), (w, .inr (2, [.ref w0, .int (nI 9), .ref w1, .ref w2, .ref w3, .int flw])), (w0, .inl (cI, 6, .inl VW)), (w1, .inl (cI, 9 + 1, .inl EW))] s.heap := hP
  refine lv_aload_n hx hb dL_load_0 rfl (lv_at hl 0 rfl) ?_
  refine lv_iload_n hx hb dL_load_1 rfl (lv_at hl 1 rfl) ?_
  refine lv_iload_n hx hb dL_load_2 rfl (lv_at hl 2 rfl) ?_
  refine hv_callv (w1 := fun u : (Nat → Int32) => [(x0, .inr (3, [.ref h, .ref hh, .ref w, .ref k0])), (w, .inr (2, [.ref w0, .int (nI 9), .ref w1, .ref w2, .ref w3, .int flw])), (w0, .inl (cI, 6, .inl u)), (w1, .inl (cI, 9 + 1, .inl EW))]) (va_runV (C := RX3) (b := x0) (As := [.int (nI x), .int (nI y)]) (rest := []) ⟨hx, hb, hml, hown, htg⟩ (k_X3_load l D cI cZ cJ _ x y z9 VW EW LW BW flw VA HA x0 h hh w k0 w0 w1 w2 w3 hV hV9 hW hx5 hy6 hz9) (cwV 2 htg (hg_V hm_428 hm_429 hm_430 hm_1 hm_431) rfl rfl rfl (by decide +kernel) ⟨Nat.le_of_ble_eq_true rfl, Nat.le_of_ble_eq_true rfl⟩) ⟨hp_M_blind, va_recv (q := (RX3, TX3, 4)) (q0 := 0) (ci := 3) hK hP rfl rfl, hp_M_pre (hP.sub (ws' := [(x0, .inr (3, [.ref h, .ref hh, .ref w, .ref k0])), (w, .inr (2, [.ref w0, .int (nI 9), .ref w1, .ref w2, .ref w3, .int flw])), (w0, .inl (cI, 6, .inl VW)), (w1, .inl (cI, 9 + 1, .inl EW))]) [0, 1, 2, 3] rfl) (hD.sub (ws' := [(x0, .inr (3, [.ref h, .ref hh, .ref w, .ref k0])), (w, .inr (2, [.ref w0, .int (nI 9), .ref w1, .ref w2, .ref w3, .int flw])), (w0, .inl (cI, 6, .inl VW)), (w1, .inl (cI, 9 + 1, .inl EW))]) [0, 1, 2, 3] (by decide) rfl) hz⟩ rfl rfl hl.1 rfl (lv_room (Nat.le_of_ble_eq_true rfl)) dL_load_3 ⟨Nat.zero_le _, Nat.zero_le _⟩) hP hD hS hA [0, 1, 2, 3] rfl (fun _ => rfl) (fun u1 H locs h1 hP hD hS => ?_)
  replace hP : va_P D vwCl ([(x0, .inr (3, [.ref h, .ref hh, .ref w, .ref k0])), (w, .inr (2, [.ref w0, .int (nI 9), .ref w1, .ref w2, .ref w3, .int flw])), (w0, .inl (cI, 6, .inl u1)), (w1, .inl (cI, 9 + 1, .inl EW))]) H := hP
  refine lv_goto hx hb dL_load_6 rfl ?_
  refine lv_iconst (v := nI 0) hx hb dL_load_15 (by decide) ?_
  exact W.iret (v := nI 0) hx hb hr (fun t9 ht9 hW9 => ⟨⟨_, u1, rfl, ⟨rfl, h1⟩, by show va_P D vwCl ([(x0, .inr (3, [.ref h, .ref hh, .ref w, .ref k0])), (w, .inr (2, [.ref w0, .int (nI 9), .ref w1, .ref w2, .ref w3, .int flw])), (w0, .inl (cI, 6, .inl u1)), (w1, .inl (cI, 9 + 1, .inl EW))]) t9.heap; rw [ht9]; exact hP⟩, hS.F ht9⟩) hS.2.2 dL_load_16

set_option maxHeartbeats 4000000 in
set_option maxRecDepth 100000 in
/-- it returns -/
theorem kh_store (l : Launch) (D : va_G) (cI cZ cJ : ClassId) (sz : Nat) (x y : Nat) (VW EW LW BW : Nat → Int32) (flw : Int32) (VA : Nat → Nat) (HA : Nat → Option Nat) (x0 h hh w k0 : Nat) (w0 w1 w2 w3 : Nat) (hV : ∀ j, j < 6 → VW j = nI (VA j)) (hV9 : ∀ j, j < 6 → VA j ≤ 9) (hW : hs_hp 9 EW LW BW HA (fun _ => false) (fun a => a)) (hx5 : x < 5) (hy6 : y < 6) (hn : HA (VA x) ≠ none) : Met l yL_store (Cond.codeWith yL_store cL_store 4 (some .int) [(0, 6, 9, 13), (0, 6, 12, 19)] :: hwG) { frames := 3, cells := 0, slots := 0, locals := 68 } (hp_M [.ref x0, .int (nI x), .int (nI y)] D cI cZ cJ [(x0, .inr (3, [.ref h, .ref hh, .ref w, .ref k0])), (w, .inr (2, [.ref w0, .int (nI 9), .ref w1, .ref w2, .ref w3, .int flw])), (w0, .inl (cI, 6, .inl VW)), (w1, .inl (cI, 9 + 1, .inl EW)), (w2, .inl (cZ, 9 + 1, .inl LW)), (w3, .inl (cI, 9 + 1, .inl BW))] sz) (va_Qi (S := (Nat → Int32) × (Nat → Int32) × (Nat → Int32) × Int32) (fun r u => r = nI 0 ∧ (fun u => u.1 = upd EW (VA x) (nI (VA y)) ∧ u.2.1 = upd LW (VA x) (hc_b false) ∧ u.2.2.1 = upd BW (VA x) (nI 1 <<< (nI (VA x) &&& 31)) ∧ u.2.2.2 = flw ||| (nI 1 <<< (nI (VA x) &&& 31))) u) (fun u t => va_P D vwCl ([(x0, .inr (3, [.ref h, .ref hh, .ref w, .ref k0])), (w, .inr (2, [.ref w0, .int (nI 9), .ref w1, .ref w2, .ref w3, .int u.2.2.2])), (w0, .inl (cI, 6, .inl VW)), (w1, .inl (cI, 9 + 1, .inl u.1)), (w2, .inl (cZ, 9 + 1, .inl u.2.1)), (w3, .inl (cI, 9 + 1, .inl u.2.2.1))]) t.heap) (va_A [(x0, .inr (3, [.ref h, .ref hh, .ref w, .ref k0])), (w, .inr (2, [.ref w0, .int (nI 9), .ref w1, .ref w2, .ref w3, .int flw])), (w0, .inl (cI, 6, .inl VW)), (w1, .inl (cI, 9 + 1, .inl EW)), (w2, .inl (cZ, 9 + 1, .inl LW)), (w3, .inl (cI, 9 + 1, .inl BW))] sz)) 0 0 (va_A [(x0, .inr (3, [.ref h, .ref hh, .ref w, .ref k0])), (w, .inr (2, [.ref w0, .int (nI 9), .ref w1, .ref w2, .ref w3, .int flw])), (w0, .inl (cI, 6, .inl VW)), (w1, .inl (cI, 9 + 1, .inl EW)), (w2, .inl (cZ, 9 + 1, .inl LW)), (w3, .inl (cI, 9 + 1, .inl BW))] sz) := by
  refine va_MetW (cc := cL_store) (maxL := 4) (ret := (some .int)) (hh := [(0, 6, 9, 13), (0, 6, 12, 19)]) (by decide) rfl ?_
  intro p e s m args below meth c s₁ B hml hv
  obtain ⟨rfl, hsz, hP, hz, hD0⟩ := hv
  have hx := B.exec
  have hb := B.bytes
  have hr := B.returns
  have hts := atoms_spec (ws := (Cond.codeWith yL_store cL_store 4 (some .int) [(0, 6, 9, 13), (0, 6, 12, 19)] :: hwG)) B.pre
  have htg := fun w h => hts w (List.mem_cons_of_mem _ h)
  have hown : s.vm.findClass RL = some m.cls := findClass_of_methodNamed B.named
  have hlocks := B.notSynchronized
  have hK := hz.1
  have htab := hw_tab (hts _ List.mem_cons_self) B.named B.method (Stand.of_body B).code
  subst hsz
  have hD := hD0.self (sz := s.heap.size)
  generalize hAe : va_A [(x0, .inr (3, [.ref h, .ref hh, .ref w, .ref k0])), (w, .inr (2, [.ref w0, .int (nI 9), .ref w1, .ref w2, .ref w3, .int flw])), (w0, .inl (cI, 6, .inl VW)), (w1, .inl (cI, 9 + 1, .inl EW)), (w2, .inl (cZ, 9 + 1, .inl LW)), (w3, .inl (cI, 9 + 1, .inl BW))] s.heap.size = A at hD ⊢
  have hA : ∀ q : Nat, s.heap.size ≤ q → A q := fun q h => by rw [← hAe]; exact Or.inr h
  have hS : va_S A s.heap s.heap [] := va_S.rf
  have hl := lv_entry ([.ref x0, .int (nI x), .int (nI y)]) (n := 4) (Nat.le_of_ble_eq_true rfl)
  rw [lg_entry_eq]
  generalize (lg_sl ([.ref x0, .int (nI x), .int (nI y)]) ++ List.replicate (4 - (lg_sl ([.ref x0, .int (nI x), .int (nI y)])).length) Slot.unset).toArray = ls at hl ⊢
  replace hl : lv_has ls 4 [(0, .ref x0), (1, .int (nI x)), (2, .int (nI y))] := hl
  replace hP : va_P D vwCl [(x0, .inr (3, [.ref h, .ref hh, .ref w, .ref k0])), (w, .inr (2, [.ref w0, .int (nI 9), .ref w1, .ref w2, .ref w3, .int flw])), (w0, .inl (cI, 6, .inl VW)), (w1, .inl (cI, 9 + 1, .inl EW)), (w2, .inl (cZ, 9 + 1, .inl LW)), (w3, .inl (cI, 9 + 1, .inl BW))] s.heap := hP
  refine lv_aload_n hx hb dL_store_0 rfl (lv_at hl 0 rfl) ?_
  refine lv_iload_n hx hb dL_store_1 rfl (lv_at hl 1 rfl) ?_
  refine lv_iload_n hx hb dL_store_2 rfl (lv_at hl 2 rfl) ?_
  refine hv_callv (w1 := fun u : (Nat → Int32) × (Nat → Int32) × (Nat → Int32) × Int32 => [(x0, .inr (3, [.ref h, .ref hh, .ref w, .ref k0])), (w, .inr (2, [.ref w0, .int (nI 9), .ref w1, .ref w2, .ref w3, .int u.2.2.2])), (w0, .inl (cI, 6, .inl VW)), (w1, .inl (cI, 9 + 1, .inl u.1)), (w2, .inl (cZ, 9 + 1, .inl u.2.1)), (w3, .inl (cI, 9 + 1, .inl u.2.2.1))]) (va_runV (C := RX3) (b := x0) (As := [.int (nI x), .int (nI y)]) (rest := []) ⟨hx, hb, hml, hown, htg⟩ (k_X3_store l D cI cZ cJ _ x y VW EW LW BW flw VA HA x0 h hh w k0 w0 w1 w2 w3 hV hV9 hW hx5 hy6 hn) (cwV 2 htg (hg_V hm_440 hm_441 hm_442 hm_1 hm_443) rfl rfl rfl (by decide +kernel) ⟨Nat.le_of_ble_eq_true rfl, Nat.le_of_ble_eq_true rfl⟩) ⟨hp_M_blind, va_recv (q := (RX3, TX3, 4)) (q0 := 0) (ci := 3) hK hP rfl rfl, hp_M_pre (hP.sub (ws' := [(x0, .inr (3, [.ref h, .ref hh, .ref w, .ref k0])), (w, .inr (2, [.ref w0, .int (nI 9), .ref w1, .ref w2, .ref w3, .int flw])), (w0, .inl (cI, 6, .inl VW)), (w1, .inl (cI, 9 + 1, .inl EW)), (w2, .inl (cZ, 9 + 1, .inl LW)), (w3, .inl (cI, 9 + 1, .inl BW))]) [0, 1, 2, 3, 4, 5] rfl) (hD.sub (ws' := [(x0, .inr (3, [.ref h, .ref hh, .ref w, .ref k0])), (w, .inr (2, [.ref w0, .int (nI 9), .ref w1, .ref w2, .ref w3, .int flw])), (w0, .inl (cI, 6, .inl VW)), (w1, .inl (cI, 9 + 1, .inl EW)), (w2, .inl (cZ, 9 + 1, .inl LW)), (w3, .inl (cI, 9 + 1, .inl BW))]) [0, 1, 2, 3, 4, 5] (by decide) rfl) hz⟩ rfl rfl hl.1 rfl (lv_room (Nat.le_of_ble_eq_true rfl)) dL_store_3 ⟨Nat.zero_le _, Nat.zero_le _⟩) hP hD hS hA [0, 1, 2, 3, 4, 5] rfl (fun _ => rfl) (fun u1 H locs h1 hP hD hS => ?_)
  replace hP : va_P D vwCl ([(x0, .inr (3, [.ref h, .ref hh, .ref w, .ref k0])), (w, .inr (2, [.ref w0, .int (nI 9), .ref w1, .ref w2, .ref w3, .int u1.2.2.2])), (w0, .inl (cI, 6, .inl VW)), (w1, .inl (cI, 9 + 1, .inl u1.1)), (w2, .inl (cZ, 9 + 1, .inl u1.2.1)), (w3, .inl (cI, 9 + 1, .inl u1.2.2.1))]) H := hP
  refine lv_goto hx hb dL_store_6 rfl ?_
  refine lv_iconst (v := nI 0) hx hb dL_store_15 (by decide) ?_
  exact W.iret (v := nI 0) hx hb hr (fun t9 ht9 hW9 => ⟨⟨_, u1, rfl, ⟨rfl, h1⟩, by show va_P D vwCl ([(x0, .inr (3, [.ref h, .ref hh, .ref w, .ref k0])), (w, .inr (2, [.ref w0, .int (nI 9), .ref w1, .ref w2, .ref w3, .int u1.2.2.2])), (w0, .inl (cI, 6, .inl VW)), (w1, .inl (cI, 9 + 1, .inl u1.1)), (w2, .inl (cZ, 9 + 1, .inl u1.2.1)), (w3, .inl (cI, 9 + 1, .inl u1.2.2.1))]) t9.heap; rw [ht9]; exact hP⟩, hS.F ht9⟩) hS.2.2 dL_store_16

set_option maxHeartbeats 4000000 in
set_option maxRecDepth 100000 in
/-- it returns -/
theorem kh_make (l : Launch) (D : va_G) (cI cZ cJ : ClassId) (sz : Nat) (x : Nat) (VW EW LW BW : Nat → Int32) (flw : Int32) (VA : Nat → Nat) (HA : Nat → Option Nat) (x0 h hh w k0 : Nat) (w0 w1 w2 w3 : Nat) (hW : hs_hp 9 EW LW BW HA (fun _ => false) (fun a => a)) (hx5 : x < 5) (hnf : ¬ ∀ j, 1 ≤ j → j ≤ 9 → HA j ≠ none) : Met l yL_make (Cond.codeWith yL_make cL_make 3 (some .int) [(0, 5, 8, 13), (0, 5, 11, 61)] :: hwG) { frames := 3, cells := 0, slots := 0, locals := 68 } (hp_M [.ref x0, .int (nI x)] D cI cZ cJ [(x0, .inr (3, [.ref h, .ref hh, .ref w, .ref k0])), (w, .inr (2, [.ref w0, .int (nI 9), .ref w1, .ref w2, .ref w3, .int flw])), (w0, .inl (cI, 6, .inl VW)), (w1, .inl (cI, 9 + 1, .inl EW)), (w2, .inl (cZ, 9 + 1, .inl LW)), (w3, .inl (cI, 9 + 1, .inl BW))] sz) (va_Qi (S := (Nat → Int32) × (Nat → Int32) × (Nat → Int32) × Int32 × (Nat → Int32)) (fun r u => r = nI 0 ∧ (fun u => ∃ b, 1 ≤ b ∧ b ≤ 9 ∧ HA b = none ∧ (∀ j, 1 ≤ j → j < b → HA j ≠ none) ∧ u.2.2.2.2 = upd VW x (nI b) ∧ u.1 = upd EW (b) (nI 0) ∧ u.2.1 = upd LW (b) (hc_b false) ∧ u.2.2.1 = upd BW (b) (nI 1 <<< (nI (b) &&& 31)) ∧ u.2.2.2.1 = flw ||| (nI 1 <<< (nI (b) &&& 31))) u) (fun u t => va_P D vwCl ([(x0, .inr (3, [.ref h, .ref hh, .ref w, .ref k0])), (w, .inr (2, [.ref w0, .int (nI 9), .ref w1, .ref w2, .ref w3, .int u.2.2.2.1])), (w0, .inl (cI, 6, .inl u.2.2.2.2)), (w1, .inl (cI, 9 + 1, .inl u.1)), (w2, .inl (cZ, 9 + 1, .inl u.2.1)), (w3, .inl (cI, 9 + 1, .inl u.2.2.1))]) t.heap) (va_A [(x0, .inr (3, [.ref h, .ref hh, .ref w, .ref k0])), (w, .inr (2, [.ref w0, .int (nI 9), .ref w1, .ref w2, .ref w3, .int flw])), (w0, .inl (cI, 6, .inl VW)), (w1, .inl (cI, 9 + 1, .inl EW)), (w2, .inl (cZ, 9 + 1, .inl LW)), (w3, .inl (cI, 9 + 1, .inl BW))] sz)) 0 0 (va_A [(x0, .inr (3, [.ref h, .ref hh, .ref w, .ref k0])), (w, .inr (2, [.ref w0, .int (nI 9), .ref w1, .ref w2, .ref w3, .int flw])), (w0, .inl (cI, 6, .inl VW)), (w1, .inl (cI, 9 + 1, .inl EW)), (w2, .inl (cZ, 9 + 1, .inl LW)), (w3, .inl (cI, 9 + 1, .inl BW))] sz) := by
  refine va_MetW (cc := cL_make) (maxL := 3) (ret := (some .int)) (hh := [(0, 5, 8, 13), (0, 5, 11, 61)]) (by decide) rfl ?_
  intro p e s m args below meth c s₁ B hml hv
  obtain ⟨rfl, hsz, hP, hz, hD0⟩ := hv
  have hx := B.exec
  have hb := B.bytes
  have hr := B.returns
  have hts := atoms_spec (ws := (Cond.codeWith yL_make cL_make 3 (some .int) [(0, 5, 8, 13), (0, 5, 11, 61)] :: hwG)) B.pre
  have htg := fun w h => hts w (List.mem_cons_of_mem _ h)
  have hown : s.vm.findClass RL = some m.cls := findClass_of_methodNamed B.named
  have hlocks := B.notSynchronized
  have hK := hz.1
  have htab := hw_tab (hts _ List.mem_cons_self) B.named B.method (Stand.of_body B).code
  subst hsz
  have hD := hD0.self (sz := s.heap.size)
  generalize hAe : va_A [(x0, .inr (3, [.ref h, .ref hh, .ref w, .ref k0])), (w, .inr (2, [.ref w0, .int (nI 9), .ref w1, .ref w2, .ref w3, .int flw])), (w0, .inl (cI, 6, .inl VW)), (w1, .inl (cI, 9 + 1, .inl EW)), (w2, .inl (cZ, 9 + 1, .inl LW)), (w3, .inl (cI, 9 + 1, .inl BW))] s.heap.size = A at hD ⊢
  have hA : ∀ q : Nat, s.heap.size ≤ q → A q := fun q h => by rw [← hAe]; exact Or.inr h
  have hS : va_S A s.heap s.heap [] := va_S.rf
  have hl := lv_entry ([.ref x0, .int (nI x)]) (n := 3) (Nat.le_of_ble_eq_true rfl)
  rw [lg_entry_eq]
  generalize (lg_sl ([.ref x0, .int (nI x)]) ++ List.replicate (3 - (lg_sl ([.ref x0, .int (nI x)])).length) Slot.unset).toArray = ls at hl ⊢
  replace hl : lv_has ls 3 [(0, .ref x0), (1, .int (nI x))] := hl
  replace hP : va_P D vwCl [(x0, .inr (3, [.ref h, .ref hh, .ref w, .ref k0])), (w, .inr (2, [.ref w0, .int (nI 9), .ref w1, .ref w2, .ref w3, .int flw])), (w0, .inl (cI, 6, .inl VW)), (w1, .inl (cI, 9 + 1, .inl EW)), (w2, .inl (cZ, 9 + 1, .inl LW)), (w3, .inl (cI, 9 + 1, .inl BW))] s.heap := hP
  refine lv_aload_n hx hb dL_make_0 rfl (lv_at hl 0 rfl) ?_
  refine lv_iload_n hx hb dL_make_1 rfl (lv_at hl 1 rfl) ?_
  refine hv_callv (w1 := fun u : (Nat → Int32) × (Nat → Int32) × (Nat → Int32) × Int32 × (Nat → Int32) => [(x0, .inr (3, [.ref h, .ref hh, .ref w, .ref k0])), (w, .inr (2, [.ref w0, .int (nI 9), .ref w1, .ref w2, .ref w3, .int u.2.2.2.1])), (w0, .inl (cI, 6, .inl u.2.2.2.2)), (w1, .inl (cI, 9 + 1, .inl u.1)), (w2, .inl (cZ, 9 + 1, .inl u.2.1)), (w3, .inl (cI, 9 + 1, .inl u.2.2.1))]) (va_runV (C := RX3) (b := x0) (As := [.int (nI x)]) (rest := []) ⟨hx, hb, hml, hown, htg⟩ (k_X3_make l D cI cZ cJ _ x VW EW LW BW flw VA HA x0 h hh w k0 w0 w1 w2 w3 hW hx5 hnf) (cwV 1 htg (hg_V hm_448 hm_449 hm_450 hm_1 hm_451) rfl rfl rfl (by decide +kernel) ⟨Nat.le_of_ble_eq_true rfl, Nat.le_of_ble_eq_true rfl⟩) ⟨hp_M_blind, va_recv (q := (RX3, TX3, 4)) (q0 := 0) (ci := 3) hK hP rfl rfl, hp_M_pre (hP.sub (ws' := [(x0, .inr (3, [.ref h, .ref hh, .ref w, .ref k0])), (w, .inr (2, [.ref w0, .int (nI 9), .ref w1, .ref w2, .ref w3, .int flw])), (w0, .inl (cI, 6, .inl VW)), (w1, .inl (cI, 9 + 1, .inl EW)), (w2, .inl (cZ, 9 + 1, .inl LW)), (w3, .inl (cI, 9 + 1, .inl BW))]) [0, 1, 2, 3, 4, 5] rfl) (hD.sub (ws' := [(x0, .inr (3, [.ref h, .ref hh, .ref w, .ref k0])), (w, .inr (2, [.ref w0, .int (nI 9), .ref w1, .ref w2, .ref w3, .int flw])), (w0, .inl (cI, 6, .inl VW)), (w1, .inl (cI, 9 + 1, .inl EW)), (w2, .inl (cZ, 9 + 1, .inl LW)), (w3, .inl (cI, 9 + 1, .inl BW))]) [0, 1, 2, 3, 4, 5] (by decide) rfl) hz⟩ rfl rfl hl.1 rfl (lv_room (Nat.le_of_ble_eq_true rfl)) dL_make_2 ⟨Nat.zero_le _, Nat.zero_le _⟩) hP hD hS hA [0, 1, 2, 3, 4, 5] rfl (fun _ => rfl) (fun u1 H locs h1 hP hD hS => ?_)
  replace hP : va_P D vwCl ([(x0, .inr (3, [.ref h, .ref hh, .ref w, .ref k0])), (w, .inr (2, [.ref w0, .int (nI 9), .ref w1, .ref w2, .ref w3, .int u1.2.2.2.1])), (w0, .inl (cI, 6, .inl u1.2.2.2.2)), (w1, .inl (cI, 9 + 1, .inl u1.1)), (w2, .inl (cZ, 9 + 1, .inl u1.2.1)), (w3, .inl (cI, 9 + 1, .inl u1.2.2.1))]) H := hP
  refine lv_goto hx hb dL_make_5 rfl ?_
  refine lv_iconst (v := nI 0) hx hb dL_make_14 (by decide) ?_
  exact W.iret (v := nI 0) hx hb hr (fun t9 ht9 hW9 => ⟨⟨_, u1, rfl, ⟨rfl, h1⟩, by show va_P D vwCl ([(x0, .inr (3, [.ref h, .ref hh, .ref w, .ref k0])), (w, .inr (2, [.ref w0, .int (nI 9), .ref w1, .ref w2, .ref w3, .int u1.2.2.2.1])), (w0, .inl (cI, 6, .inl u1.2.2.2.2)), (w1, .inl (cI, 9 + 1, .inl u1.1)), (w2, .inl (cZ, 9 + 1, .inl u1.2.1)), (w3, .inl (cI, 9 + 1, .inl u1.2.2.1))]) t9.heap; rw [ht9]; exact hP⟩, hS.F ht9⟩) hS.2.2 dL_make_15

set_option maxHeartbeats 4000000 in
set_option maxRecDepth 100000 in
/-- it returns -/
theorem kh_drop (l : Launch) (D : va_G) (cI cZ cJ : ClassId) (sz : Nat) (x : Nat) (VW EW LW BW : Nat → Int32) (flw : Int32) (VA : Nat → Nat) (HA : Nat → Option Nat) (x0 h hh w k0 : Nat) (w0 w1 w2 w3 : Nat) (hV : ∀ j, j < 6 → VW j = nI (VA j)) (hV9 : ∀ j, j < 6 → VA j ≤ 9) (hW : hs_hp 9 EW LW BW HA (fun _ => false) (fun a => a)) (hx5 : x < 5) (hn : HA (VA x) ≠ none) : Met l yL_drop (Cond.codeWith yL_drop cL_drop 3 (some .int) [(0, 5, 8, 13), (0, 5, 11, 19)] :: hwG) { frames := 3, cells := 0, slots := 0, locals := 63 } (hp_M [.ref x0, .int (nI x)] D cI cZ cJ [(x0, .inr (3, [.ref h, .ref hh, .ref w, .ref k0])), (w, .inr (2, [.ref w0, .int (nI 9), .ref w1, .ref w2, .ref w3, .int flw])), (w0, .inl (cI, 6, .inl VW)), (w1, .inl (cI, 9 + 1, .inl EW)), (w3, .inl (cI, 9 + 1, .inl BW))] sz) (va_Qi (S := (Nat → Int32) × Int32) (fun r u => r = nI 0 ∧ (fun u => u.1 = upd EW (VA x) (-1) ∧ u.2 = flw &&& (BW (VA x) ^^^ (-1))) u) (fun u t => va_P D vwCl ([(x0, .inr (3, [.ref h, .ref hh, .ref w, .ref k0])), (w, .inr (2, [.ref w0, .int (nI 9), .ref w1, .ref w2, .ref w3, .int u.2])), (w0, .inl (cI, 6, .inl VW)), (w1, .inl (cI, 9 + 1, .inl u.1)), (w3, .inl (cI, 9 + 1, .inl BW))]) t.heap) (va_A [(x0, .inr (3, [.ref h, .ref hh, .ref w, .ref k0])), (w, .inr (2, [.ref w0, .int (nI 9), .ref w1, .ref w2, .ref w3, .int flw])), (w0, .inl (cI, 6, .inl VW)), (w1, .inl (cI, 9 + 1, .inl EW)), (w3, .inl (cI, 9 + 1, .inl BW))] sz)) 0 0 (va_A [(x0, .inr (3, [.ref h, .ref hh, .ref w, .ref k0])), (w, .inr (2, [.ref w0, .int (nI 9), .ref w1, .ref w2, .ref w3, .int flw])), (w0, .inl (cI, 6, .inl VW)), (w1, .inl (cI, 9 + 1, .inl EW)), (w3, .inl (cI, 9 + 1, .inl BW))] sz) := by
  refine va_MetW (cc := cL_drop) (maxL := 3) (ret := (some .int)) (hh := [(0, 5, 8, 13), (0, 5, 11, 19)]) (by decide) rfl ?_
  intro p e s m args below meth c s₁ B hml hv
  obtain ⟨rfl, hsz, hP, hz, hD0⟩ := hv
  have hx := B.exec
  have hb := B.bytes
  have hr := B.returns
  have hts := atoms_spec (ws := (Cond.codeWith yL_drop cL_drop 3 (some .int) [(0, 5, 8, 13), (0, 5, 11, 19)] :: hwG)) B.pre
  have htg := fun w h => hts w (List.mem_cons_of_mem _ h)
  have hown : s.vm.findClass RL = some m.cls := findClass_of_methodNamed B.named
  have hlocks := B.notSynchronized
  have hK := hz.1
  have htab := hw_tab (hts _ List.mem_cons_self) B.named B.method (Stand.of_body B).code
  subst hsz
  have hD := hD0.self (sz := s.heap.size)
  generalize hAe : va_A [(x0, .inr (3, [.ref h, .ref hh, .ref w, .ref k0])), (w, .inr (2, [.ref w0, .int (nI 9), .ref w1, .ref w2, .ref w3, .int flw])), (w0, .inl (cI, 6, .inl VW)), (w1, .inl (cI, 9 + 1, .inl EW)), (w3, .inl (cI, 9 + 1, .inl BW))] s.heap.size = A at hD ⊢
  have hA : ∀ q : Nat, s.heap.size ≤ q → A q := fun q h => by rw [← hAe]; exact Or.inr h
  have hS : va_S A s.heap s.heap [] := va_S.rf
  have hl := lv_entry ([.ref x0, .int (nI x)]) (n := 3) (Nat.le_of_ble_eq_true rfl)
  rw [lg_entry_eq]
  generalize (lg_sl ([.ref x0, .int (nI x)]) ++ List.replicate (3 - (lg_sl ([.ref x0, .int (nI x)])).length) Slot.unset).toArray = ls at hl ⊢
  replace hl : lv_has ls 3 [(0, .ref x0), (1, .int (nI x))] := hl
  replace hP : va_P D vwCl [(x0, .inr (3, [.ref h, .ref hh, .ref w, .ref k0])), (w, .inr (2, [.ref w0, .int (nI 9), .ref w1, .ref w2, .ref w3, .int flw])), (w0, .inl (cI, 6, .inl VW)), (w1, .inl (cI, 9 + 1, .inl EW)), (w3, .inl (cI, 9 + 1, .inl BW))] s.heap := hP
  refine lv_aload_n hx hb dL_drop_0 rfl (lv_at hl 0 rfl) ?_
  refine lv_iload_n hx hb dL_drop_1 rfl (lv_at hl 1 rfl) ?_
  refine hv_callv (w1 := fun u : (Nat → Int32) × Int32 => [(x0, .inr (3, [.ref h, .ref hh, .ref w, .ref k0])), (w, .inr (2, [.ref w0, .int (nI 9), .ref w1, .ref w2, .ref w3, .int u.2])), (w0, .inl (cI, 6, .inl VW)), (w1, .inl (cI, 9 + 1, .inl u.1)), (w3, .inl (cI, 9 + 1, .inl BW))]) (va_runV (C := RX3) (b := x0) (As := [.int (nI x)]) (rest := []) ⟨hx, hb, hml, hown, htg⟩ (k_X3_drop l D cI cZ cJ _ x VW EW LW BW flw VA HA x0 h hh w k0 w0 w1 w2 w3 hV hV9 hW hx5 hn) (cwV 1 htg (hg_V hm_475 hm_476 hm_477 hm_1 hm_478) rfl rfl rfl (by decide +kernel) ⟨Nat.le_of_ble_eq_true rfl, Nat.le_of_ble_eq_true rfl⟩) ⟨hp_M_blind, va_recv (q := (RX3, TX3, 4)) (q0 := 0) (ci := 3) hK hP rfl rfl, hp_M_pre (hP.sub (ws' := [(x0, .inr (3, [.ref h, .ref hh, .ref w, .ref k0])), (w, .inr (2, [.ref w0, .int (nI 9), .ref w1, .ref w2, .ref w3, .int flw])), (w0, .inl (cI, 6, .inl VW)), (w1, .inl (cI, 9 + 1, .inl EW)), (w3, .inl (cI, 9 + 1, .inl BW))]) [0, 1, 2, 3, 4] rfl) (hD.sub (ws' := [(x0, .inr (3, [.ref h, .ref hh, .ref w, .ref k0])), (w, .inr (2, [.ref w0, .int (nI 9), .ref w1, .ref w2, .ref w3, .int flw])), (w0, .inl (cI, 6, .inl VW)), (w1, .inl (cI, 9 + 1, .inl EW)), (w3, .inl (cI, 9 + 1, .inl BW))]) [0, 1, 2, 3, 4] (by decide) rfl) hz⟩ rfl rfl hl.1 rfl (lv_room (Nat.le_of_ble_eq_true rfl)) dL_drop_2 ⟨Nat.zero_le _, Nat.zero_le _⟩) hP hD hS hA [0, 1, 2, 3, 4] rfl (fun _ => rfl) (fun u1 H locs h1 hP hD hS => ?_)
  replace hP : va_P D vwCl ([(x0, .inr (3, [.ref h, .ref hh, .ref w, .ref k0])), (w, .inr (2, [.ref w0, .int (nI 9), .ref w1, .ref w2, .ref w3, .int u1.2])), (w0, .inl (cI, 6, .inl VW)), (w1, .inl (cI, 9 + 1, .inl u1.1)), (w3, .inl (cI, 9 + 1, .inl BW))]) H := hP
  refine lv_goto hx hb dL_drop_5 rfl ?_
  refine lv_iconst (v := nI 0) hx hb dL_drop_14 (by decide) ?_
  exact W.iret (v := nI 0) hx hb hr (fun t9 ht9 hW9 => ⟨⟨_, u1, rfl, ⟨rfl, h1⟩, by show va_P D vwCl ([(x0, .inr (3, [.ref h, .ref hh, .ref w, .ref k0])), (w, .inr (2, [.ref w0, .int (nI 9), .ref w1, .ref w2, .ref w3, .int u1.2])), (w0, .inl (cI, 6, .inl VW)), (w1, .inl (cI, 9 + 1, .inl u1.1)), (w3, .inl (cI, 9 + 1, .inl BW))]) t9.heap; rw [ht9]; exact hP⟩, hS.F ht9⟩) hS.2.2 dL_drop_15

set_option maxHeartbeats 4000000 in
set_option maxRecDepth 100000 in
/-- it throws -/
theorem kh_clear_x (l : Launch) (hst : l.stackTraces = false) (sa : Nat → Nat) (D : va_G) (cI cZ cJ : ClassId) (sz : Nat) (cx : Nat) (x0 h hh w k0 : Nat) (hcx : cx < 2 ^ 32) (hbad : ¬ cx < 2) : Met l yL_clear (Cond.codeWith yL_clear cL_clear 3 (some .int) [(0, 5, 8, 13)] :: hwG) { frames := 8, cells := 1, slots := 6, locals := 124 } (hp_H [.ref x0, .int (nI cx)] D cI cZ cJ [(x0, .inr (3, [.ref h, .ref hh, .ref w, .ref k0]))] sa sz) (va_Qi (S := Unit) (fun r _ => r = nI 1) (fun u t => va_P D vwCl ([(x0, .inr (3, [.ref h, .ref hh, .ref w, .ref k0]))]) t.heap) (va_A [(x0, .inr (3, [.ref h, .ref hh, .ref w, .ref k0]))] sz)) 1 6 (va_A [(x0, .inr (3, [.ref h, .ref hh, .ref w, .ref k0]))] sz) := by
  refine va_MetW (cc := cL_clear) (maxL := 3) (ret := (some .int)) (hh := [(0, 5, 8, 13)]) (by decide) rfl ?_
  intro p e s m args below meth c s₁ B hml hv
  obtain ⟨rfl, hsz, hP, hz, hD0, hE, hNc⟩ := hv
  have hx := B.exec
  have hb := B.bytes
  have hr := B.returns
  have hts := atoms_spec (ws := (Cond.codeWith yL_clear cL_clear 3 (some .int) [(0, 5, 8, 13)] :: hwG)) B.pre
  have htg := fun w h => hts w (List.mem_cons_of_mem _ h)
  have hown : s.vm.findClass RL = some m.cls := findClass_of_methodNamed B.named
  have hlocks := B.notSynchronized
  have hK := hz.1
  have htab := hw_tab (hts _ List.mem_cons_self) B.named B.method (Stand.of_body B).code
  subst hsz
  have hD := hD0.self (sz := s.heap.size)
  generalize hAe : va_A [(x0, .inr (3, [.ref h, .ref hh, .ref w, .ref k0]))] s.heap.size = A at hD ⊢
  have hA : ∀ q : Nat, s.heap.size ≤ q → A q := fun q h => by rw [← hAe]; exact Or.inr h
  have hS : va_S A s.heap s.heap [] := va_S.rf
  have hl := lv_entry ([.ref x0, .int (nI cx)]) (n := 3) (Nat.le_of_ble_eq_true rfl)
  rw [lg_entry_eq]
  generalize (lg_sl ([.ref x0, .int (nI cx)]) ++ List.replicate (3 - (lg_sl ([.ref x0, .int (nI cx)])).length) Slot.unset).toArray = ls at hl ⊢
  replace hl : lv_has ls 3 [(0, .ref x0), (1, .int (nI cx))] := hl
  replace hP : va_P D vwCl [(x0, .inr (3, [.ref h, .ref hh, .ref w, .ref k0]))] s.heap := hP
  refine lv_aload_n hx hb dL_clear_0 rfl (lv_at hl 0 rfl) ?_
  refine lv_iload_n hx hb dL_clear_1 rfl (lv_at hl 1 rfl) ?_
  obtain ⟨⟨b1, b2, b3, b4⟩, hsp, hx1⟩ := hw_t1 htab
  cases hx1
  refine hx_catch (E := hxI) (own := RL) (name := "java/lang/IndexOutOfBoundsException") (hx_runV (C := RX3) (b := x0) (As := [.int (nI cx)]) (rest := []) ⟨hx, hb, hml, hown, htg⟩ (kx_X3_clear l hst D cI cZ cJ sa cx x0 h hh w k0 hcx hbad) (cwV 1 htg (hg_V hm_330 hm_331 hm_332 hm_1 hm_333) rfl rfl rfl (by decide +kernel) ⟨Nat.le_of_ble_eq_true rfl, Nat.le_of_ble_eq_true rfl⟩) ⟨hp_X_blind, va_recv (q := (RX3, TX3, 4)) (q0 := 0) (ci := 3) hK hP rfl rfl, hp_X_pre (hP.sub (ws' := [(x0, .inr (3, [.ref h, .ref hh, .ref w, .ref k0]))]) [0] rfl) hz hE⟩ rfl rfl hl.1 rfl (lv_room (Nat.le_of_ble_eq_true rfl)) dL_clear_2 ⟨Nat.le_of_ble_eq_true rfl, Nat.le_of_ble_eq_true rfl⟩) hown [] ⟨0, 5, 8, 13⟩ [] hsp (fun z hz9 => absurd hz9 List.not_mem_nil) (by decide) (by decide) (htg _ hm_212) (hE.1.2 _ (by simp [hxB, hxI]) _) (fun q9 H hq1 hq2 => ?_)
  replace hS : va_S A s.heap H [] := ⟨hq1, fun q hq _ => hq2 q hq, fun _ h => nomatch h⟩
  replace hP := hP.kept (H1 := H) (fun k x hx => hq2 x.1 ((hP k x hx).lt))
  replace hP : va_P D vwCl [(x0, .inr (3, [.ref h, .ref hh, .ref w, .ref k0]))] H := hP
  replace hD : va_D A [(x0, .inr (3, [.ref h, .ref hh, .ref w, .ref k0]))] := hD
  refine lv_astore_n hx hb dL_clear_8 rfl hl (by decide) rfl (fun ls hl => ?_)
  replace hl : lv_has ls 3 [(2, .ref q9), (0, .ref x0), (1, .int (nI cx))] := hl
  refine lv_iconst (v := nI 1) hx hb dL_clear_9 (by decide) ?_
  exact W.iret (v := nI 1) hx hb hr (fun t9 ht9 hW9 => ⟨⟨_, (), rfl, rfl, by show va_P D vwCl [(x0, .inr (3, [.ref h, .ref hh, .ref w, .ref k0]))] t9.heap; rw [ht9]; exact hP⟩, hS.F ht9⟩) hS.2.2 dL_clear_10

set_option maxHeartbeats 4000000 in
set_option maxRecDepth 100000 in
/-- it throws -/
theorem kh_give_x (l : Launch) (hst : l.stackTraces = false) (sa : Nat → Nat) (D : va_G) (cI cZ cJ : ClassId) (sz : Nat) (x y : Nat) (x0 h hh w k0 : Nat) (hx9 : x < 2 ^ 32) (hy : y < 2 ^ 32) (hbad : ¬ x < 5) : Met l yL_give (Cond.codeWith yL_give cL_give 4 (some .int) [(0, 6, 9, 13), (0, 6, 12, 37)] :: hwG) { frames := 8, cells := 1, slots := 6, locals := 125 } (hp_H [.ref x0, .int (nI x), .int (nI y)] D cI cZ cJ [(x0, .inr (3, [.ref h, .ref hh, .ref w, .ref k0]))] sa sz) (va_Qi (S := Unit) (fun r _ => r = nI 1) (fun u t => va_P D vwCl ([(x0, .inr (3, [.ref h, .ref hh, .ref w, .ref k0]))]) t.heap) (va_A [(x0, .inr (3, [.ref h, .ref hh, .ref w, .ref k0]))] sz)) 1 6 (va_A [(x0, .inr (3, [.ref h, .ref hh, .ref w, .ref k0]))] sz) := by
  refine va_MetW (cc := cL_give) (maxL := 4) (ret := (some .int)) (hh := [(0, 6, 9, 13), (0, 6, 12, 37)]) (by decide) rfl ?_
  intro p e s m args below meth c s₁ B hml hv
  obtain ⟨rfl, hsz, hP, hz, hD0, hE, hNc⟩ := hv
  have hx := B.exec
  have hb := B.bytes
  have hr := B.returns
  have hts := atoms_spec (ws := (Cond.codeWith yL_give cL_give 4 (some .int) [(0, 6, 9, 13), (0, 6, 12, 37)] :: hwG)) B.pre
  have htg := fun w h => hts w (List.mem_cons_of_mem _ h)
  have hown : s.vm.findClass RL = some m.cls := findClass_of_methodNamed B.named
  have hlocks := B.notSynchronized
  have hK := hz.1
  have htab := hw_tab (hts _ List.mem_cons_self) B.named B.method (Stand.of_body B).code
  subst hsz
  have hD := hD0.self (sz := s.heap.size)
  generalize hAe : va_A [(x0, .inr (3, [.ref h, .ref hh, .ref w, .ref k0]))] s.heap.size = A at hD ⊢
  have hA : ∀ q : Nat, s.heap.size ≤ q → A q := fun q h => by rw [← hAe]; exact Or.inr h
  have hS : va_S A s.heap s.heap [] := va_S.rf
  have hl := lv_entry ([.ref x0, .int (nI x), .int (nI y)]) (n := 4) (Nat.le_of_ble_eq_true rfl)
  rw [lg_entry_eq]
  generalize (lg_sl ([.ref x0, .int (nI x), .int (nI y)]) ++ List.replicate (4 - (lg_sl ([.ref x0, .int (nI x), .int (nI y)])).length) Slot.unset).toArray = ls at hl ⊢
  replace hl : lv_has ls 4 [(0, .ref x0), (1, .int (nI x)), (2, .int (nI y))] := hl
  replace hP : va_P D vwCl [(x0, .inr (3, [.ref h, .ref hh, .ref w, .ref k0]))] s.heap := hP
  refine lv_aload_n hx hb dL_give_0 rfl (lv_at hl 0 rfl) ?_
  refine lv_iload_n hx hb dL_give_1 rfl (lv_at hl 1 rfl) ?_
  refine lv_iload_n hx hb dL_give_2 rfl (lv_at hl 2 rfl) ?_
  obtain ⟨⟨b1, b2, b3, b4⟩, ⟨d1, d2, d3, d4⟩, hsp, hx1, hx2⟩ := hw_t2 htab
  cases hx1
  cases hx2
  refine hx_catch (E := hxI) (own := RL) (name := "java/lang/IndexOutOfBoundsException") (hx_runV (C := RX3) (b := x0) (As := [.int (nI x), .int (nI y)]) (rest := []) ⟨hx, hb, hml, hown, htg⟩ (kx_X3_give l hst D cI cZ cJ sa x y x0 h hh w k0 hx9 hy hbad) (cwV 2 htg (hg_V hm_384 hm_385 hm_386 hm_1 hm_387) rfl rfl rfl (by decide +kernel) ⟨Nat.le_of_ble_eq_true rfl, Nat.le_of_ble_eq_true rfl⟩) ⟨hp_X_blind, va_recv (q := (RX3, TX3, 4)) (q0 := 0) (ci := 3) hK hP rfl rfl, hp_X_pre (hP.sub (ws' := [(x0, .inr (3, [.ref h, .ref hh, .ref w, .ref k0]))]) [0] rfl) hz hE⟩ rfl rfl hl.1 rfl (lv_room (Nat.le_of_ble_eq_true rfl)) dL_give_3 ⟨Nat.le_of_ble_eq_true rfl, Nat.le_of_ble_eq_true rfl⟩) hown [] ⟨0, 6, 9, 13⟩ [⟨0, 6, 12, 37⟩] hsp (fun z hz9 => absurd hz9 List.not_mem_nil) (by decide) (by decide) (htg _ hm_212) (hE.1.2 _ (by simp [hxB, hxI]) _) (fun q9 H hq1 hq2 => ?_)
  replace hS : va_S A s.heap H [] := ⟨hq1, fun q hq _ => hq2 q hq, fun _ h => nomatch h⟩
  replace hP := hP.kept (H1 := H) (fun k x hx => hq2 x.1 ((hP k x hx).lt))
  replace hP : va_P D vwCl [(x0, .inr (3, [.ref h, .ref hh, .ref w, .ref k0]))] H := hP
  replace hD : va_D A [(x0, .inr (3, [.ref h, .ref hh, .ref w, .ref k0]))] := hD
  refine lv_astore_n hx hb dL_give_9 rfl hl (by decide) rfl (fun ls hl => ?_)
  replace hl : lv_has ls 4 [(3, .ref q9), (0, .ref x0), (1, .int (nI x)), (2, .int (nI y))] := hl
  refine lv_iconst (v := nI 1) hx hb dL_give_10 (by decide) ?_
  exact W.iret (v := nI 1) hx hb hr (fun t9 ht9 hW9 => ⟨⟨_, (), rfl, rfl, by show va_P D vwCl [(x0, .inr (3, [.ref h, .ref hh, .ref w, .ref k0]))] t9.heap; rw [ht9]; exact hP⟩, hS.F ht9⟩) hS.2.2 dL_give_11

set_option maxHeartbeats 4000000 in
set_option maxRecDepth 100000 in
/-- it throws -/
theorem kh_give_f (l : Launch) (hst : l.stackTraces = false) (sa : Nat → Nat) (D : va_G) (cI cZ cJ : ClassId) (sz : Nat) (x y : Nat) (x0 h hh w k0 : Nat) (hx5 : x < 5) (hy : y < 2 ^ 32) (hbad : ¬ y < 10) : Met l yL_give (Cond.codeWith yL_give cL_give 4 (some .int) [(0, 6, 9, 13), (0, 6, 12, 37)] :: hwG) { frames := 8, cells := 1, slots := 6, locals := 125 } (hp_H [.ref x0, .int (nI x), .int (nI y)] D cI cZ cJ [(x0, .inr (3, [.ref h, .ref hh, .ref w, .ref k0]))] sa sz) (va_Qi (S := Unit) (fun r _ => r = nI 2) (fun u t => va_P D vwCl ([(x0, .inr (3, [.ref h, .ref hh, .ref w, .ref k0]))]) t.heap) (va_A [(x0, .inr (3, [.ref h, .ref hh, .ref w, .ref k0]))] sz)) 1 6 (va_A [(x0, .inr (3, [.ref h, .ref hh, .ref w, .ref k0]))] sz) := by
  refine va_MetW (cc := cL_give) (maxL := 4) (ret := (some .int)) (hh := [(0, 6, 9, 13), (0, 6, 12, 37)]) (by decide) rfl ?_
  intro p e s m args below meth c s₁ B hml hv
  obtain ⟨rfl, hsz, hP, hz, hD0, hE, hNc⟩ := hv
  have hx := B.exec
  have hb := B.bytes
  have hr := B.returns
  have hts := atoms_spec (ws := (Cond.codeWith yL_give cL_give 4 (some .int) [(0, 6, 9, 13), (0, 6, 12, 37)] :: hwG)) B.pre
  have htg := fun w h => hts w (List.mem_cons_of_mem _ h)
  have hown : s.vm.findClass RL = some m.cls := findClass_of_methodNamed B.named
  have hlocks := B.notSynchronized
  have hK := hz.1
  have htab := hw_tab (hts _ List.mem_cons_self) B.named B.method (Stand.of_body B).code
  subst hsz
  have hD := hD0.self (sz := s.heap.size)
  generalize hAe : va_A [(x0, .inr (3, [.ref h, .ref hh, .ref w, .ref k0]))] s.heap.size = A at hD ⊢
  have hA : ∀ q : Nat, s.heap.size ≤ q → A q := fun q h => by rw [← hAe]; exact Or.inr h
  have hS : va_S A s.heap s.heap [] := va_S.rf
  have hl := lv_entry ([.ref x0, .int (nI x), .int (nI y)]) (n := 4) (Nat.le_of_ble_eq_true rfl)
  rw [lg_entry_eq]
  generalize (lg_sl ([.ref x0, .int (nI x), .int (nI y)]) ++ List.replicate (4 - (lg_sl ([.ref x0, .int (nI x), .int (nI y)])).length) Slot.unset).toArray = ls at hl ⊢
  replace hl : lv_has ls 4 [(0, .ref x0), (1, .int (nI x)), (2, .int (nI y))] := hl
  replace hP : va_P D vwCl [(x0, .inr (3, [.ref h, .ref hh, .ref w, .ref k0]))] s.heap := hP
  refine lv_aload_n hx hb dL_give_0 rfl (lv_at hl 0 rfl) ?_
  refine lv_iload_n hx hb dL_give_1 rfl (lv_at hl 1 rfl) ?_
  refine lv_iload_n hx hb dL_give_2 rfl (lv_at hl 2 rfl) ?_
  obtain ⟨⟨b1, b2, b3, b4⟩, ⟨d1, d2, d3, d4⟩, hsp, hx1, hx2⟩ := hw_t2 htab
  cases hx1
  cases hx2
  refine hx_catch (E := hxA) (own := RL) (name := "java/lang/IllegalArgumentException") (hx_runV (C := RX3) (b := x0) (As := [.int (nI x), .int (nI y)]) (rest := []) ⟨hx, hb, hml, hown, htg⟩ (kf_X3_give l hst D cI cZ cJ sa x y x0 h hh w k0 hx5 hy hbad) (cwV 2 htg (hg_V hm_384 hm_385 hm_386 hm_1 hm_387) rfl rfl rfl (by decide +kernel) ⟨Nat.le_of_ble_eq_true rfl, Nat.le_of_ble_eq_true rfl⟩) ⟨hp_X_blind, va_recv (q := (RX3, TX3, 4)) (q0 := 0) (ci := 3) hK hP rfl rfl, hp_X_pre (hP.sub (ws' := [(x0, .inr (3, [.ref h, .ref hh, .ref w, .ref k0]))]) [0] rfl) hz hE⟩ rfl rfl hl.1 rfl (lv_room (Nat.le_of_ble_eq_true rfl)) dL_give_3 ⟨Nat.le_of_ble_eq_true rfl, Nat.le_of_ble_eq_true rfl⟩) hown [⟨0, 6, 9, 13⟩] ⟨0, 6, 12, 37⟩ [] hsp (fun z hz9 => by rw [List.mem_singleton.mp hz9]; exact Or.inr ⟨by decide, _, (htg _ hm_212), hNc.2.1⟩) (by decide) (by decide) (htg _ hm_356) (hE.1.2 _ (by simp [hxB, hxA]) _) (fun q9 H hq1 hq2 => ?_)
  replace hS : va_S A s.heap H [] := ⟨hq1, fun q hq _ => hq2 q hq, fun _ h => nomatch h⟩
  replace hP := hP.kept (H1 := H) (fun k x hx => hq2 x.1 ((hP k x hx).lt))
  replace hP : va_P D vwCl [(x0, .inr (3, [.ref h, .ref hh, .ref w, .ref k0]))] H := hP
  replace hD : va_D A [(x0, .inr (3, [.ref h, .ref hh, .ref w, .ref k0]))] := hD
  refine lv_astore_n hx hb dL_give_12 rfl hl (by decide) rfl (fun ls hl => ?_)
  replace hl : lv_has ls 4 [(3, .ref q9), (0, .ref x0), (1, .int (nI x)), (2, .int (nI y))] := hl
  refine lv_iconst (v := nI 2) hx hb dL_give_13 (by decide) ?_
  exact W.iret (v := nI 2) hx hb hr (fun t9 ht9 hW9 => ⟨⟨_, (), rfl, rfl, by show va_P D vwCl [(x0, .inr (3, [.ref h, .ref hh, .ref w, .ref k0]))] t9.heap; rw [ht9]; exact hP⟩, hS.F ht9⟩) hS.2.2 dL_give_14

set_option maxHeartbeats 4000000 in
set_option maxRecDepth 100000 in
/-- it throws -/
theorem kh_put_x (l : Launch) (hst : l.stackTraces = false) (sa : Nat → Nat) (D : va_G) (cI cZ cJ : ClassId) (sz : Nat) (x y : Nat) (x0 h hh w k0 : Nat) (hx9 : x < 2 ^ 32) (hy : y < 2 ^ 32) (hbad : ¬ (1 ≤ x ∧ x ≤ 9 ∧ y < 10)) : Met l yL_put (Cond.codeWith yL_put cL_put 4 (some .int) [(0, 6, 9, 37)] :: hwG) { frames := 8, cells := 1, slots := 6, locals := 125 } (hp_H [.ref x0, .int (nI x), .int (nI y)] D cI cZ cJ [(x0, .inr (3, [.ref h, .ref hh, .ref w, .ref k0]))] sa sz) (va_Qi (S := Unit) (fun r _ => r = nI 1) (fun u t => va_P D vwCl ([(x0, .inr (3, [.ref h, .ref hh, .ref w, .ref k0]))]) t.heap) (va_A [(x0, .inr (3, [.ref h, .ref hh, .ref w, .ref k0]))] sz)) 1 6 (va_A [(x0, .inr (3, [.ref h, .ref hh, .ref w, .ref k0]))] sz) := by
  refine va_MetW (cc := cL_put) (maxL := 4) (ret := (some .int)) (hh := [(0, 6, 9, 37)]) (by decide) rfl ?_
  intro p e s m args below meth c s₁ B hml hv
  obtain ⟨rfl, hsz, hP, hz, hD0, hE, hNc⟩ := hv
  have hx := B.exec
  have hb := B.bytes
  have hr := B.returns
  have hts := atoms_spec (ws := (Cond.codeWith yL_put cL_put 4 (some .int) [(0, 6, 9, 37)] :: hwG)) B.pre
  have htg := fun w h => hts w (List.mem_cons_of_mem _ h)
  have hown : s.vm.findClass RL = some m.cls := findClass_of_methodNamed B.named
  have hlocks := B.notSynchronized
  have hK := hz.1
  have htab := hw_tab (hts _ List.mem_cons_self) B.named B.method (Stand.of_body B).code
  subst hsz
  have hD := hD0.self (sz := s.heap.size)
  generalize hAe : va_A [(x0, .inr (3, [.ref h, .ref hh, .ref w, .ref k0]))] s.heap.size = A at hD ⊢
  have hA : ∀ q : Nat, s.heap.size ≤ q → A q := fun q h => by rw [← hAe]; exact Or.inr h
  have hS : va_S A s.heap s.heap [] := va_S.rf
  have hl := lv_entry ([.ref x0, .int (nI x), .int (nI y)]) (n := 4) (Nat.le_of_ble_eq_true rfl)
  rw [lg_entry_eq]
  generalize (lg_sl ([.ref x0, .int (nI x), .int (nI y)]) ++ List.replicate (4 - (lg_sl ([.ref x0, .int (nI x), .int (nI y)])).length) Slot.unset).toArray = ls at hl ⊢
  replace hl : lv_has ls 4 [(0, .ref x0), (1, .int (nI x)), (2, .int (nI y))] := hl
  replace hP : va_P D vwCl [(x0, .inr (3, [.ref h, .ref hh, .ref w, .ref k0]))] s.heap := hP
  refine lv_aload_n hx hb dL_put_0 rfl (lv_at hl 0 rfl) ?_
  refine lv_iload_n hx hb dL_put_1 rfl (lv_at hl 1 rfl) ?_
  refine lv_iload_n hx hb dL_put_2 rfl (lv_at hl 2 rfl) ?_
  obtain ⟨⟨b1, b2, b3, b4⟩, hsp, hx1⟩ := hw_t1 htab
  cases hx1
  refine hx_catch (E := hxA) (own := RL) (name := "java/lang/IllegalArgumentException") (hx_runV (C := RX3) (b := x0) (As := [.int (nI x), .int (nI y)]) (rest := []) ⟨hx, hb, hml, hown, htg⟩ (kx_X3_put l hst D cI cZ cJ sa x y x0 h hh w k0 hx9 hy hbad) (cwV 2 htg (hg_V hm_401 hm_402 hm_403 hm_1 hm_404) rfl rfl rfl (by decide +kernel) ⟨Nat.le_of_ble_eq_true rfl, Nat.le_of_ble_eq_true rfl⟩) ⟨hp_X_blind, va_recv (q := (RX3, TX3, 4)) (q0 := 0) (ci := 3) hK hP rfl rfl, hp_X_pre (hP.sub (ws' := [(x0, .inr (3, [.ref h, .ref hh, .ref w, .ref k0]))]) [0] rfl) hz hE⟩ rfl rfl hl.1 rfl (lv_room (Nat.le_of_ble_eq_true rfl)) dL_put_3 ⟨Nat.le_of_ble_eq_true rfl, Nat.le_of_ble_eq_true rfl⟩) hown [] ⟨0, 6, 9, 37⟩ [] hsp (fun z hz9 => absurd hz9 List.not_mem_nil) (by decide) (by decide) (htg _ hm_356) (hE.1.2 _ (by simp [hxB, hxA]) _) (fun q9 H hq1 hq2 => ?_)
  replace hS : va_S A s.heap H [] := ⟨hq1, fun q hq _ => hq2 q hq, fun _ h => nomatch h⟩
  replace hP := hP.kept (H1 := H) (fun k x hx => hq2 x.1 ((hP k x hx).lt))
  replace hP : va_P D vwCl [(x0, .inr (3, [.ref h, .ref hh, .ref w, .ref k0]))] H := hP
  replace hD : va_D A [(x0, .inr (3, [.ref h, .ref hh, .ref w, .ref k0]))] := hD
  refine lv_astore_n hx hb dL_put_9 rfl hl (by decide) rfl (fun ls hl => ?_)
  replace hl : lv_has ls 4 [(3, .ref q9), (0, .ref x0), (1, .int (nI x)), (2, .int (nI y))] := hl
  refine lv_iconst (v := nI 1) hx hb dL_put_10 (by decide) ?_
  exact W.iret (v := nI 1) hx hb hr (fun t9 ht9 hW9 => ⟨⟨_, (), rfl, rfl, by show va_P D vwCl [(x0, .inr (3, [.ref h, .ref hh, .ref w, .ref k0]))] t9.heap; rw [ht9]; exact hP⟩, hS.F ht9⟩) hS.2.2 dL_put_11

set_option maxHeartbeats 4000000 in
set_option maxRecDepth 100000 in
/-- it throws -/
theorem kh_copy_x (l : Launch) (hst : l.stackTraces = false) (sa : Nat → Nat) (D : va_G) (cI cZ cJ : ClassId) (sz : Nat) (x y : Nat) (x0 h hh w k0 : Nat) (hx9 : x < 2 ^ 32) (hy : y < 2 ^ 32) (hbad : ¬ (x < 5 ∧ y < 6)) : Met l yL_copy (Cond.codeWith yL_copy cL_copy 4 (some .int) [(0, 6, 9, 13)] :: hwG) { frames := 8, cells := 1, slots := 6, locals := 125 } (hp_H [.ref x0, .int (nI x), .int (nI y)] D cI cZ cJ [(x0, .inr (3, [.ref h, .ref hh, .ref w, .ref k0]))] sa sz) (va_Qi (S := Unit) (fun r _ => r = nI 1) (fun u t => va_P D vwCl ([(x0, .inr (3, [.ref h, .ref hh, .ref w, .ref k0]))]) t.heap) (va_A [(x0, .inr (3, [.ref h, .ref hh, .ref w, .ref k0]))] sz)) 1 6 (va_A [(x0, .inr (3, [.ref h, .ref hh, .ref w, .ref k0]))] sz) := by
  refine va_MetW (cc := cL_copy) (maxL := 4) (ret := (some .int)) (hh := [(0, 6, 9, 13)]) (by decide) rfl ?_
  intro p e s m args below meth c s₁ B hml hv
  obtain ⟨rfl, hsz, hP, hz, hD0, hE, hNc⟩ := hv
  have hx := B.exec
  have hb := B.bytes
  have hr := B.returns
  have hts := atoms_spec (ws := (Cond.codeWith yL_copy cL_copy 4 (some .int) [(0, 6, 9, 13)] :: hwG)) B.pre
  have htg := fun w h => hts w (List.mem_cons_of_mem _ h)
  have hown : s.vm.findClass RL = some m.cls := findClass_of_methodNamed B.named
  have hlocks := B.notSynchronized
  have hK := hz.1
  have htab := hw_tab (hts _ List.mem_cons_self) B.named B.method (Stand.of_body B).code
  subst hsz
  have hD := hD0.self (sz := s.heap.size)
  generalize hAe : va_A [(x0, .inr (3, [.ref h, .ref hh, .ref w, .ref k0]))] s.heap.size = A at hD ⊢
  have hA : ∀ q : Nat, s.heap.size ≤ q → A q := fun q h => by rw [← hAe]; exact Or.inr h
  have hS : va_S A s.heap s.heap [] := va_S.rf
  have hl := lv_entry ([.ref x0, .int (nI x), .int (nI y)]) (n := 4) (Nat.le_of_ble_eq_true rfl)
  rw [lg_entry_eq]
  generalize (lg_sl ([.ref x0, .int (nI x), .int (nI y)]) ++ List.replicate (4 - (lg_sl ([.ref x0, .int (nI x), .int (nI y)])).length) Slot.unset).toArray = ls at hl ⊢
  replace hl : lv_has ls 4 [(0, .ref x0), (1, .int (nI x)), (2, .int (nI y))] := hl
  replace hP : va_P D vwCl [(x0, .inr (3, [.ref h, .ref hh, .ref w, .ref k0]))] s.heap := hP
  refine lv_aload_n hx hb dL_copy_0 rfl (lv_at hl 0 rfl) ?_
  refine lv_iload_n hx hb dL_copy_1 rfl (lv_at hl 1 rfl) ?_
  refine lv_iload_n hx hb dL_copy_2 rfl (lv_at hl 2 rfl) ?_
  obtain ⟨⟨b1, b2, b3, b4⟩, hsp, hx1⟩ := hw_t1 htab
  cases hx1
  refine hx_catch (E := hxI) (own := RL) (name := "java/lang/IndexOutOfBoundsException") (hx_runV (C := RX3) (b := x0) (As := [.int (nI x), .int (nI y)]) (rest := []) ⟨hx, hb, hml, hown, htg⟩ (kx_X3_copy l hst D cI cZ cJ sa x y x0 h hh w k0 hx9 hy hbad) (cwV 2 htg (hg_V hm_421 hm_422 hm_423 hm_1 hm_424) rfl rfl rfl (by decide +kernel) ⟨Nat.le_of_ble_eq_true rfl, Nat.le_of_ble_eq_true rfl⟩) ⟨hp_X_blind, va_recv (q := (RX3, TX3, 4)) (q0 := 0) (ci := 3) hK hP rfl rfl, hp_X_pre (hP.sub (ws' := [(x0, .inr (3, [.ref h, .ref hh, .ref w, .ref k0]))]) [0] rfl) hz hE⟩ rfl rfl hl.1 rfl (lv_room (Nat.le_of_ble_eq_true rfl)) dL_copy_3 ⟨Nat.le_of_ble_eq_true rfl, Nat.le_of_ble_eq_true rfl⟩) hown [] ⟨0, 6, 9, 13⟩ [] hsp (fun z hz9 => absurd hz9 List.not_mem_nil) (by decide) (by decide) (htg _ hm_212) (hE.1.2 _ (by simp [hxB, hxI]) _) (fun q9 H hq1 hq2 => ?_)
  replace hS : va_S A s.heap H [] := ⟨hq1, fun q hq _ => hq2 q hq, fun _ h => nomatch h⟩
  replace hP := hP.kept (H1 := H) (fun k x hx => hq2 x.1 ((hP k x hx).lt))
  replace hP : va_P D vwCl [(x0, .inr (3, [.ref h, .ref hh, .ref w, .ref k0]))] H := hP
  replace hD : va_D A [(x0, .inr (3, [.ref h, .ref hh, .ref w, .ref k0]))] := hD
  refine lv_astore_n hx hb dL_copy_9 rfl hl (by decide) rfl (fun ls hl => ?_)
  replace hl : lv_has ls 4 [(3, .ref q9), (0, .ref x0), (1, .int (nI x)), (2, .int (nI y))] := hl
  refine lv_iconst (v := nI 1) hx hb dL_copy_10 (by decide) ?_
  exact W.iret (v := nI 1) hx hb hr (fun t9 ht9 hW9 => ⟨⟨_, (), rfl, rfl, by show va_P D vwCl [(x0, .inr (3, [.ref h, .ref hh, .ref w, .ref k0]))] t9.heap; rw [ht9]; exact hP⟩, hS.F ht9⟩) hS.2.2 dL_copy_11

set_option maxHeartbeats 4000000 in
set_option maxRecDepth 100000 in
/-- it throws -/
theorem kh_load_x (l : Launch) (hst : l.stackTraces = false) (sa : Nat → Nat) (D : va_G) (cI cZ cJ : ClassId) (sz : Nat) (x y : Nat) (x0 h hh w k0 : Nat) (hx9 : x < 2 ^ 32) (hy : y < 2 ^ 32) (hbad : ¬ (x < 5 ∧ y < 5)) : Met l yL_load (Cond.codeWith yL_load cL_load 4 (some .int) [(0, 6, 9, 13), (0, 6, 12, 19)] :: hwG) { frames := 8, cells := 1, slots := 6, locals := 125 } (hp_H [.ref x0, .int (nI x), .int (nI y)] D cI cZ cJ [(x0, .inr (3, [.ref h, .ref hh, .ref w, .ref k0]))] sa sz) (va_Qi (S := Unit) (fun r _ => r = nI 1) (fun u t => va_P D vwCl ([(x0, .inr (3, [.ref h, .ref hh, .ref w, .ref k0]))]) t.heap) (va_A [(x0, .inr (3, [.ref h, .ref hh, .ref w, .ref k0]))] sz)) 1 6 (va_A [(x0, .inr (3, [.ref h, .ref hh, .ref w, .ref k0]))] sz) := by
  refine va_MetW (cc := cL_load) (maxL := 4) (ret := (some .int)) (hh := [(0, 6, 9, 13), (0, 6, 12, 19)]) (by decide) rfl ?_
  intro p e s m args below meth c s₁ B hml hv
  obtain ⟨rfl, hsz, hP, hz, hD0, hE, hNc⟩ := hv
  have hx := B.exec
  have hb := B.bytes
  have hr := B.returns
  have hts := atoms_spec (ws := (Cond.codeWith yL_load cL_load 4 (some .int) [(0, 6, 9, 13), (0, 6, 12, 19)] :: hwG)) B.pre
  have htg := fun w h => hts w (List.mem_cons_of_mem _ h)
  have hown : s.vm.findClass RL = some m.cls := findClass_of_methodNamed B.named
  have hlocks := B.notSynchronized
  have hK := hz.1
  have htab := hw_tab (hts _ List.mem_cons_self) B.named B.method (Stand.of_body B).code
  subst hsz
  have hD := hD0.self (sz := s.heap.size)
  generalize hAe : va_A [(x0, .inr (3, [.ref h, .ref hh, .ref w, .ref k0]))] s.heap.size = A at hD ⊢
  have hA : ∀ q : Nat, s.heap.size ≤ q → A q := fun q h => by rw [← hAe]; exact Or.inr h
  have hS : va_S A s.heap s.heap [] := va_S.rf
  have hl := lv_entry ([.ref x0, .int (nI x), .int (nI y)]) (n := 4) (Nat.le_of_ble_eq_true rfl)
  rw [lg_entry_eq]
  generalize (lg_sl ([.ref x0, .int (nI x), .int (nI y)]) ++ List.replicate (4 - (lg_sl ([.ref x0, .int (nI x), .int (nI y)])).length) Slot.unset).toArray = ls at hl ⊢
  replace hl : lv_has ls 4 [(0, .ref x0), (1, .int (nI x)), (2, .int (nI y))] := hl
  replace hP : va_P D vwCl [(x0, .inr (3, [.ref h, .ref hh, .ref w, .ref k0]))] s.heap := hP
  refine lv_aload_n hx hb dL_load_0 rfl (lv_at hl 0 rfl) ?_
  refine lv_iload_n hx hb dL_load_1 rfl (lv_at hl 1 rfl) ?_
  refine lv_iload_n hx hb dL_load_2 rfl (lv_at hl 2 rfl) ?_
  obtain ⟨⟨b1, b2, b3, b4⟩, ⟨d1, d2, d3, d4⟩, hsp, hx1, hx2⟩ := hw_t2 htab
  cases hx1
  cases hx2
  refine hx_catch (E := hxI) (own := RL) (name := "java/lang/IndexOutOfBoundsException") (hx_runV (C := RX3) (b := x0) (As := [.int (nI x), .int (nI y)]) (rest := []) ⟨hx, hb, hml, hown, htg⟩ (kx_X3_load l hst D cI cZ cJ sa x y x0 h hh w k0 hx9 hy hbad) (cwV 2 htg (hg_V hm_428 hm_429 hm_430 hm_1 hm_431) rfl rfl rfl (by decide +kernel) ⟨Nat.le_of_ble_eq_true rfl, Nat.le_of_ble_eq_true rfl⟩) ⟨hp_X_blind, va_recv (q := (RX3, TX3, 4)) (q0 := 0) (ci := 3) hK hP rfl rfl, hp_X_pre (hP.sub (ws' := [(x0, .inr (3, [.ref h, .ref hh, .ref w, .ref k0]))]) [0] rfl) hz hE⟩ rfl rfl hl.1 rfl (lv_room (Nat.le_of_ble_eq_true rfl)) dL_load_3 ⟨Nat.le_of_ble_eq_true rfl, Nat.le_of_ble_eq_true rfl⟩) hown [] ⟨0, 6, 9, 13⟩ [⟨0, 6, 12, 19⟩] hsp (fun z hz9 => absurd hz9 List.not_mem_nil) (by decide) (by decide) (htg _ hm_212) (hE.1.2 _ (by simp [hxB, hxI]) _) (fun q9 H hq1 hq2 => ?_)
  replace hS : va_S A s.heap H [] := ⟨hq1, fun q hq _ => hq2 q hq, fun _ h => nomatch h⟩
  replace hP := hP.kept (H1 := H) (fun k x hx => hq2 x.1 ((hP k x hx).lt))
  replace hP : va_P D vwCl [(x0, .inr (3, [.ref h, .ref hh, .ref w, .ref k0]))] H := hP
  replace hD : va_D A [(x0, .inr (3, [.ref h, .ref hh, .ref w, .ref k0]))] := hD
  refine lv_astore_n hx hb dL_load_9 rfl hl (by decide) rfl (fun ls hl => ?_)
  replace hl : lv_has ls 4 [(3, .ref q9), (0, .ref x0), (1, .int (nI x)), (2, .int (nI y))] := hl
  refine lv_iconst (v := nI 1) hx hb dL_load_10 (by decide) ?_
  exact W.iret (v := nI 1) hx hb hr (fun t9 ht9 hW9 => ⟨⟨_, (), rfl, rfl, by show va_P D vwCl [(x0, .inr (3, [.ref h, .ref hh, .ref w, .ref k0]))] t9.heap; rw [ht9]; exact hP⟩, hS.F ht9⟩) hS.2.2 dL_load_11

set_option maxHeartbeats 4000000 in
set_option maxRecDepth 100000 in
/-- it throws -/
theorem kh_store_x (l : Launch) (hst : l.stackTraces = false) (sa : Nat → Nat) (D : va_G) (cI cZ cJ : ClassId) (sz : Nat) (x y : Nat) (x0 h hh w k0 : Nat) (hx9 : x < 2 ^ 32) (hy : y < 2 ^ 32) (hbad : ¬ (x < 5 ∧ y < 6)) : Met l yL_store (Cond.codeWith yL_store cL_store 4 (some .int) [(0, 6, 9, 13), (0, 6, 12, 19)] :: hwG) { frames := 8, cells := 1, slots := 6, locals := 125 } (hp_H [.ref x0, .int (nI x), .int (nI y)] D cI cZ cJ [(x0, .inr (3, [.ref h, .ref hh, .ref w, .ref k0]))] sa sz) (va_Qi (S := Unit) (fun r _ => r = nI 1) (fun u t => va_P D vwCl ([(x0, .inr (3, [.ref h, .ref hh, .ref w, .ref k0]))]) t.heap) (va_A [(x0, .inr (3, [.ref h, .ref hh, .ref w, .ref k0]))] sz)) 1 6 (va_A [(x0, .inr (3, [.ref h, .ref hh, .ref w, .ref k0]))] sz) := by
  refine va_MetW (cc := cL_store) (maxL := 4) (ret := (some .int)) (hh := [(0, 6, 9, 13), (0, 6, 12, 19)]) (by decide) rfl ?_
  intro p e s m args below meth c s₁ B hml hv
  obtain ⟨rfl, hsz, hP, hz, hD0, hE, hNc⟩ := hv
  have hx := B.exec
  have hb := B.bytes
  have hr := B.returns
  have hts := atoms_spec (ws := (Cond.codeWith yL_store cL_store 4 (some .int) [(0, 6, 9, 13), (0, 6, 12, 19)] :: hwG)) B.pre
  have htg := fun w h => hts w (List.mem_cons_of_mem _ h)
  have hown : s.vm.findClass RL = some m.cls := findClass_of_methodNamed B.named
  have hlocks := B.notSynchronized
  have hK := hz.1
  have htab := hw_tab (hts _ List.mem_cons_self) B.named B.method (Stand.of_body B).code
  subst hsz
  have hD := hD0.self (sz := s.heap.size)
  generalize hAe : va_A [(x0, .inr (3, [.ref h, .ref hh, .ref w, .ref k0]))] s.heap.size = A at hD ⊢
  have hA : ∀ q : Nat, s.heap.size ≤ q → A q := fun q h => by rw [← hAe]; exact Or.inr h
  have hS : va_S A s.heap s.heap [] := va_S.rf
  have hl := lv_entry ([.ref x0, .int (nI x), .int (nI y)]) (n := 4) (Nat.le_of_ble_eq_true rfl)
  rw [lg_entry_eq]
  generalize (lg_sl ([.ref x0, .int (nI x), .int (nI y)]) ++ List.replicate (4 - (lg_sl ([.ref x0, .int (nI x), .int (nI y)])).length) Slot.unset).toArray = ls at hl ⊢
  replace hl : lv_has ls 4 [(0, .ref x0), (1, .int (nI x)), (2, .int (nI y))] := hl
  replace hP : va_P D vwCl [(x0, .inr (3, [.ref h, .ref hh, .ref w, .ref k0]))] s.heap := hP
  refine lv_aload_n hx hb dL_store_0 rfl (lv_at hl 0 rfl) ?_
  refine lv_iload_n hx hb dL_store_1 rfl (lv_at hl 1 rfl) ?_
  refine lv_iload_n hx hb dL_store_2 rfl (lv_at hl 2 rfl) ?_
  obtain ⟨⟨b1, b2, b3, b4⟩, ⟨d1, d2, d3, d4⟩, hsp, hx1, hx2⟩ := hw_t2 htab
  cases hx1
  cases hx2
  refine hx_catch (E := hxI) (own := RL) (name := "java/lang/IndexOutOfBoundsException") (hx_runV (C := RX3) (b := x0) (As := [.int (nI x), .int (nI y)]) (rest := []) ⟨hx, hb, hml, hown, htg⟩ (kx_X3_store l hst D cI cZ cJ sa x y x0 h hh w k0 hx9 hy hbad) (cwV 2 htg (hg_V hm_440 hm_441 hm_442 hm_1 hm_443) rfl rfl rfl (by decide +kernel) ⟨Nat.le_of_ble_eq_true rfl, Nat.le_of_ble_eq_true rfl⟩) ⟨hp_X_blind, va_recv (q := (RX3, TX3, 4)) (q0 := 0) (ci := 3) hK hP rfl rfl, hp_X_pre (hP.sub (ws' := [(x0, .inr (3, [.ref h, .ref hh, .ref w, .ref k0]))]) [0] rfl) hz hE⟩ rfl rfl hl.1 rfl (lv_room (Nat.le_of_ble_eq_true rfl)) dL_store_3 ⟨Nat.le_of_ble_eq_true rfl, Nat.le_of_ble_eq_true rfl⟩) hown [] ⟨0, 6, 9, 13⟩ [⟨0, 6, 12, 19⟩] hsp (fun z hz9 => absurd hz9 List.not_mem_nil) (by decide) (by decide) (htg _ hm_212) (hE.1.2 _ (by simp [hxB, hxI]) _) (fun q9 H hq1 hq2 => ?_)
  replace hS : va_S A s.heap H [] := ⟨hq1, fun q hq _ => hq2 q hq, fun _ h => nomatch h⟩
  replace hP := hP.kept (H1 := H) (fun k x hx => hq2 x.1 ((hP k x hx).lt))
  replace hP : va_P D vwCl [(x0, .inr (3, [.ref h, .ref hh, .ref w, .ref k0]))] H := hP
  replace hD : va_D A [(x0, .inr (3, [.ref h, .ref hh, .ref w, .ref k0]))] := hD
  refine lv_astore_n hx hb dL_store_9 rfl hl (by decide) rfl (fun ls hl => ?_)
  replace hl : lv_has ls 4 [(3, .ref q9), (0, .ref x0), (1, .int (nI x)), (2, .int (nI y))] := hl
  refine lv_iconst (v := nI 1) hx hb dL_store_10 (by decide) ?_
  exact W.iret (v := nI 1) hx hb hr (fun t9 ht9 hW9 => ⟨⟨_, (), rfl, rfl, by show va_P D vwCl [(x0, .inr (3, [.ref h, .ref hh, .ref w, .ref k0]))] t9.heap; rw [ht9]; exact hP⟩, hS.F ht9⟩) hS.2.2 dL_store_11

set_option maxHeartbeats 4000000 in
set_option maxRecDepth 100000 in
/-- it throws -/
theorem kh_make_x (l : Launch) (hst : l.stackTraces = false) (sa : Nat → Nat) (D : va_G) (cI cZ cJ : ClassId) (sz : Nat) (x : Nat) (x0 h hh w k0 : Nat) (hx9 : x < 2 ^ 32) (hbad : ¬ x < 5) : Met l yL_make (Cond.codeWith yL_make cL_make 3 (some .int) [(0, 5, 8, 13), (0, 5, 11, 61)] :: hwG) { frames := 8, cells := 1, slots := 6, locals := 125 } (hp_H [.ref x0, .int (nI x)] D cI cZ cJ [(x0, .inr (3, [.ref h, .ref hh, .ref w, .ref k0]))] sa sz) (va_Qi (S := Unit) (fun r _ => r = nI 1) (fun u t => va_P D vwCl ([(x0, .inr (3, [.ref h, .ref hh, .ref w, .ref k0]))]) t.heap) (va_A [(x0, .inr (3, [.ref h, .ref hh, .ref w, .ref k0]))] sz)) 1 6 (va_A [(x0, .inr (3, [.ref h, .ref hh, .ref w, .ref k0]))] sz) := by
  refine va_MetW (cc := cL_make) (maxL := 3) (ret := (some .int)) (hh := [(0, 5, 8, 13), (0, 5, 11, 61)]) (by decide) rfl ?_
  intro p e s m args below meth c s₁ B hml hv
  obtain ⟨rfl, hsz, hP, hz, hD0, hE, hNc⟩ := hv
  have hx := B.exec
  have hb := B.bytes
  have hr := B.returns
  have hts := atoms_spec (ws := (Cond.codeWith yL_make cL_make 3 (some .int) [(0, 5, 8, 13), (0, 5, 11, 61)] :: hwG)) B.pre
  have htg := fun w h => hts w (List.mem_cons_of_mem _ h)
  have hown : s.vm.findClass RL = some m.cls := findClass_of_methodNamed B.named
  have hlocks := B.notSynchronized
  have hK := hz.1
  have htab := hw_tab (hts _ List.mem_cons_self) B.named B.method (Stand.of_body B).code
  subst hsz
  have hD := hD0.self (sz := s.heap.size)
  generalize hAe : va_A [(x0, .inr (3, [.ref h, .ref hh, .ref w, .ref k0]))] s.heap.size = A at hD ⊢
  have hA : ∀ q : Nat, s.heap.size ≤ q → A q := fun q h => by rw [← hAe]; exact Or.inr h
  have hS : va_S A s.heap s.heap [] := va_S.rf
  have hl := lv_entry ([.ref x0, .int (nI x)]) (n := 3) (Nat.le_of_ble_eq_true rfl)
  rw [lg_entry_eq]
  generalize (lg_sl ([.ref x0, .int (nI x)]) ++ List.replicate (3 - (lg_sl ([.ref x0, .int (nI x)])).length) Slot.unset).toArray = ls at hl ⊢
  replace hl : lv_has ls 3 [(0, .ref x0), (1, .int (nI x))] := hl
  replace hP : va_P D vwCl [(x0, .inr (3, [.ref h, .ref hh, .ref w, .ref k0]))] s.heap := hP
  refine lv_aload_n hx hb dL_make_0 rfl (lv_at hl 0 rfl) ?_
  refine lv_iload_n hx hb dL_make_1 rfl (lv_at hl 1 rfl) ?_
  obtain ⟨⟨b1, b2, b3, b4⟩, ⟨d1, d2, d3, d4⟩, hsp, hx1, hx2⟩ := hw_t2 htab
  cases hx1
  cases hx2
  refine hx_catch (E := hxI) (own := RL) (name := "java/lang/IndexOutOfBoundsException") (hx_runV (C := RX3) (b := x0) (As := [.int (nI x)]) (rest := []) ⟨hx, hb, hml, hown, htg⟩ (kx_X3_make l hst D cI cZ cJ sa x x0 h hh w k0 hx9 hbad) (cwV 1 htg (hg_V hm_448 hm_449 hm_450 hm_1 hm_451) rfl rfl rfl (by decide +kernel) ⟨Nat.le_of_ble_eq_true rfl, Nat.le_of_ble_eq_true rfl⟩) ⟨hp_X_blind, va_recv (q := (RX3, TX3, 4)) (q0 := 0) (ci := 3) hK hP rfl rfl, hp_X_pre (hP.sub (ws' := [(x0, .inr (3, [.ref h, .ref hh, .ref w, .ref k0]))]) [0] rfl) hz hE⟩ rfl rfl hl.1 rfl (lv_room (Nat.le_of_ble_eq_true rfl)) dL_make_2 ⟨Nat.le_of_ble_eq_true rfl, Nat.le_of_ble_eq_true rfl⟩) hown [] ⟨0, 5, 8, 13⟩ [⟨0, 5, 11, 61⟩] hsp (fun z hz9 => absurd hz9 List.not_mem_nil) (by decide) (by decide) (htg _ hm_212) (hE.1.2 _ (by simp [hxB, hxI]) _) (fun q9 H hq1 hq2 => ?_)
  replace hS : va_S A s.heap H [] := ⟨hq1, fun q hq _ => hq2 q hq, fun _ h => nomatch h⟩
  replace hP := hP.kept (H1 := H) (fun k x hx => hq2 x.1 ((hP k x hx).lt))
  replace hP : va_P D vwCl [(x0, .inr (3, [.ref h, .ref hh, .ref w, .ref k0]))] H := hP
  replace hD : va_D A [(x0, .inr (3, [.ref h, .ref hh, .ref w, .ref k0]))] := hD
  refine lv_astore_n hx hb dL_make_8 rfl hl (by decide) rfl (fun ls hl => ?_)
  replace hl : lv_has ls 3 [(2, .ref q9), (0, .ref x0), (1, .int (nI x))] := hl
  refine lv_iconst (v := nI 1) hx hb dL_make_9 (by decide) ?_
  exact W.iret (v := nI 1) hx hb hr (fun t9 ht9 hW9 => ⟨⟨_, (), rfl, rfl, by show va_P D vwCl [(x0, .inr (3, [.ref h, .ref hh, .ref w, .ref k0]))] t9.heap; rw [ht9]; exact hP⟩, hS.F ht9⟩) hS.2.2 dL_make_10

set_option maxHeartbeats 4000000 in
set_option maxRecDepth 100000 in
/-- it throws -/
theorem kh_drop_x (l : Launch) (hst : l.stackTraces = false) (sa : Nat → Nat) (D : va_G) (cI cZ cJ : ClassId) (sz : Nat) (x : Nat) (x0 h hh w k0 : Nat) (hx9 : x < 2 ^ 32) (hbad : ¬ x < 5) : Met l yL_drop (Cond.codeWith yL_drop cL_drop 3 (some .int) [(0, 5, 8, 13), (0, 5, 11, 19)] :: hwG) { frames := 8, cells := 1, slots := 6, locals := 124 } (hp_H [.ref x0, .int (nI x)] D cI cZ cJ [(x0, .inr (3, [.ref h, .ref hh, .ref w, .ref k0]))] sa sz) (va_Qi (S := Unit) (fun r _ => r = nI 1) (fun u t => va_P D vwCl ([(x0, .inr (3, [.ref h, .ref hh, .ref w, .ref k0]))]) t.heap) (va_A [(x0, .inr (3, [.ref h, .ref hh, .ref w, .ref k0]))] sz)) 1 6 (va_A [(x0, .inr (3, [.ref h, .ref hh, .ref w, .ref k0]))] sz) := by
  refine va_MetW (cc := cL_drop) (maxL := 3) (ret := (some .int)) (hh := [(0, 5, 8, 13), (0, 5, 11, 19)]) (by decide) rfl ?_
  intro p e s m args below meth c s₁ B hml hv
  obtain ⟨rfl, hsz, hP, hz, hD0, hE, hNc⟩ := hv
  have hx := B.exec
  have hb := B.bytes
  have hr := B.returns
  have hts := atoms_spec (ws := (Cond.codeWith yL_drop cL_drop 3 (some .int) [(0, 5, 8, 13), (0, 5, 11, 19)] :: hwG)) B.pre
  have htg := fun w h => hts w (List.mem_cons_of_mem _ h)
  have hown : s.vm.findClass RL = some m.cls := findClass_of_methodNamed B.named
  have hlocks := B.notSynchronized
  have hK := hz.1
  have htab := hw_tab (hts _ List.mem_cons_self) B.named B.method (Stand.of_body B).code
  subst hsz
  have hD := hD0.self (sz := s.heap.size)
  generalize hAe : va_A [(x0, .inr (3, [.ref h, .ref hh, .ref w, .ref k0]))] s.heap.size = A at hD ⊢
  have hA : ∀ q : Nat, s.heap.size ≤ q → A q := fun q h => by rw [← hAe]; exact Or.inr h
  have hS : va_S A s.heap s.heap [] := va_S.rf
  have hl := lv_entry ([.ref x0, .int (nI x)]) (n := 3) (Nat.le_of_ble_eq_true rfl)
  rw [lg_entry_eq]
  generalize (lg_sl ([.ref x0, .int (nI x)]) ++ List.replicate (3 - (lg_sl ([.ref x0, .int (nI x)])).length) Slot.unset).toArray = ls at hl ⊢
  replace hl : lv_has ls 3 [(0, .ref x0), (1, .int (nI x))] := hl
  replace hP : va_P D vwCl [(x0, .inr (3, [.ref h, .ref hh, .ref w, .ref k0]))] s.heap := hP
  refine lv_aload_n hx hb dL_drop_0 rfl (lv_at hl 0 rfl) ?_
  refine lv_iload_n hx hb dL_drop_1 rfl (lv_at hl 1 rfl) ?_
  obtain ⟨⟨b1, b2, b3, b4⟩, ⟨d1, d2, d3, d4⟩, hsp, hx1, hx2⟩ := hw_t2 htab
  cases hx1
  cases hx2
  refine hx_catch (E := hxI) (own := RL) (name := "java/lang/IndexOutOfBoundsException") (hx_runV (C := RX3) (b := x0) (As := [.int (nI x)]) (rest := []) ⟨hx, hb, hml, hown, htg⟩ (kx_X3_drop l hst D cI cZ cJ sa x x0 h hh w k0 hx9 hbad) (cwV 1 htg (hg_V hm_475 hm_476 hm_477 hm_1 hm_478) rfl rfl rfl (by decide +kernel) ⟨Nat.le_of_ble_eq_true rfl, Nat.le_of_ble_eq_true rfl⟩) ⟨hp_X_blind, va_recv (q := (RX3, TX3, 4)) (q0 := 0) (ci := 3) hK hP rfl rfl, hp_X_pre (hP.sub (ws' := [(x0, .inr (3, [.ref h, .ref hh, .ref w, .ref k0]))]) [0] rfl) hz hE⟩ rfl rfl hl.1 rfl (lv_room (Nat.le_of_ble_eq_true rfl)) dL_drop_2 ⟨Nat.le_of_ble_eq_true rfl, Nat.le_of_ble_eq_true rfl⟩) hown [] ⟨0, 5, 8, 13⟩ [⟨0, 5, 11, 19⟩] hsp (fun z hz9 => absurd hz9 List.not_mem_nil) (by decide) (by decide) (htg _ hm_212) (hE.1.2 _ (by simp [hxB, hxI]) _) (fun q9 H hq1 hq2 => ?_)
  replace hS : va_S A s.heap H [] := ⟨hq1, fun q hq _ => hq2 q hq, fun _ h => nomatch h⟩
  replace hP := hP.kept (H1 := H) (fun k x hx => hq2 x.1 ((hP k x hx).lt))
  replace hP : va_P D vwCl [(x0, .inr (3, [.ref h, .ref hh, .ref w, .ref k0]))] H := hP
  replace hD : va_D A [(x0, .inr (3, [.ref h, .ref hh, .ref w, .ref k0]))] := hD
  refine lv_astore_n hx hb dL_drop_8 rfl hl (by decide) rfl (fun ls hl => ?_)
  replace hl : lv_has ls 3 [(2, .ref q9), (0, .ref x0), (1, .int (nI x))] := hl
  refine lv_iconst (v := nI 1) hx hb dL_drop_9 (by decide) ?_
  exact W.iret (v := nI 1) hx hb hr (fun t9 ht9 hW9 => ⟨⟨_, (), rfl, rfl, by show va_P D vwCl [(x0, .inr (3, [.ref h, .ref hh, .ref w, .ref k0]))] t9.heap; rw [ht9]; exact hP⟩, hS.F ht9⟩) hS.2.2 dL_drop_10

set_option maxHeartbeats 4000000 in
set_option maxRecDepth 100000 in
/-- it throws -/
theorem kh_load_f (l : Launch) (hst : l.stackTraces = false) (sa : Nat → Nat) (D : va_G) (cI cZ cJ : ClassId) (sz : Nat) (x y : Nat) (VW EW LW BW : Nat → Int32) (flw : Int32) (VA : Nat → Nat) (HA : Nat → Option Nat) (x0 h hh w k0 : Nat) (w0 w1 w2 w3 : Nat) (hV : ∀ j, j < 6 → VW j = nI (VA j)) (hV9 : ∀ j, j < 6 → VA j ≤ 9) (hW : hs_hp 9 EW LW BW HA (fun _ => false) (fun a => a)) (hx5 : x < 5) (hy6 : y < 5) (hn : HA (VA y) = none) : Met l yL_load (Cond.codeWith yL_load cL_load 4 (some .int) [(0, 6, 9, 13), (0, 6, 12, 19)] :: hwG) { frames := 8, cells := 1, slots := 6, locals := 125 } (hp_H [.ref x0, .int (nI x), .int (nI y)] D cI cZ cJ [(x0, .inr (3, [.ref h, .ref hh, .ref w, .ref k0])), (w, .inr (2, [.ref w0, .int (nI 9), .ref w1, .ref w2, .ref w3, .int flw])), (w0, .inl (cI, 6, .inl VW)), (w1, .inl (cI, 9 + 1, .inl EW))] sa sz) (va_Qi (S := Unit) (fun r _ => r = nI 2) (fun u t => va_P D vwCl ([(x0, .inr (3, [.ref h, .ref hh, .ref w, .ref k0])), (w, .inr (2, [.ref w0, .int (nI 9), .ref w1, .ref w2, .ref w3, .int flw])), (w0, .inl (cI, 6, .inl VW)), (w1, .inl (cI, 9 + 1, .inl EW))]) t.heap) (va_A [(x0, .inr (3, [.ref h, .ref hh, .ref w, .ref k0])), (w, .inr (2, [.ref w0, .int (nI 9), .ref w1, .ref w2, .ref w3, .int flw])), (w0, .inl (cI, 6, .inl VW)), (w1, .inl (cI, 9 + 1, .inl EW))] sz)) 1 6 (va_A [(x0, .inr (3, [.ref h, .ref hh, .ref w, .ref k0])), (w, .inr (2, [.ref w0, .int (nI 9), .ref w1, .ref w2, .ref w3, .int flw])), (w0, .inl (cI, 6, .inl VW)), (w1, .inl (cI, 9 + 1, .inl EW))] sz) := by
  refine va_MetW (cc := cL_load) (maxL := 4) (ret := (some .int)) (hh := [(0, 6, 9, 13), (0, 6, 12, 19)]) (by decide) rfl ?_
  intro p e s m args below meth c s₁ B hml hv
  obtain ⟨rfl, hsz, hP, hz, hD0, hE, hNc⟩ := hv
  have hx := B.exec
  have hb := B.bytes
  have hr := B.returns
  have hts := atoms_spec (ws := (Cond.codeWith yL_load cL_load 4 (some .int) [(0, 6, 9, 13), (0, 6, 12, 19)] :: hwG)) B.pre
  have htg := fun w h => hts w (List.mem_cons_of_mem _ h)
  have hown : s.vm.findClass RL = some m.cls := findClass_of_methodNamed B.named
  have hlocks := B.notSynchronized
  have hK := hz.1
  have htab := hw_tab (hts _ List.mem_cons_self) B.named B.method (Stand.of_body B).code
  subst hsz
  have hD := hD0.self (sz := s.heap.size)
  generalize hAe : va_A [(x0, .inr (3, [.ref h, .ref hh, .ref w, .ref k0])), (w, .inr (2, [.ref w0, .int (nI 9), .ref w1, .ref w2, .ref w3, .int flw])), (w0, .inl (cI, 6, .inl VW)), (w1, .inl (cI, 9 + 1, .inl EW))] s.heap.size = A at hD ⊢
  have hA : ∀ q : Nat, s.heap.size ≤ q → A q := fun q h => by rw [← hAe]; exact Or.inr h
  have hS : va_S A s.heap s.heap [] := va_S.rf
  have hl := lv_entry ([.ref x0, .int (nI x), .int (nI y)]) (n := 4) (Nat.le_of_ble_eq_true rfl)
  rw [lg_entry_eq]
  generalize (lg_sl ([.ref x0, .int (nI x), .int (nI y)]) ++ List.replicate (4 - (lg_sl ([.ref x0, .int (nI x), .int (nI y)])).length) Slot.unset).toArray = ls at hl ⊢
  replace hl : lv_has ls 4 [(0, .ref x0), (1, .int (nI x)), (2, .int (nI y))] := hl
  replace hP : va_P D vwCl [(x0, .inr (3, [.ref h, .ref hh, .ref w, .ref k0])), (w, .inr (2, [.ref w0, .int (nI 9), .ref w1, .ref w2, .ref w3, .int flw])), (w0, .inl (cI, 6, .inl VW)), (w1, .inl (cI, 9 + 1, .inl EW))] s.heap := hP
  refine lv_aload_n hx hb dL_load_0 rfl (lv_at hl 0 rfl) ?_
  refine lv_iload_n hx hb dL_load_1 rfl (lv_at hl 1 rfl) ?_
  refine lv_iload_n hx hb dL_load_2 rfl (lv_at hl 2 rfl) ?_
  obtain ⟨⟨b1, b2, b3, b4⟩, ⟨d1, d2, d3, d4⟩, hsp, hx1, hx2⟩ := hw_t2 htab
  cases hx1
  cases hx2
  refine hx_catch (E := hxG) (own := RL) (name := "java/lang/IllegalStateException") (hx_runV (C := RX3) (b := x0) (As := [.int (nI x), .int (nI y)]) (rest := []) ⟨hx, hb, hml, hown, htg⟩ (kf_X3_load l hst D cI cZ cJ sa x y VW EW LW BW flw VA HA x0 h hh w k0 w0 w1 w2 w3 hV hV9 hW hx5 hy6 hn) (cwV 2 htg (hg_V hm_428 hm_429 hm_430 hm_1 hm_431) rfl rfl rfl (by decide +kernel) ⟨Nat.le_of_ble_eq_true rfl, Nat.le_of_ble_eq_true rfl⟩) ⟨hp_X_blind, va_recv (q := (RX3, TX3, 4)) (q0 := 0) (ci := 3) hK hP rfl rfl, hp_X_pre (hP.sub (ws' := [(x0, .inr (3, [.ref h, .ref hh, .ref w, .ref k0])), (w, .inr (2, [.ref w0, .int (nI 9), .ref w1, .ref w2, .ref w3, .int flw])), (w0, .inl (cI, 6, .inl VW)), (w1, .inl (cI, 9 + 1, .inl EW))]) [0, 1, 2, 3] rfl) hz hE⟩ rfl rfl hl.1 rfl (lv_room (Nat.le_of_ble_eq_true rfl)) dL_load_3 ⟨Nat.le_of_ble_eq_true rfl, Nat.le_of_ble_eq_true rfl⟩) hown [⟨0, 6, 9, 13⟩] ⟨0, 6, 12, 19⟩ [] hsp (fun z hz9 => by rw [List.mem_singleton.mp hz9]; exact Or.inr ⟨by decide, _, (htg _ hm_212), hNc.1⟩) (by decide) (by decide) (htg _ hm_302) (hE.1.2 _ (by simp [hxB, hxG]) _) (fun q9 H hq1 hq2 => ?_)
  replace hS : va_S A s.heap H [] := ⟨hq1, fun q hq _ => hq2 q hq, fun _ h => nomatch h⟩
  replace hP := hP.kept (H1 := H) (fun k x hx => hq2 x.1 ((hP k x hx).lt))
  replace hP : va_P D vwCl [(x0, .inr (3, [.ref h, .ref hh, .ref w, .ref k0])), (w, .inr (2, [.ref w0, .int (nI 9), .ref w1, .ref w2, .ref w3, .int flw])), (w0, .inl (cI, 6, .inl VW)), (w1, .inl (cI, 9 + 1, .inl EW))] H := hP
  replace hD : va_D A [(x0, .inr (3, [.ref h, .ref hh, .ref w, .ref k0])), (w, .inr (2, [.ref w0, .int (nI 9), .ref w1, .ref w2, .ref w3, .int flw])), (w0, .inl (cI, 6, .inl VW)), (w1, .inl (cI, 9 + 1, .inl EW))] := hD
  refine lv_astore_n hx hb dL_load_12 rfl hl (by decide) rfl (fun ls hl => ?_)
  replace hl : lv_has ls 4 [(3, .ref q9), (0, .ref x0), (1, .int (nI x)), (2, .int (nI y))] := hl
  refine lv_iconst (v := nI 2) hx hb dL_load_13 (by decide) ?_
  exact W.iret (v := nI 2) hx hb hr (fun t9 ht9 hW9 => ⟨⟨_, (), rfl, rfl, by show va_P D vwCl [(x0, .inr (3, [.ref h, .ref hh, .ref w, .ref k0])), (w, .inr (2, [.ref w0, .int (nI 9), .ref w1, .ref w2, .ref w3, .int flw])), (w0, .inl (cI, 6, .inl VW)), (w1, .inl (cI, 9 + 1, .inl EW))] t9.heap; rw [ht9]; exact hP⟩, hS.F ht9⟩) hS.2.2 dL_load_14

set_option maxHeartbeats 4000000 in
set_option maxRecDepth 100000 in
/-- it throws -/
theorem kh_store_f (l : Launch) (hst : l.stackTraces = false) (sa : Nat → Nat) (D : va_G) (cI cZ cJ : ClassId) (sz : Nat) (x y : Nat) (VW EW LW BW : Nat → Int32) (flw : Int32) (VA : Nat → Nat) (HA : Nat → Option Nat) (x0 h hh w k0 : Nat) (w0 w1 w2 w3 : Nat) (hV : ∀ j, j < 6 → VW j = nI (VA j)) (hV9 : ∀ j, j < 6 → VA j ≤ 9) (hW : hs_hp 9 EW LW BW HA (fun _ => false) (fun a => a)) (hx5 : x < 5) (hy6 : y < 6) (hn : HA (VA x) = none) : Met l yL_store (Cond.codeWith yL_store cL_store 4 (some .int) [(0, 6, 9, 13), (0, 6, 12, 19)] :: hwG) { frames := 8, cells := 1, slots := 6, locals := 125 } (hp_H [.ref x0, .int (nI x), .int (nI y)] D cI cZ cJ [(x0, .inr (3, [.ref h, .ref hh, .ref w, .ref k0])), (w, .inr (2, [.ref w0, .int (nI 9), .ref w1, .ref w2, .ref w3, .int flw])), (w0, .inl (cI, 6, .inl VW)), (w1, .inl (cI, 9 + 1, .inl EW))] sa sz) (va_Qi (S := Unit) (fun r _ => r = nI 2) (fun u t => va_P D vwCl ([(x0, .inr (3, [.ref h, .ref hh, .ref w, .ref k0])), (w, .inr (2, [.ref w0, .int (nI 9), .ref w1, .ref w2, .ref w3, .int flw])), (w0, .inl (cI, 6, .inl VW)), (w1, .inl (cI, 9 + 1, .inl EW))]) t.heap) (va_A [(x0, .inr (3, [.ref h, .ref hh, .ref w, .ref k0])), (w, .inr (2, [.ref w0, .int (nI 9), .ref w1, .ref w2, .ref w3, .int flw])), (w0, .inl (cI, 6, .inl VW)), (w1, .inl (cI, 9 + 1, .inl EW))] sz)) 1 6 (va_A [(x0, .inr (3, [.ref h, .ref hh, .ref w, .ref k0])), (w, .inr (2, [.ref w0, .int (nI 9), .ref w1, .ref w2, .ref w3, .int flw])), (w0, .inl (cI, 6, .inl VW)), (w1, .inl (cI, 9 + 1, .inl EW))] sz) := by
  refine va_MetW (cc := cL_store) (maxL := 4) (ret := (some .int)) (hh := [(0, 6, 9, 13), (0, 6, 12, 19)]) (by decide) rfl ?_
  intro p e s m args below meth c s₁ B hml hv
  obtain ⟨rfl, hsz, hP, hz, hD0, hE, hNc⟩ := hv
  have hx := B.exec
  have hb := B.bytes
  have hr := B.returns
  have hts := atoms_spec (ws := (Cond.codeWith yL_store cL_store 4 (some .int) [(0, 6, 9, 13), (0, 6, 12, 19)] :: hwG)) B.pre
  have htg := fun w h => hts w (List.mem_cons_of_mem _ h)
  have hown : s.vm.findClass RL = some m.cls := findClass_of_methodNamed B.named
  have hlocks := B.notSynchronized
  have hK := hz.1
  have htab := hw_tab (hts _ List.mem_cons_self) B.named B.method (Stand.of_body B).code
  subst hsz
  have hD := hD0.self (sz := s.heap.size)
  generalize hAe : va_A [(x0, .inr (3, [.ref h, .ref hh, .ref w, .ref k0])), (w, .inr (2, [.ref w0, .int (nI 9), .ref w1, .ref w2, .ref w3, .int flw])), (w0, .inl (cI, 6, .inl VW)), (w1, .inl (cI, 9 + 1, .inl EW))] s.heap.size = A at hD ⊢
  have hA : ∀ q : Nat, s.heap.size ≤ q → A q := fun q h => by rw [← hAe]; exact Or.inr h
  have hS : va_S A s.heap s.heap [] := va_S.rf
  have hl := lv_entry ([.ref x0, .int (nI x), .int (nI y)]) (n := 4) (Nat.le_of_ble_eq_true rfl)
  rw [lg_entry_eq]
  generalize (lg_sl ([.ref x0, .int (nI x), .int (nI y)]) ++ List.replicate (4 - (lg_sl ([.ref x0, .int (nI x), .int (nI y)])).length) Slot.unset).toArray = ls at hl ⊢
  replace hl : lv_has ls 4 [(0, .ref x0), (1, .int (nI x)), (2, .int (nI y))] := hl
  replace hP : va_P D vwCl [(x0, .inr (3, [.ref h, .ref hh, .ref w, .ref k0])), (w, .inr (2, [.ref w0, .int (nI 9), .ref w1, .ref w2, .ref w3, .int flw])), (w0, .inl (cI, 6, .inl VW)), (w1, .inl (cI, 9 + 1, .inl EW))] s.heap := hP
  refine lv_aload_n hx hb dL_store_0 rfl (lv_at hl 0 rfl) ?_
  refine lv_iload_n hx hb dL_store_1 rfl (lv_at hl 1 rfl) ?_
  refine lv_iload_n hx hb dL_store_2 rfl (lv_at hl 2 rfl) ?_
  obtain ⟨⟨b1, b2, b3, b4⟩, ⟨d1, d2, d3, d4⟩, hsp, hx1, hx2⟩ := hw_t2 htab
  cases hx1
  cases hx2
  refine hx_catch (E := hxG) (own := RL) (name := "java/lang/IllegalStateException") (hx_runV (C := RX3) (b := x0) (As := [.int (nI x), .int (nI y)]) (rest := []) ⟨hx, hb, hml, hown, htg⟩ (kf_X3_store l hst D cI cZ cJ sa x y VW EW LW BW flw VA HA x0 h hh w k0 w0 w1 w2 w3 hV hV9 hW hx5 hy6 hn) (cwV 2 htg (hg_V hm_440 hm_441 hm_442 hm_1 hm_443) rfl rfl rfl (by decide +kernel) ⟨Nat.le_of_ble_eq_true rfl, Nat.le_of_ble_eq_true rfl⟩) ⟨hp_X_blind, va_recv (q := (RX3, TX3, 4)) (q0 := 0) (ci := 3) hK hP rfl rfl, hp_X_pre (hP.sub (ws' := [(x0, .inr (3, [.ref h, .ref hh, .ref w, .ref k0])), (w, .inr (2, [.ref w0, .int (nI 9), .ref w1, .ref w2, .ref w3, .int flw])), (w0, .inl (cI, 6, .inl VW)), (w1, .inl (cI, 9 + 1, .inl EW))]) [0, 1, 2, 3] rfl) hz hE⟩ rfl rfl hl.1 rfl (lv_room (Nat.le_of_ble_eq_true rfl)) dL_store_3 ⟨Nat.le_of_ble_eq_true rfl, Nat.le_of_ble_eq_true rfl⟩) hown [⟨0, 6, 9, 13⟩] ⟨0, 6, 12, 19⟩ [] hsp (fun z hz9 => by rw [List.mem_singleton.mp hz9]; exact Or.inr ⟨by decide, _, (htg _ hm_212), hNc.1⟩) (by decide) (by decide) (htg _ hm_302) (hE.1.2 _ (by simp [hxB, hxG]) _) (fun q9 H hq1 hq2 => ?_)
  replace hS : va_S A s.heap H [] := ⟨hq1, fun q hq _ => hq2 q hq, fun _ h => nomatch h⟩
  replace hP := hP.kept (H1 := H) (fun k x hx => hq2 x.1 ((hP k x hx).lt))
  replace hP : va_P D vwCl [(x0, .inr (3, [.ref h, .ref hh, .ref w, .ref k0])), (w, .inr (2, [.ref w0, .int (nI 9), .ref w1, .ref w2, .ref w3, .int flw])), (w0, .inl (cI, 6, .inl VW)), (w1, .inl (cI, 9 + 1, .inl EW))] H := hP
  replace hD : va_D A [(x0, .inr (3, [.ref h, .ref hh, .ref w, .ref k0])), (w, .inr (2, [.ref w0, .int (nI 9), .ref w1, .ref w2, .ref w3, .int flw])), (w0, .inl (cI, 6, .inl VW)), (w1, .inl (cI, 9 + 1, .inl EW))] := hD
  refine lv_astore_n hx hb dL_store_12 rfl hl (by decide) rfl (fun ls hl => ?_)
  replace hl : lv_has ls 4 [(3, .ref q9), (0, .ref x0), (1, .int (nI x)), (2, .int (nI y))] := hl
  refine lv_iconst (v := nI 2) hx hb dL_store_13 (by decide) ?_
  exact W.iret (v := nI 2) hx hb hr (fun t9 ht9 hW9 => ⟨⟨_, (), rfl, rfl, by show va_P D vwCl [(x0, .inr (3, [.ref h, .ref hh, .ref w, .ref k0])), (w, .inr (2, [.ref w0, .int (nI 9), .ref w1, .ref w2, .ref w3, .int flw])), (w0, .inl (cI, 6, .inl VW)), (w1, .inl (cI, 9 + 1, .inl EW))] t9.heap; rw [ht9]; exact hP⟩, hS.F ht9⟩) hS.2.2 dL_store_14

set_option maxHeartbeats 4000000 in
set_option maxRecDepth 100000 in
/-- it throws -/
theorem kh_drop_f (l : Launch) (hst : l.stackTraces = false) (sa : Nat → Nat) (D : va_G) (cI cZ cJ : ClassId) (sz : Nat) (x : Nat) (VW EW LW BW : Nat → Int32) (flw : Int32) (VA : Nat → Nat) (HA : Nat → Option Nat) (x0 h hh w k0 : Nat) (w0 w1 w2 w3 : Nat) (hV : ∀ j, j < 6 → VW j = nI (VA j)) (hV9 : ∀ j, j < 6 → VA j ≤ 9) (hW : hs_hp 9 EW LW BW HA (fun _ => false) (fun a => a)) (hx5 : x < 5) (hn : HA (VA x) = none) : Met l yL_drop (Cond.codeWith yL_drop cL_drop 3 (some .int) [(0, 5, 8, 13), (0, 5, 11, 19)] :: hwG) { frames := 8, cells := 1, slots := 6, locals := 124 } (hp_H [.ref x0, .int (nI x)] D cI cZ cJ [(x0, .inr (3, [.ref h, .ref hh, .ref w, .ref k0])), (w, .inr (2, [.ref w0, .int (nI 9), .ref w1, .ref w2, .ref w3, .int flw])), (w0, .inl (cI, 6, .inl VW)), (w1, .inl (cI, 9 + 1, .inl EW))] sa sz) (va_Qi (S := Unit) (fun r _ => r = nI 2) (fun u t => va_P D vwCl ([(x0, .inr (3, [.ref h, .ref hh, .ref w, .ref k0])), (w, .inr (2, [.ref w0, .int (nI 9), .ref w1, .ref w2, .ref w3, .int flw])), (w0, .inl (cI, 6, .inl VW)), (w1, .inl (cI, 9 + 1, .inl EW))]) t.heap) (va_A [(x0, .inr (3, [.ref h, .ref hh, .ref w, .ref k0])), (w, .inr (2, [.ref w0, .int (nI 9), .ref w1, .ref w2, .ref w3, .int flw])), (w0, .inl (cI, 6, .inl VW)), (w1, .inl (cI, 9 + 1, .inl EW))] sz)) 1 6 (va_A [(x0, .inr (3, [.ref h, .ref hh, .ref w, .ref k0])), (w, .inr (2, [.ref w0, .int (nI 9), .ref w1, .ref w2, .ref w3, .int flw])), (w0, .inl (cI, 6, .inl VW)), (w1, .inl (cI, 9 + 1, .inl EW))] sz) := by
  refine va_MetW (cc := cL_drop) (maxL := 3) (ret := (some .int)) (hh := [(0, 5, 8, 13), (0, 5, 11, 19)]) (by decide) rfl ?_
  intro p e s m args below meth c s₁ B hml hv
  obtain ⟨rfl, hsz, hP, hz, hD0, hE, hNc⟩ := hv
  have hx := B.exec
  have hb := B.bytes
  have hr := B.returns
  have hts := atoms_spec (ws := (Cond.codeWith yL_drop cL_drop 3 (some .int) [(0, 5, 8, 13), (0, 5, 11, 19)] :: hwG)) B.pre
  have htg := fun w h => hts w (List.mem_cons_of_mem _ h)
  have hown : s.vm.findClass RL = some m.cls := findClass_of_methodNamed B.named
  have hlocks := B.notSynchronized
  have hK := hz.1
  have htab := hw_tab (hts _ List.mem_cons_self) B.named B.method (Stand.of_body B).code
  subst hsz
  have hD := hD0.self (sz := s.heap.size)
  generalize hAe : va_A [(x0, .inr (3, [.ref h, .ref hh, .ref w, .ref k0])), (w, .inr (2, [.ref w0, .int (nI 9), .ref w1, .ref w2, .ref w3, .int flw])), (w0, .inl (cI, 6, .inl VW)), (w1, .inl (cI, 9 + 1, .inl EW))] s.heap.size = A at hD ⊢
  have hA : ∀ q : Nat, s.heap.size ≤ q → A q := fun q h => by rw [← hAe]; exact Or.inr h
  have hS : va_S A s.heap s.heap [] := va_S.rf
  have hl := lv_entry ([.ref x0, .int (nI x)]) (n := 3) (Nat.le_of_ble_eq_true rfl)
  rw [lg_entry_eq]
  generalize (lg_sl ([.ref x0, .int (nI x)]) ++ List.replicate (3 - (lg_sl ([.ref x0, .int (nI x)])).length) Slot.unset).toArray = ls at hl ⊢
  replace hl : lv_has ls 3 [(0, .ref x0), (1, .int (nI x))] := hl
  replace hP : va_P D vwCl [(x0, .inr (3, [.ref h, .ref hh, .ref w, .ref k0])), (w, .inr (2, [.ref w0, .int (nI 9), .ref w1, .ref w2, .ref w3, .int flw])), (w0, .inl (cI, 6, .inl VW)), (w1, .inl (cI, 9 + 1, .inl EW))] s.heap := hP
  refine lv_aload_n hx hb dL_drop_0 rfl (lv_at hl 0 rfl) ?_
  refine lv_iload_n hx hb dL_drop_1 rfl (lv_at hl 1 rfl) ?_
  obtain ⟨⟨b1, b2, b3, b4⟩, ⟨d1, d2, d3, d4⟩, hsp, hx1, hx2⟩ := hw_t2 htab
  cases hx1
  cases hx2
  refine hx_catch (E := hxG) (own := RL) (name := "java/lang/IllegalStateException") (hx_runV (C := RX3) (b := x0) (As := [.int (nI x)]) (rest := []) ⟨hx, hb, hml, hown, htg⟩ (kf_X3_drop l hst D cI cZ cJ sa x VW EW LW BW flw VA HA x0 h hh w k0 w0 w1 w2 w3 hV hV9 hW hx5 hn) (cwV 1 htg (hg_V hm_475 hm_476 hm_477 hm_1 hm_478) rfl rfl rfl (by decide +kernel) ⟨Nat.le_of_ble_eq_true rfl, Nat.le_of_ble_eq_true rfl⟩) ⟨hp_X_blind, va_recv (q := (RX3, TX3, 4)) (q0 := 0) (ci := 3) hK hP rfl rfl, hp_X_pre (hP.sub (ws' := [(x0, .inr (3, [.ref h, .ref hh, .ref w, .ref k0])), (w, .inr (2, [.ref w0, .int (nI 9), .ref w1, .ref w2, .ref w3, .int flw])), (w0, .inl (cI, 6, .inl VW)), (w1, .inl (cI, 9 + 1, .inl EW))]) [0, 1, 2, 3] rfl) hz hE⟩ rfl rfl hl.1 rfl (lv_room (Nat.le_of_ble_eq_true rfl)) dL_drop_2 ⟨Nat.le_of_ble_eq_true rfl, Nat.le_of_ble_eq_true rfl⟩) hown [⟨0, 5, 8, 13⟩] ⟨0, 5, 11, 19⟩ [] hsp (fun z hz9 => by rw [List.mem_singleton.mp hz9]; exact Or.inr ⟨by decide, _, (htg _ hm_212), hNc.1⟩) (by decide) (by decide) (htg _ hm_302) (hE.1.2 _ (by simp [hxB, hxG]) _) (fun q9 H hq1 hq2 => ?_)
  replace hS : va_S A s.heap H [] := ⟨hq1, fun q hq _ => hq2 q hq, fun _ h => nomatch h⟩
  replace hP := hP.kept (H1 := H) (fun k x hx => hq2 x.1 ((hP k x hx).lt))
  replace hP : va_P D vwCl [(x0, .inr (3, [.ref h, .ref hh, .ref w, .ref k0])), (w, .inr (2, [.ref w0, .int (nI 9), .ref w1, .ref w2, .ref w3, .int flw])), (w0, .inl (cI, 6, .inl VW)), (w1, .inl (cI, 9 + 1, .inl EW))] H := hP
  replace hD : va_D A [(x0, .inr (3, [.ref h, .ref hh, .ref w, .ref k0])), (w, .inr (2, [.ref w0, .int (nI 9), .ref w1, .ref w2, .ref w3, .int flw])), (w0, .inl (cI, 6, .inl VW)), (w1, .inl (cI, 9 + 1, .inl EW))] := hD
  refine lv_astore_n hx hb dL_drop_11 rfl hl (by decide) rfl (fun ls hl => ?_)
  replace hl : lv_has ls 3 [(2, .ref q9), (0, .ref x0), (1, .int (nI x))] := hl
  refine lv_iconst (v := nI 2) hx hb dL_drop_12 (by decide) ?_
  exact W.iret (v := nI 2) hx hb hr (fun t9 ht9 hW9 => ⟨⟨_, (), rfl, rfl, by show va_P D vwCl [(x0, .inr (3, [.ref h, .ref hh, .ref w, .ref k0])), (w, .inr (2, [.ref w0, .int (nI 9), .ref w1, .ref w2, .ref w3, .int flw])), (w0, .inl (cI, 6, .inl VW)), (w1, .inl (cI, 9 + 1, .inl EW))] t9.heap; rw [ht9]; exact hP⟩, hS.F ht9⟩) hS.2.2 dL_drop_13

set_option maxHeartbeats 4000000 in
set_option maxRecDepth 100000 in
/-- it throws -/
theorem kh_make_f (l : Launch) (hst : l.stackTraces = false) (sa : Nat → Nat) (D : va_G) (cI cZ cJ : ClassId) (sz : Nat) (x : Nat) (VW EW LW BW : Nat → Int32) (flw : Int32) (VA : Nat → Nat) (HA : Nat → Option Nat) (x0 h hh w k0 : Nat) (w0 w1 w2 w3 : Nat) (hW : hs_hp 9 EW LW BW HA (fun _ => false) (fun a => a)) (hx5 : x < 5) (hnf : ∀ j, 1 ≤ j → j ≤ 9 → HA j ≠ none) : Met l yL_make (Cond.codeWith yL_make cL_make 3 (some .int) [(0, 5, 8, 13), (0, 5, 11, 61)] :: hwG) { frames := 7, cells := 1, slots := 6, locals := 104 } (hp_H [.ref x0, .int (nI x)] D cI cZ cJ [(x0, .inr (3, [.ref h, .ref hh, .ref w, .ref k0])), (w, .inr (2, [.ref w0, .int (nI 9), .ref w1, .ref w2, .ref w3, .int flw])), (w1, .inl (cI, 9 + 1, .inl EW))] sa sz) (va_Qi (S := Unit) (fun r _ => r = nI 2) (fun u t => va_P D vwCl ([(x0, .inr (3, [.ref h, .ref hh, .ref w, .ref k0])), (w, .inr (2, [.ref w0, .int (nI 9), .ref w1, .ref w2, .ref w3, .int flw])), (w1, .inl (cI, 9 + 1, .inl EW))]) t.heap) (va_A [(x0, .inr (3, [.ref h, .ref hh, .ref w, .ref k0])), (w, .inr (2, [.ref w0, .int (nI 9), .ref w1, .ref w2, .ref w3, .int flw])), (w1, .inl (cI, 9 + 1, .inl EW))] sz)) 1 6 (va_A [(x0, .inr (3, [.ref h, .ref hh, .ref w, .ref k0])), (w, .inr (2, [.ref w0, .int (nI 9), .ref w1, .ref w2, .ref w3, .int flw])), (w1, .inl (cI, 9 + 1, .inl EW))] sz) := by
  refine va_MetW (cc := cL_make) (maxL := 3) (ret := (some .int)) (hh := [(0, 5, 8, 13), (0, 5, 11, 61)]) (by decide) rfl ?_
  intro p e s m args below meth c s₁ B hml hv
  obtain ⟨rfl, hsz, hP, hz, hD0, hE, hNc⟩ := hv
  have hx := B.exec
  have hb := B.bytes
  have hr := B.returns
  have hts := atoms_spec (ws := (Cond.codeWith yL_make cL_make 3 (some .int) [(0, 5, 8, 13), (0, 5, 11, 61)] :: hwG)) B.pre
  have htg := fun w h => hts w (List.mem_cons_of_mem _ h)
  have hown : s.vm.findClass RL = some m.cls := findClass_of_methodNamed B.named
  have hlocks := B.notSynchronized
  have hK := hz.1
  have htab := hw_tab (hts _ List.mem_cons_self) B.named B.method (Stand.of_body B).code
  subst hsz
  have hD := hD0.self (sz := s.heap.size)
  generalize hAe : va_A [(x0, .inr (3, [.ref h, .ref hh, .ref w, .ref k0])), (w, .inr (2, [.ref w0, .int (nI 9), .ref w1, .ref w2, .ref w3, .int flw])), (w1, .inl (cI, 9 + 1, .inl EW))] s.heap.size = A at hD ⊢
  have hA : ∀ q : Nat, s.heap.size ≤ q → A q := fun q h => by rw [← hAe]; exact Or.inr h
  have hS : va_S A s.heap s.heap [] := va_S.rf
  have hl := lv_entry ([.ref x0, .int (nI x)]) (n := 3) (Nat.le_of_ble_eq_true rfl)
  rw [lg_entry_eq]
  generalize (lg_sl ([.ref x0, .int (nI x)]) ++ List.replicate (3 - (lg_sl ([.ref x0, .int (nI x)])).length) Slot.unset).toArray = ls at hl ⊢
  replace hl : lv_has ls 3 [(0, .ref x0), (1, .int (nI x))] := hl
  replace hP : va_P D vwCl [(x0, .inr (3, [.ref h, .ref hh, .ref w, .ref k0])), (w, .inr (2, [.ref w0, .int (nI 9), .ref w1, .ref w2, .ref w3, .int flw])), (w1, .inl (cI, 9 + 1, .inl EW))] s.heap := hP
  refine lv_aload_n hx hb dL_make_0 rfl (lv_at hl 0 rfl) ?_
  refine lv_iload_n hx hb dL_make_1 rfl (lv_at hl 1 rfl) ?_
  obtain ⟨⟨b1, b2, b3, b4⟩, ⟨d1, d2, d3, d4⟩, hsp, hx1, hx2⟩ := hw_t2 htab
  cases hx1
  cases hx2
  refine hx_catch (E := hxU) (own := RL) (name := "java/lang/UnsupportedOperationException") (hx_runV (C := RX3) (b := x0) (As := [.int (nI x)]) (rest := []) ⟨hx, hb, hml, hown, htg⟩ (kf_X3_make l hst D cI cZ cJ sa x VW EW LW BW flw VA HA x0 h hh w k0 w0 w1 w2 w3 hW hx5 hnf) (cwV 1 htg (hg_V hm_448 hm_449 hm_450 hm_1 hm_451) rfl rfl rfl (by decide +kernel) ⟨Nat.le_of_ble_eq_true rfl, Nat.le_of_ble_eq_true rfl⟩) ⟨hp_X_blind, va_recv (q := (RX3, TX3, 4)) (q0 := 0) (ci := 3) hK hP rfl rfl, hp_X_pre (hP.sub (ws' := [(x0, .inr (3, [.ref h, .ref hh, .ref w, .ref k0])), (w, .inr (2, [.ref w0, .int (nI 9), .ref w1, .ref w2, .ref w3, .int flw])), (w1, .inl (cI, 9 + 1, .inl EW))]) [0, 1, 2] rfl) hz hE⟩ rfl rfl hl.1 rfl (lv_room (Nat.le_of_ble_eq_true rfl)) dL_make_2 ⟨Nat.le_of_ble_eq_true rfl, Nat.le_of_ble_eq_true rfl⟩) hown [⟨0, 5, 8, 13⟩] ⟨0, 5, 11, 61⟩ [] hsp (fun z hz9 => by rw [List.mem_singleton.mp hz9]; exact Or.inr ⟨by decide, _, (htg _ hm_212), hNc.2.2⟩) (by decide) (by decide) (htg _ hm_447) (hE.1.2 _ (by simp [hxB, hxU]) _) (fun q9 H hq1 hq2 => ?_)
  replace hS : va_S A s.heap H [] := ⟨hq1, fun q hq _ => hq2 q hq, fun _ h => nomatch h⟩
  replace hP := hP.kept (H1 := H) (fun k x hx => hq2 x.1 ((hP k x hx).lt))
  replace hP : va_P D vwCl [(x0, .inr (3, [.ref h, .ref hh, .ref w, .ref k0])), (w, .inr (2, [.ref w0, .int (nI 9), .ref w1, .ref w2, .ref w3, .int flw])), (w1, .inl (cI, 9 + 1, .inl EW))] H := hP
  replace hD : va_D A [(x0, .inr (3, [.ref h, .ref hh, .ref w, .ref k0])), (w, .inr (2, [.ref w0, .int (nI 9), .ref w1, .ref w2, .ref w3, .int flw])), (w1, .inl (cI, 9 + 1, .inl EW))] := hD
  refine lv_astore_n hx hb dL_make_11 rfl hl (by decide) rfl (fun ls hl => ?_)
  replace hl : lv_has ls 3 [(2, .ref q9), (0, .ref x0), (1, .int (nI x))] := hl
  refine lv_iconst (v := nI 2) hx hb dL_make_12 (by decide) ?_
  exact W.iret (v := nI 2) hx hb hr (fun t9 ht9 hW9 => ⟨⟨_, (), rfl, rfl, by show va_P D vwCl [(x0, .inr (3, [.ref h, .ref hh, .ref w, .ref k0])), (w, .inr (2, [.ref w0, .int (nI 9), .ref w1, .ref w2, .ref w3, .int flw])), (w1, .inl (cI, 9 + 1, .inl EW))] t9.heap; rw [ht9]; exact hP⟩, hS.F ht9⟩) hS.2.2 dL_make_13
