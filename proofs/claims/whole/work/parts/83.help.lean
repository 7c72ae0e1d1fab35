/-! The law's helpers. -/
def hx_Nc (U : State) : Prop := va_Nc hxG hxI U ∧ va_Nc hxA hxI U ∧ va_Nc hxU hxI U
/-- a helper whose call throws -/
def hp_H (av : List Value) (D : va_G) (cI cZ cJ : ClassId) (ws : va_W) (sa : Nat → Nat) (sz : Nat) : Array Value → State → Prop := va_Pc av (fun U => U.heap.size = sz ∧ va_P D vwCl ws U.heap ∧ hz_K D cI cZ cJ U ∧ va_D (fun _ => True) ws ∧ hx_E sa U ∧ hx_Nc U)
theorem hx_Nc.warm {s U : State} (hW : s.WarmedH U.vm) (h : hx_Nc s) : hx_Nc U := ⟨h.1.moved hW.alike, h.2.1.moved hW.alike, h.2.2.moved hW.alike⟩
theorem hp_H_blind {av : List Value} {D : va_G} {cI cZ cJ : ClassId} {ws : va_W} {sa : Nat → Nat} {sz : Nat} : FrameBlind (hp_H av D cI cZ cJ ws sa sz) := fun a U g mk q =>
  ⟨q.1, q.2.1, q.2.2.1, hz_K.warm (U := U.calling g mk a) (State.WarmedH.refl U) q.2.2.2.1, q.2.2.2.2.1, hx_E_old (U := U.calling g mk a) (s0 := U) ⟨State.WarmedH.refl U, Nat.le_refl _, fun _ _ => rfl⟩ q.2.2.2.2.2.1, hx_Nc.warm (U := U.calling g mk a) (State.WarmedH.refl U) q.2.2.2.2.2.2⟩
theorem hp_H_pre {av : List Value} {D : va_G} {cI cZ cJ : ClassId} {ws : va_W} {sa : Nat → Nat} {s : State} {H : Heap} {A : Nat → Prop} (hP : va_P D vwCl ws H) (hD : va_D A ws) (hz : hz_K D cI cZ cJ s) (hE : hx_E sa s) (hN : hx_Nc s) (hO : s.heap.size ≤ H.size ∧ ∀ q : Nat, q < s.heap.size → H[q]? = s.heap[q]?) : ∀ U : State, U.heap = H → s.WarmedH U.vm → hp_H av D cI cZ cJ ws sa H.size av.toArray U :=
  fun U hU hW => ⟨rfl, by rw [hU], by rw [hU]; exact hP, hz.warm hW, hD.weaken (fun _ _ _ _ => trivial), hx_E_old ⟨hW, by rw [hU]; exact hO.1, fun q h => by rw [hU]; exact hO.2 q h⟩ hE, hN.warm hW⟩
set_option maxHeartbeats 4000000 in
set_option maxRecDepth 100000 in
/-- it throws -/
theorem kh_pair_x (l : Launch) (hst : l.stackTraces = false) (sa : Nat → Nat) (D : va_G) (cI cZ cJ : ClassId) (sz : Nat) (cx a b : Nat) (o : Bool) (x0 h hh w k0 : Nat) (hcx : cx < 2 ^ 32) (ha : a < 2 ^ 32) (hb9 : b < 2 ^ 32) (hbad : ¬ (cx < 2 ∧ a < 6 ∧ b < 6)) : Met l yL_pair (Cond.codeWith yL_pair cL_pair 6 (some .int) [(0, 9, 12, 13)] :: hwG) { frames := 8, cells := 1, slots := 6, locals := 128 } (hp_H [.ref x0, .int (nI cx), .int (nI a), .int (nI b), .int (hc_b o)] D cI cZ cJ [(x0, .inr (3, [.ref h, .ref hh, .ref w, .ref k0]))] sa sz) (va_Qi (S := Unit) (fun r _ => r = nI 1) (fun u t => va_P D vwCl ([(x0, .inr (3, [.ref h, .ref hh, .ref w, .ref k0]))]) t.heap) (va_A [(x0, .inr (3, [.ref h, .ref hh, .ref w, .ref k0]))] sz)) 1 6 (va_A [(x0, .inr (3, [.ref h, .ref hh, .ref w, .ref k0]))] sz) := by
  refine va_MetW (cc := cL_pair) (maxL := 6) (ret := (some .int)) (hh := [(0, 9, 12, 13)]) (by decide) rfl ?_
  intro p e s m args below meth c s₁ B hml hv
  obtain ⟨rfl, hsz, hP, hz, hD0, hE, hNc⟩ := hv
  have hx := B.exec
  have hb := B.bytes
  have hr := B.returns
  have hts := atoms_spec (ws := (Cond.codeWith yL_pair cL_pair 6 (some .int) [(0, 9, 12, 13)] :: hwG)) B.pre
  have htg := fun w h => hts w (List.mem_cons_of_mem _ h)
  have hown : s.vm.findClass RL = some m.cls := findClass_of_methodNamed B.named
  have hlocks := B.notSynchronized
  have hK := hz.1
  have htab := hw_tab (hts _ List.mem_cons_self) B.named B.method (Stand.of_body B).code
  subst hsz
  have hD := hD0.self (sz := s.heap.size)
  generalize hAe : va_A [(x0, .inr (3, [.ref h, .ref hh, .ref w, .ref k0]))] s.heap.size = A at hD ⊢
  have hA : ∀ q : Nat, s.heap.size ≤ q → A q := fun q h => by rw [← hAe]; exact Or.inr h
  have hS : va_S A s.heap s.heap [] := va_S.rf
  have hl := lv_entry ([.ref x0, .int (nI cx), .int (nI a), .int (nI b), .int (hc_b o)]) (n := 6) (Nat.le_of_ble_eq_true rfl)
  rw [lg_entry_eq]
  generalize (lg_sl ([.ref x0, .int (nI cx), .int (nI a), .int (nI b), .int (hc_b o)]) ++ List.replicate (6 - (lg_sl ([.ref x0, .int (nI cx), .int (nI a), .int (nI b), .int (hc_b o)])).length) Slot.unset).toArray = ls at hl ⊢
  replace hl : lv_has ls 6 [(0, .ref x0), (1, .int (nI cx)), (2, .int (nI a)), (3, .int (nI b)), (4, .int (hc_b o))] := hl
  replace hP : va_P D vwCl [(x0, .inr (3, [.ref h, .ref hh, .ref w, .ref k0]))] s.heap := hP
  refine lv_aload_n hx hb dL_pair_0 rfl (lv_at hl 0 rfl) ?_
  refine lv_iload_n hx hb dL_pair_1 rfl (lv_at hl 1 rfl) ?_
  refine lv_iload_n hx hb dL_pair_2 rfl (lv_at hl 2 rfl) ?_
  refine lv_iload_n hx hb dL_pair_3 rfl (lv_at hl 3 rfl) ?_
  refine lv_iload hx hb dL_pair_4 (lv_at hl 4 rfl) ?_
  obtain ⟨⟨b1, b2, b3, b4⟩, hsp, hx1⟩ := hw_t1 htab
  cases hx1
  refine hx_catch (E := hxI) (own := RL) (name := "java/lang/IndexOutOfBoundsException") (hx_runV (C := RX3) (b := x0) (As := [.int (nI cx), .int (nI a), .int (nI b), .int (hc_b o)]) (rest := []) ⟨hx, hb, hml, hown, htg⟩ (kx_X3_pair l hst D cI cZ cJ sa cx a b o x0 h hh w k0 hcx ha hb9 hbad) (cwV 4 htg (hg_V hm_213 hm_214 hm_215 hm_1 hm_216) rfl rfl rfl (by decide +kernel) ⟨Nat.le_of_ble_eq_true rfl, Nat.le_of_ble_eq_true rfl⟩) ⟨hp_X_blind, va_recv (q := (RX3, TX3, 4)) (q0 := 0) (ci := 3) hK hP rfl rfl, hp_X_pre (hP.sub (ws' := [(x0, .inr (3, [.ref h, .ref hh, .ref w, .ref k0]))]) [0] rfl) hz hE⟩ rfl rfl hl.1 rfl (lv_room (Nat.le_of_ble_eq_true rfl)) dL_pair_6 ⟨Nat.le_of_ble_eq_true rfl, Nat.le_of_ble_eq_true rfl⟩) hown [] ⟨0, 9, 12, 13⟩ [] hsp (fun z hz9 => absurd hz9 List.not_mem_nil) (by decide) (by decide) (htg _ hm_212) (hE.1.2 _ (by simp [hxB, hxI]) _) (fun q9 H hq1 hq2 => ?_)
  replace hS : va_S A s.heap H [] := ⟨hq1, fun q hq _ => hq2 q hq, fun _ h => nomatch h⟩
  replace hP := hP.kept (H1 := H) (fun k x hx => hq2 x.1 ((hP k x hx).lt))
  replace hP : va_P D vwCl [(x0, .inr (3, [.ref h, .ref hh, .ref w, .ref k0]))] H := hP
  replace hD : va_D A [(x0, .inr (3, [.ref h, .ref hh, .ref w, .ref k0]))] := hD
  refine lv_astore hx hb dL_pair_12 hl (by decide) rfl (fun ls hl => ?_)
  replace hl : lv_has ls 6 [(5, .ref q9), (0, .ref x0), (1, .int (nI cx)), (2, .int (nI a)), (3, .int (nI b)), (4, .int (hc_b o))] := hl
  refine lv_iconst (v := nI 1) hx hb dL_pair_14 (by decide) ?_
  exact W.iret (v := nI 1) hx hb hr (fun t9 ht9 hW9 => ⟨⟨_, (), rfl, rfl, by show va_P D vwCl [(x0, .inr (3, [.ref h, .ref hh, .ref w, .ref k0]))] t9.heap; rw [ht9]; exact hP⟩, hS.F ht9⟩) hS.2.2 dL_pair_15
