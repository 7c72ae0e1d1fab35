set_option maxHeartbeats 4000000 in
set_option maxRecDepth 100000 in
/-- the first case -/
theorem k_X0_begin (l : Launch) (D : va_G) (cI cZ cJ : ClassId) (sz : Nat) (x nmC : Int32) (V : Nat → Int32) (G : Nat) (fl : Int32) (k0 g q0 q1 q2 q3 : Nat) : Met l yX0_begin (Cond.code yX0_begin cX0_begin 2 none :: hwG) { frames := 1, cells := 0, slots := 0, locals := 23 } (hp_M [.ref k0, .int x] D cI cZ cJ [(k0, .inr (0, [.ref g, .int nmC])), (g, .inr (2, [.ref q0, .int (nI G), .ref q1, .ref q2, .ref q3, .int fl])), (q0, .inl (cI, 6, .inl V))] sz) (va_Qv (S := Nat → Int32) (fun u => ∀ j, j < 6 → u j = nI 0) (fun u t => va_P D vwCl ([(k0, .inr (0, [.ref g, .int x])), (g, .inr (2, [.ref q0, .int (nI G), .ref q1, .ref q2, .ref q3, .int fl])), (q0, .inl (cI, 6, .inl u))]) t.heap) (va_A [(k0, .inr (0, [.ref g, .int nmC])), (g, .inr (2, [.ref q0, .int (nI G), .ref q1, .ref q2, .ref q3, .int fl])), (q0, .inl (cI, 6, .inl V))] sz)) 0 0 (va_A [(k0, .inr (0, [.ref g, .int nmC])), (g, .inr (2, [.ref q0, .int (nI G), .ref q1, .ref q2, .ref q3, .int fl])), (q0, .inl (cI, 6, .inl V))] sz) := by
  refine Met.ofW (cc := cX0_begin) (maxL := 2) (ret := none) (by decide) rfl ?_
  intro p e s m args below meth c s₁ B hml hv
  obtain ⟨rfl, hsz, hP, hz, hD0⟩ := hv
  have hx := B.exec
  have hb := B.bytes
  have hr := B.returns
  have hts := atoms_spec (ws := (Cond.code yX0_begin cX0_begin 2 none :: hwG)) B.pre
  have htg := fun w h => hts w (List.mem_cons_of_mem _ h)
  have hown : s.vm.findClass RX0 = some m.cls := findClass_of_methodNamed B.named
  have hlocks := B.notSynchronized
  have hK := hz.1
  subst hsz
  have hD := hD0.self (sz := s.heap.size)
  generalize hAe : va_A [(k0, .inr (0, [.ref g, .int nmC])), (g, .inr (2, [.ref q0, .int (nI G), .ref q1, .ref q2, .ref q3, .int fl])), (q0, .inl (cI, 6, .inl V))] s.heap.size = A at hD ⊢
  have hA : ∀ q : Nat, s.heap.size ≤ q → A q := fun q h => by rw [← hAe]; exact Or.inr h
  have hS : va_S A s.heap s.heap [] := va_S.rf
  have hl := lv_entry ([.ref k0, .int x]) (n := 2) (Nat.le_of_ble_eq_true rfl)
  rw [lg_entry_eq]
  generalize (lg_sl ([.ref k0, .int x]) ++ List.replicate (2 - (lg_sl ([.ref k0, .int x])).length) Slot.unset).toArray = ls at hl ⊢
  replace hl : lv_has ls 2 [(0, .ref k0), (1, .int x)] := hl
  replace hP : va_P D vwCl [(k0, .inr (0, [.ref g, .int nmC])), (g, .inr (2, [.ref q0, .int (nI G), .ref q1, .ref q2, .ref q3, .int fl])), (q0, .inl (cI, 6, .inl V))] s.heap := hP
  refine lv_aload_n hx hb dX0_begin_0 rfl (lv_at hl 0 rfl) ?_
  refine lv_iload_n hx hb dX0_begin_1 rfl (lv_at hl 1 rfl) ?_
  refine va_put (D := D) (ci := 0) (v := .int x) (ty := .int) (C := RX0) (T := TX0) (N := 2) hx hb htg hi_X0 tyX0 tyX0_ok nmX0 hown hK hP hD hS 0 rfl rfl 1 (by decide) (htg _ hm_106) (fun _ h9 => h9) rfl (by decide +kernel) rfl rfl (Nat.le_of_ble_eq_true rfl) dX0_begin_2 (fun H locs hP hD hS => ?_)
  replace hP : va_P D vwCl [(k0, .inr (0, [.ref g, .int x])), (g, .inr (2, [.ref q0, .int (nI G), .ref q1, .ref q2, .ref q3, .int fl])), (q0, .inl (cI, 6, .inl V))] H := hP
  replace hD : va_D A [(k0, .inr (0, [.ref g, .int x])), (g, .inr (2, [.ref q0, .int (nI G), .ref q1, .ref q2, .ref q3, .int fl])), (q0, .inl (cI, 6, .inl V))] := hD
  refine lv_aload_n hx hb dX0_begin_5 rfl (lv_at hl 0 rfl) ?_
  refine va_get (D := D) (ci := 0) (v := .ref g) (C := RX0) (T := TX0) (N := 2) hx hb htg hi_X0 hown hK hP 0 rfl rfl 0 (by decide) (htg _ hm_104) (fun _ h9 => h9) rfl dX0_begin_6 ?_
  refine va_getN (D := D) (ci := 2) (v := .ref q0) (C := RX2) (T := TX2) (N := 6) hx hb htg hi_X2 hown hK hP 1 rfl rfl 0 (by decide) (hz_useF hz hn_74) (fun _ h9 => h9) rfl dX0_begin_9 ?_
  refine lv_iconst (v := nI 0) hx hb dX0_begin_12 (by decide) ?_
  refine hv_callv (w1 := fun u => [(q0, .inl (cI, 6, .inl u))]) (va_runS (As := [.ref q0, .int (nI 0)]) (rest := []) ⟨hx, hb, hml, hown, htg⟩ (k_J7_fill l D cI cZ cJ _ V 6 q0 (nI 0) (by decide)) (va_cwS 2 htg (hg_S hm_141 hm_71 hm_4 hm_72) rfl rfl rfl (by decide +kernel) ⟨Nat.le_of_ble_eq_true rfl, Nat.le_of_ble_eq_true rfl⟩) ⟨hp_M_blind, hp_M_pre (hP.sub (ws' := [(q0, .inl (cI, 6, .inl V))]) [2] rfl) (hD.sub (ws' := [(q0, .inl (cI, 6, .inl V))]) [2] (by decide) rfl) hz⟩ rfl rfl hl.1 rfl (lv_room (Nat.le_of_ble_eq_true rfl)) dX0_begin_13 ⟨Nat.zero_le _, Nat.zero_le _⟩) hP hD hS hA [2] rfl (fun _ => rfl) (fun V1 H locs h1 hP hD hS => ?_)
  replace hP : va_P D vwCl [(k0, .inr (0, [.ref g, .int x])), (g, .inr (2, [.ref q0, .int (nI G), .ref q1, .ref q2, .ref q3, .int fl])), (q0, .inl (cI, 6, .inl V1))] H := hP
  replace hD : va_D A [(k0, .inr (0, [.ref g, .int x])), (g, .inr (2, [.ref q0, .int (nI G), .ref q1, .ref q2, .ref q3, .int fl])), (q0, .inl (cI, 6, .inl V1))] := hD
  exact W.vret hx hb hr (fun t9 ht9 hW9 => ⟨⟨V1, rfl, h1, by show va_P D vwCl [(k0, .inr (0, [.ref g, .int x])), (g, .inr (2, [.ref q0, .int (nI G), .ref q1, .ref q2, .ref q3, .int fl])), (q0, .inl (cI, 6, .inl V1))] t9.heap; rw [ht9]; exact hP⟩, hS.F ht9⟩) hS.2.2 dX0_begin_16

set_option maxHeartbeats 4000000 in
set_option maxRecDepth 100000 in
/-- the greatest before t -/
theorem k_X0_greatestBefore (l : Launch) (D : va_G) (cI cZ cJ : ClassId) (l0 : List Nat) (V : Nat → Int32) (t : Nat) (nmC : Int32) (G : Nat) (fl : Int32) (k0 g q0 q1 q2 q3 : Nat) (hV : ∀ j, j < 6 → V j = nI (l0.getD j 0)) (hB : ∀ j, j < 6 → l0.getD j 0 < 2 ^ 30) (ht : t ≤ 6) : Met l yX0_greatestBefore (Cond.code yX0_greatestBefore cX0_greatestBefore 4 (some .int) :: hwG) { frames := 1, cells := 0, slots := 0, locals := 13 } (hp_R [.ref k0, .int (nI t)] D cI cZ cJ [(k0, .inr (0, [.ref g, .int nmC])), (g, .inr (2, [.ref q0, .int (nI G), .ref q1, .ref q2, .ref q3, .int fl])), (q0, .inl (cI, 6, .inl V))]) (vp_Si (fun r => r = nI (hc_mx l0 t))) 0 0 (fun _ => False) := by
  refine Met.ofW (cc := cX0_greatestBefore) (maxL := 4) (ret := (some .int)) (by decide) rfl ?_
  intro p e s m args below meth c s₁ B hml hv
  obtain ⟨rfl, hP, hz⟩ := hv
  have hx := B.exec
  have hb := B.bytes
  have hr := B.returns
  have hts := atoms_spec (ws := (Cond.code yX0_greatestBefore cX0_greatestBefore 4 (some .int) :: hwG)) B.pre
  have htg := fun w h => hts w (List.mem_cons_of_mem _ h)
  have hown : s.vm.findClass RX0 = some m.cls := findClass_of_methodNamed B.named
  have hlocks := B.notSynchronized
  have hK := hz.1
  have hl := lv_entry ([.ref k0, .int (nI t)]) (n := 4) (Nat.le_of_ble_eq_true rfl)
  rw [lg_entry_eq]
  generalize (lg_sl ([.ref k0, .int (nI t)]) ++ List.replicate (4 - (lg_sl ([.ref k0, .int (nI t)])).length) Slot.unset).toArray = ls at hl ⊢
  replace hl : lv_has ls 4 [(0, .ref k0), (1, .int (nI t))] := hl
  refine lv_iconst (v := nI 0) hx hb dX0_greatestBefore_0 (by decide) ?_
  refine lv_istore_n hx hb dX0_greatestBefore_1 rfl hl (by decide) rfl (fun ls hl => ?_)
  replace hl : lv_has ls 4 [(2, .int (nI 0)), (0, .ref k0), (1, .int (nI t))] := hl
  refine lv_iconst (v := nI 0) hx hb dX0_greatestBefore_2 (by decide) ?_
  refine lv_istore_n hx hb dX0_greatestBefore_3 rfl hl (by decide) rfl (fun ls hl => ?_)
  replace hl : lv_has ls 4 [(3, .int (nI 0)), (2, .int (nI 0)), (0, .ref k0), (1, .int (nI t))] := hl
  obtain ⟨b, e_b⟩ : ∃ z : Nat, z = 0 := ⟨_, rfl⟩
  obtain ⟨r9, e_r9⟩ : ∃ z : Nat, z = 0 := ⟨_, rfl⟩
  replace hl : lv_has ls 4 [(3, .int (nI b)), (2, .int (nI r9)), (0, .ref k0), (1, .int (nI t))] := by subst e_b e_r9; exact hl
  have hr9 : r9 = hc_mx l0 b := by subst e_b e_r9; rfl
  have hbt : b ≤ t := by subst e_b e_r9; omega
  clear e_b e_r9
  obtain ⟨k, hk⟩ : ∃ k : Nat, k = t - b := ⟨_, rfl⟩
  induction k generalizing b r9 ls  with
  | zero =>
    refine lv_iload_n hx hb dX0_greatestBefore_4 rfl (lv_at hl 0 rfl) ?_
    refine lv_iload_n hx hb dX0_greatestBefore_5 rfl (lv_at hl 3 rfl) ?_
    refine hw_icmp_ge hx hb (by omega) (by omega) dX0_greatestBefore_6 rfl (fun hc => ?_) (fun hc => absurd hc (by omega))
    refine lv_iload_n hx hb dX0_greatestBefore_29 rfl (lv_at hl 1 rfl) ?_
    exact W.iret (v := nI r9) hx hb hr (fun t9 ht9 hW9 => ⟨_, rfl, by rw [hr9, show b = t by omega], ht9⟩) (fun _ h => nomatch h) dX0_greatestBefore_30
  | succ k ih =>
    refine lv_iload_n hx hb dX0_greatestBefore_4 rfl (lv_at hl 0 rfl) ?_
    refine lv_iload_n hx hb dX0_greatestBefore_5 rfl (lv_at hl 3 rfl) ?_
    refine hw_icmp_ge hx hb (by omega) (by omega) dX0_greatestBefore_6 rfl (fun hc => absurd hc (by omega)) (fun hc => ?_)
    have hm1 : hc_mx l0 b < 2 ^ 30 := hc_mx_lt (by decide) hB b (by omega)
    have hm2 := hB b (by omega)
    refine lv_iload_n hx hb dX0_greatestBefore_9 rfl (lv_at hl 1 rfl) ?_
    refine lv_aload_n hx hb dX0_greatestBefore_10 rfl (lv_at hl 2 rfl) ?_
    refine va_get (D := D) (ci := 0) (v := .ref g) (C := RX0) (T := TX0) (N := 2) hx hb htg hi_X0 hown hK hP 0 rfl rfl 0 (by decide) (htg _ hm_104) (fun _ h9 => h9) rfl dX0_greatestBefore_11 ?_
    refine va_getN (D := D) (ci := 2) (v := .ref q0) (C := RX2) (T := TX2) (N := 6) hx hb htg hi_X2 hown hK hP 1 rfl rfl 0 (by decide) (hz_useF hz hn_74) (fun _ h9 => h9) rfl dX0_greatestBefore_14 ?_
    refine lv_iload_n hx hb dX0_greatestBefore_17 rfl (lv_at hl 0 rfl) ?_
    refine hw_iald hx hb hK hP 2 0 rfl rfl (j := b) (by omega) (by first | decide | omega) (v := nI (l0.getD b 0)) (hV b (by omega)) dX0_greatestBefore_18 ?_
    refine va_mmax hx hb (hml.trans hl.1.symm) hown (htg _ hm_187) (htg _ hm_188) (htg _ hm_12) (htg _ hm_189) (Nat.le_of_ble_eq_true rfl) (Nat.le_of_ble_eq_true rfl) (Nat.zero_le _) (Nat.zero_le _) dX0_greatestBefore_19 ?_
    rw [hs_max (by omega) (by omega)]
    refine lv_istore_n hx hb dX0_greatestBefore_22 rfl hl (by decide) rfl (fun ls hl => ?_)
    replace hl : lv_has ls 4 [(2, .int (nI (max r9 (l0.getD b 0)))), (3, .int (nI b)), (0, .ref k0), (1, .int (nI t))] := hl
    refine lv_iinc (v := nI (b + 1)) (k := 1) hx hb dX0_greatestBefore_23 hl rfl (hw_inc _) (by decide) rfl (fun ls hl => ?_)
    replace hl : lv_has ls 4 [(3, .int (nI (b + 1))), (2, .int (nI (max r9 (l0.getD b 0)))), (0, .ref k0), (1, .int (nI t))] := hl
    refine lv_goto hx hb dX0_greatestBefore_26 rfl ?_
    refine ih (hl := hl) (hr9 := (by rw [hr9]; rfl)) (hbt := (by omega)) (hk := (by omega))

set_option maxHeartbeats 4000000 in
set_option maxRecDepth 100000 in
/-- the next case -/
theorem k_X0_advance (l : Launch) (D : va_G) (cI cZ cJ : ClassId) (sz : Nat) (l0 : List Nat) (V : Nat → Int32) (M : Nat) (nmC : Int32) (G : Nat) (fl : Int32) (k0 g q0 q1 q2 q3 : Nat) (hV : ∀ j, j < 6 → V j = nI (l0.getD j 0)) (hB : ∀ j, j < 6 → l0.getD j 0 < 2 ^ 30) (hL : l0.length = 6) (hM : ∀ t, t < 5 → bt nmC t = M.testBit t) : Met l yX0_advance (Cond.code yX0_advance cX0_advance 3 (some .boolean) :: hwG) { frames := 2, cells := 0, slots := 0, locals := 36 } (hp_M [.ref k0] D cI cZ cJ [(k0, .inr (0, [.ref g, .int nmC])), (g, .inr (2, [.ref q0, .int (nI G), .ref q1, .ref q2, .ref q3, .int fl])), (q0, .inl (cI, 6, .inl V))] sz) (va_Qi (S := Nat → Int32) (fun r u => (r = nI 1 ∧ ∃ l2, hc_av M 5 l0 = some l2 ∧ ∀ j, j < 6 → u j = nI (l2.getD j 0)) ∨ (r = nI 0 ∧ hc_av M 5 l0 = none)) (fun u t => va_P D vwCl ([(k0, .inr (0, [.ref g, .int nmC])), (g, .inr (2, [.ref q0, .int (nI G), .ref q1, .ref q2, .ref q3, .int fl])), (q0, .inl (cI, 6, .inl u))]) t.heap) (va_A [(k0, .inr (0, [.ref g, .int nmC])), (g, .inr (2, [.ref q0, .int (nI G), .ref q1, .ref q2, .ref q3, .int fl])), (q0, .inl (cI, 6, .inl V))] sz)) 0 0 (va_A [(k0, .inr (0, [.ref g, .int nmC])), (g, .inr (2, [.ref q0, .int (nI G), .ref q1, .ref q2, .ref q3, .int fl])), (q0, .inl (cI, 6, .inl V))] sz) := by
  refine Met.ofW (cc := cX0_advance) (maxL := 3) (ret := (some .boolean)) (by decide) rfl ?_
  intro p e s m args below meth c s₁ B hml hv
  obtain ⟨rfl, hsz, hP, hz, hD0⟩ := hv
  have hx := B.exec
  have hb := B.bytes
  have hr := B.returns
  have hts := atoms_spec (ws := (Cond.code yX0_advance cX0_advance 3 (some .boolean) :: hwG)) B.pre
  have htg := fun w h => hts w (List.mem_cons_of_mem _ h)
  have hown : s.vm.findClass RX0 = some m.cls := findClass_of_methodNamed B.named
  have hlocks := B.notSynchronized
  have hK := hz.1
  subst hsz
  have hD := hD0.self (sz := s.heap.size)
  generalize hAe : va_A [(k0, .inr (0, [.ref g, .int nmC])), (g, .inr (2, [.ref q0, .int (nI G), .ref q1, .ref q2, .ref q3, .int fl])), (q0, .inl (cI, 6, .inl V))] s.heap.size = A at hD ⊢
  have hA : ∀ q : Nat, s.heap.size ≤ q → A q := fun q h => by rw [← hAe]; exact Or.inr h
  have hS : va_S A s.heap s.heap [] := va_S.rf
  have hl := lv_entry ([.ref k0]) (n := 3) (Nat.le_of_ble_eq_true rfl)
  rw [lg_entry_eq]
  generalize (lg_sl ([.ref k0]) ++ List.replicate (3 - (lg_sl ([.ref k0])).length) Slot.unset).toArray = ls at hl ⊢
  replace hl : lv_has ls 3 [(0, .ref k0)] := hl
  replace hP : va_P D vwCl [(k0, .inr (0, [.ref g, .int nmC])), (g, .inr (2, [.ref q0, .int (nI G), .ref q1, .ref q2, .ref q3, .int fl])), (q0, .inl (cI, 6, .inl V))] s.heap := hP
  refine lv_aload_n hx hb dX0_advance_0 rfl (lv_at hl 0 rfl) ?_
  refine va_get (D := D) (ci := 0) (v := .ref g) (C := RX0) (T := TX0) (N := 2) hx hb htg hi_X0 hown hK hP 0 rfl rfl 0 (by decide) (htg _ hm_104) (fun _ h9 => h9) rfl dX0_advance_1 ?_
  refine va_getN (D := D) (ci := 2) (v := .ref q0) (C := RX2) (T := TX2) (N := 6) hx hb htg hi_X2 hown hK hP 1 rfl rfl 0 (by decide) (hz_useF hz hn_74) (fun _ h9 => h9) rfl dX0_advance_4 ?_
  refine lv_astore_n hx hb dX0_advance_7 rfl hl (by decide) rfl (fun ls hl => ?_)
  replace hl : lv_has ls 3 [(1, .ref q0), (0, .ref k0)] := hl
  refine lv_iconst (v := nI 4) hx hb dX0_advance_8 (by decide) ?_
  refine lv_istore_n hx hb dX0_advance_9 rfl hl (by decide) rfl (fun ls hl => ?_)
  replace hl : lv_has ls 3 [(2, .int (nI 4)), (1, .ref q0), (0, .ref k0)] := hl
  obtain ⟨H, e_H⟩ : ∃ z : Heap, z = s.heap := ⟨_, rfl⟩
  obtain ⟨locs, e_locs⟩ : ∃ z : List Loc, z = [] := ⟨_, rfl⟩
  replace hP : va_P D vwCl [(k0, .inr (0, [.ref g, .int nmC])), (g, .inr (2, [.ref q0, .int (nI G), .ref q1, .ref q2, .ref q3, .int fl])), (q0, .inl (cI, 6, .inl V))] H := by subst e_H; exact hP
  replace hS : va_S A s.heap H locs := by subst e_H e_locs; exact hS
  rw [← e_H, ← e_locs]
  clear e_H e_locs
  obtain ⟨t1, e_t1⟩ : ∃ z : Nat, z = 5 := ⟨_, rfl⟩
  obtain ⟨z, e_z⟩ : ∃ z : Int32, z = nI 4 := ⟨_, rfl⟩
  obtain ⟨V1, e_V1⟩ : ∃ z : Nat → Int32, z = V := ⟨_, rfl⟩
  obtain ⟨l1, e_l1⟩ : ∃ z : List Nat, z = l0 := ⟨_, rfl⟩
  replace hl : lv_has ls 3 [(2, .int z), (1, .ref q0), (0, .ref k0)] := by subst e_t1 e_z e_V1 e_l1; exact hl
  replace hP : va_P D vwCl [(k0, .inr (0, [.ref g, .int nmC])), (g, .inr (2, [.ref q0, .int (nI G), .ref q1, .ref q2, .ref q3, .int fl])), (q0, .inl (cI, 6, .inl V1))] H := by subst e_t1 e_z e_V1 e_l1; exact hP
  replace hD : va_D A [(k0, .inr (0, [.ref g, .int nmC])), (g, .inr (2, [.ref q0, .int (nI G), .ref q1, .ref q2, .ref q3, .int fl])), (q0, .inl (cI, 6, .inl V1))] := by subst e_t1 e_z e_V1 e_l1; exact hD
  have hzt : z = nI t1 + (-1) := by subst e_t1 e_z e_V1 e_l1; decide
  have hV1 : ∀ j, j < 6 → V1 j = nI (l1.getD j 0) := by subst e_t1 e_z e_V1 e_l1; exact hV
  have hB1 : ∀ j, j < 6 → l1.getD j 0 < 2 ^ 30 := by subst e_t1 e_z e_V1 e_l1; exact hB
  have hL1 : l1.length = 6 := by subst e_t1 e_z e_V1 e_l1; exact hL
  have hav : hc_av M 5 l0 = hc_av M t1 l1 := by subst e_t1 e_z e_V1 e_l1; rfl
  have ht5 : t1 ≤ 5 := by subst e_t1 e_z e_V1 e_l1; omega
  clear e_t1 e_z e_V1 e_l1
  obtain ⟨k, hk⟩ : ∃ k : Nat, k = t1 := ⟨_, rfl⟩
  induction k generalizing t1 z V1 l1 ls H locs  with
  | zero =>
    have hz0 : z = -1 := by rw [hzt, ← hk]; decide
    subst hz0
    refine lv_iload_n hx hb dX0_advance_10 rfl (lv_at hl 0 rfl) ?_
    refine lv_if_lt hx hb dX0_advance_11 rfl (fun hc => ?_) (fun hc => absurd (by decide) hc)
    refine lv_iconst (v := nI 0) hx hb dX0_advance_55 (by decide) ?_
    exact W.zret (v := nI 0) hx hb hr (by decide +kernel) (fun t9 ht9 hW9 => ⟨⟨_, V1, rfl, Or.inr ⟨rfl, by rw [hav, ← hk]; rfl⟩, by show va_P D vwCl [(k0, .inr (0, [.ref g, .int nmC])), (g, .inr (2, [.ref q0, .int (nI G), .ref q1, .ref q2, .ref q3, .int fl])), (q0, .inl (cI, 6, .inl V1))] t9.heap; rw [ht9]; exact hP⟩, hS.F ht9⟩) hS.2.2 dX0_advance_56
  | succ k ih =>
    have hz0 : z = nI k := by rw [hzt, ← hk]; exact pk_m1 k
    subst hz0
    refine lv_iload_n hx hb dX0_advance_10 rfl (lv_at hl 0 rfl) ?_
    refine lv_if_lt hx hb dX0_advance_11 rfl (fun hc => absurd hc (nI_pos (by omega))) (fun hc => ?_)
    refine lv_aload_n hx hb dX0_advance_14 rfl (lv_at hl 2 rfl) ?_
    refine va_get (D := D) (ci := 0) (v := .int nmC) (C := RX0) (T := TX0) (N := 2) hx hb htg hi_X0 hown hK hP 0 rfl rfl 1 (by decide) (htg _ hm_106) (fun _ h9 => h9) rfl dX0_advance_15 ?_
    refine lv_iconst (v := nI 1) hx hb dX0_advance_18 (by decide) ?_
    refine lv_iload_n hx hb dX0_advance_19 rfl (lv_at hl 0 rfl) ?_
    refine lv_ishl hx hb dX0_advance_20 ?_
    refine lv_iand hx hb dX0_advance_21 ?_
    rw [← hk] at hav
    refine lv_if_eq hx hb dX0_advance_22 rfl (fun h1 => ?_) (fun h1 => ?_)
    · have hbk : M.testBit k = false := by rw [← hM k (by omega)]; exact (hs_bitz (by omega)).mp h1
      refine lv_iinc (v := nI k + (-1)) (k := 0) hx hb dX0_advance_49 hl rfl rfl (by decide) rfl (fun ls hl => ?_)
      replace hl : lv_has ls 3 [(2, .int (nI k + (-1))), (1, .ref q0), (0, .ref k0)] := hl
      refine lv_goto hx hb dX0_advance_52 rfl ?_
      refine ih (l1 := l1) (hS := hS) (hl := hl) (hP := hP) (hD := hD) (hzt := rfl) (hV1 := hV1) (hB1 := hB1) (hL1 := hL1) (hav := (by rw [hav]; show (if M.testBit k = true then _ else _) = _; rw [if_neg (by rw [hbk]; decide)])) (ht5 := (by omega)) (hk := rfl)
    · have hbk : M.testBit k = true := by rw [← hM k (by omega)]; cases hb9 : bt nmC k with | true => rfl | false => exact absurd ((hs_bitz (by omega)).mpr hb9) h1
      have hm1 : hc_mx l1 k < 2 ^ 30 := hc_mx_lt (by decide) hB1 k (by omega)
      have hm2 := hB1 k (by omega)
      refine lv_aload_n hx hb dX0_advance_25 rfl (lv_at hl 1 rfl) ?_
      refine lv_iload_n hx hb dX0_advance_26 rfl (lv_at hl 0 rfl) ?_
      refine hw_iald hx hb hK hP 2 0 rfl rfl (j := k) (by omega) (by first | decide | omega) (v := nI (l1.getD k 0)) (hV1 k (by omega)) dX0_advance_27 ?_
      refine lv_aload_n hx hb dX0_advance_28 rfl (lv_at hl 2 rfl) ?_
      refine lv_iload_n hx hb dX0_advance_29 rfl (lv_at hl 0 rfl) ?_
      refine hw_csi (va_runV (C := RX0) (b := k0) (As := [.int (nI k)]) (rest := [.int (nI (l1.getD k 0))]) ⟨hx, hb, hml, hown, htg⟩ (k_X0_greatestBefore l D cI cZ cJ l1 V1 k nmC G fl k0 g q0 q1 q2 q3 hV1 hB1 (by omega)) (cwV 1 htg (hg_V hm_183 hm_185 hs_yX0_greatestBefore hm_5 hm_186) rfl rfl rfl (by decide +kernel) ⟨Nat.le_of_ble_eq_true rfl, Nat.le_of_ble_eq_true rfl⟩) ⟨hp_R_blind, va_recv (q := (RX0, TX0, 2)) (q0 := 0) (ci := 0) hK hP rfl rfl, hp_R_pre (hP.sub (ws' := [(k0, .inr (0, [.ref g, .int nmC])), (g, .inr (2, [.ref q0, .int (nI G), .ref q1, .ref q2, .ref q3, .int fl])), (q0, .inl (cI, 6, .inl V1))]) [0, 1, 2] rfl) hz⟩ rfl rfl hl.1 rfl (lv_room (Nat.le_of_ble_eq_true rfl)) dX0_advance_30 ⟨Nat.zero_le _, Nat.zero_le _⟩) (fun rg hg => ?_)
      subst hg
      refine hw_icmp_gt hx hb (by omega) (by omega) dX0_advance_33 rfl (fun h2 => ?_) (fun h2 => ?_)
      · refine lv_aload_n hx hb dX0_advance_45 rfl (lv_at hl 1 rfl) ?_
        refine lv_iload_n hx hb dX0_advance_46 rfl (lv_at hl 0 rfl) ?_
        refine lv_iconst (v := nI 0) hx hb dX0_advance_47 (by decide) ?_
        refine hw_iast hx hb hK hP hD hS 2 0 rfl rfl (j := k) (by omega) (by first | decide | omega) dX0_advance_48 (fun H locs hP hD hS => ?_)
        replace hP : va_P D vwCl [(k0, .inr (0, [.ref g, .int nmC])), (g, .inr (2, [.ref q0, .int (nI G), .ref q1, .ref q2, .ref q3, .int fl])), (q0, .inl (cI, 6, .inl (upd V1 k (nI 0))))] H := hP
        replace hD : va_D A [(k0, .inr (0, [.ref g, .int nmC])), (g, .inr (2, [.ref q0, .int (nI G), .ref q1, .ref q2, .ref q3, .int fl])), (q0, .inl (cI, 6, .inl (upd V1 k (nI 0))))] := hD
        refine lv_iinc (v := nI k + (-1)) (k := 0) hx hb dX0_advance_49 hl rfl rfl (by decide) rfl (fun ls hl => ?_)
        replace hl : lv_has ls 3 [(2, .int (nI k + (-1))), (1, .ref q0), (0, .ref k0)] := hl
        refine lv_goto hx hb dX0_advance_52 rfl ?_
        refine ih (l1 := (l1.set k 0)) (hS := hS) (hl := hl) (hP := hP) (hD := hD) (hzt := rfl) (hV1 := (fun j hj => by rw [hc_set_getD hL1 j (by omega)]; unfold upd; by_cases hjk : j = k; (rw [if_pos hjk, if_pos hjk]); (rw [if_neg hjk, if_neg hjk]; exact hV1 j hj))) (hB1 := (fun j hj => by rw [hc_set_getD hL1 j (by omega)]; by_cases hjk : j = k; (rw [if_pos hjk]; decide); (rw [if_neg hjk]; exact hB1 j hj))) (hL1 := (by rw [List.length_set]; exact hL1)) (hav := (by rw [hav]; show (if M.testBit k = true then (if l1.getD k 0 ≤ hc_mx l1 k then _ else _) else _) = _; rw [if_pos hbk, if_neg (by omega)])) (ht5 := (by omega)) (hk := rfl)
      · refine lv_aload_n hx hb dX0_advance_36 rfl (lv_at hl 1 rfl) ?_
        refine lv_iload_n hx hb dX0_advance_37 rfl (lv_at hl 0 rfl) ?_
        refine lv_dup2_11 hx hb dX0_advance_38 rfl rfl ?_
        refine hw_iald hx hb hK hP 2 0 rfl rfl (j := k) (by omega) (by first | decide | omega) (v := nI (l1.getD k 0)) (hV1 k (by omega)) dX0_advance_39 ?_
        refine lv_iconst (v := nI 1) hx hb dX0_advance_40 (by decide) ?_
        refine hw_iadd hx hb dX0_advance_41 ?_
        refine hw_iast hx hb hK hP hD hS 2 0 rfl rfl (j := k) (by omega) (by first | decide | omega) dX0_advance_42 (fun H locs hP hD hS => ?_)
        replace hP : va_P D vwCl [(k0, .inr (0, [.ref g, .int nmC])), (g, .inr (2, [.ref q0, .int (nI G), .ref q1, .ref q2, .ref q3, .int fl])), (q0, .inl (cI, 6, .inl (upd V1 k (nI (l1.getD k 0 + 1)))))] H := hP
        replace hD : va_D A [(k0, .inr (0, [.ref g, .int nmC])), (g, .inr (2, [.ref q0, .int (nI G), .ref q1, .ref q2, .ref q3, .int fl])), (q0, .inl (cI, 6, .inl (upd V1 k (nI (l1.getD k 0 + 1)))))] := hD
        refine lv_iconst (v := nI 1) hx hb dX0_advance_43 (by decide) ?_
        exact W.zret (v := nI 1) hx hb hr (by decide +kernel) (fun t9 ht9 hW9 => ⟨⟨_, upd V1 k (nI (l1.getD k 0 + 1)), rfl, Or.inl ⟨rfl, l1.set k (l1.getD k 0 + 1), by rw [hav]; show (if M.testBit k = true then (if l1.getD k 0 ≤ hc_mx l1 k then _ else _) else _) = _; rw [if_pos hbk, if_pos h2], fun j hj => by rw [hc_set_getD hL1 j (by omega)]; unfold upd; by_cases hjk : j = k; (rw [if_pos hjk, if_pos hjk]); (rw [if_neg hjk, if_neg hjk]; exact hV1 j hj)⟩, by show va_P D vwCl [(k0, .inr (0, [.ref g, .int nmC])), (g, .inr (2, [.ref q0, .int (nI G), .ref q1, .ref q2, .ref q3, .int fl])), (q0, .inl (cI, 6, .inl (upd V1 k (nI (l1.getD k 0 + 1)))))] t9.heap; rw [ht9]; exact hP⟩, hS.F ht9⟩) hS.2.2 dX0_advance_44

set_option maxHeartbeats 4000000 in
set_option maxRecDepth 100000 in
/-- a claim drawn -/
theorem k_X0_draw (l : Launch) (D : va_G) (cI cZ cJ : ClassId) (sz : Nat) (v : Nat → Nat) (V : Nat → Int32) (sm ot : Nat → Nat → Bool) (n : Nat) (fr to : Nat → Nat) (li : Nat → Bool) (S O Fr To Li : Nat → Int32) (nm : Int32) (h a1 a2 a3 a4 a5 : Nat) (EN LG BI : Nat → Int32) (nmC : Int32) (fl : Int32) (k0 g q0 q1 q2 q3 : Nat) (hV : ∀ t, t < 6 → V t = nI (v t)) (hv5 : ∀ t, t < 6 → v t < 6) (hC : hs_cl S O Fr To Li sm ot n fr to li) : Met l yX0_draw (Cond.code yX0_draw cX0_draw 6 (some .boolean) :: hwG) { frames := 2, cells := 0, slots := 0, locals := 46 } (hp_M [.ref k0, .ref h] D cI cZ cJ [(k0, .inr (0, [.ref g, .int nmC])), (g, .inr (2, [.ref q0, .int (nI 5), .ref q1, .ref q2, .ref q3, .int fl])), (q0, .inl (cI, 6, .inl V)), (q1, .inl (cI, 5 + 1, .inl EN)), (q2, .inl (cZ, 5 + 1, .inl LG)), (q3, .inl (cI, 5 + 1, .inl BI)), (h, .inr (1, [.ref a1, .ref a2, .ref a3, .ref a4, .ref a5, .int (nI n), .int nm])), (a1, .inl (cI, 6, .inl S)), (a2, .inl (cI, 6, .inl O)), (a3, .inl (cI, 5, .inl Fr)), (a4, .inl (cI, 5, .inl To)), (a5, .inl (cZ, 5, .inl Li))] sz) (va_Qi (S := (Nat → Int32) × (Nat → Int32) × (Nat → Int32) × Int32) (fun r u => hc_r r (hc_PO v sm ot ∧ hc_BG 0 n (fun p => v (fr p)) (fun p => v (to p)) li) ∧ (r = nI 1 → ∃ nx lg bi, hd_I (fun p => v (fr p)) (fun p => v (to p)) li n u.1 u.2.1 u.2.2.1 u.2.2.2 nx lg bi)) (fun u t => va_P D vwCl ([(k0, .inr (0, [.ref g, .int nmC])), (g, .inr (2, [.ref q0, .int (nI 5), .ref q1, .ref q2, .ref q3, .int u.2.2.2])), (q0, .inl (cI, 6, .inl V)), (q1, .inl (cI, 5 + 1, .inl u.1)), (q2, .inl (cZ, 5 + 1, .inl u.2.1)), (q3, .inl (cI, 5 + 1, .inl u.2.2.1)), (h, .inr (1, [.ref a1, .ref a2, .ref a3, .ref a4, .ref a5, .int (nI n), .int nm])), (a1, .inl (cI, 6, .inl S)), (a2, .inl (cI, 6, .inl O)), (a3, .inl (cI, 5, .inl Fr)), (a4, .inl (cI, 5, .inl To)), (a5, .inl (cZ, 5, .inl Li))]) t.heap) (va_A [(k0, .inr (0, [.ref g, .int nmC])), (g, .inr (2, [.ref q0, .int (nI 5), .ref q1, .ref q2, .ref q3, .int fl])), (q0, .inl (cI, 6, .inl V)), (q1, .inl (cI, 5 + 1, .inl EN)), (q2, .inl (cZ, 5 + 1, .inl LG)), (q3, .inl (cI, 5 + 1, .inl BI)), (h, .inr (1, [.ref a1, .ref a2, .ref a3, .ref a4, .ref a5, .int (nI n), .int nm])), (a1, .inl (cI, 6, .inl S)), (a2, .inl (cI, 6, .inl O)), (a3, .inl (cI, 5, .inl Fr)), (a4, .inl (cI, 5, .inl To)), (a5, .inl (cZ, 5, .inl Li))] sz)) 0 0 (va_A [(k0, .inr (0, [.ref g, .int nmC])), (g, .inr (2, [.ref q0, .int (nI 5), .ref q1, .ref q2, .ref q3, .int fl])), (q0, .inl (cI, 6, .inl V)), (q1, .inl (cI, 5 + 1, .inl EN)), (q2, .inl (cZ, 5 + 1, .inl LG)), (q3, .inl (cI, 5 + 1, .inl BI)), (h, .inr (1, [.ref a1, .ref a2, .ref a3, .ref a4, .ref a5, .int (nI n), .int nm])), (a1, .inl (cI, 6, .inl S)), (a2, .inl (cI, 6, .inl O)), (a3, .inl (cI, 5, .inl Fr)), (a4, .inl (cI, 5, .inl To)), (a5, .inl (cZ, 5, .inl Li))] sz) := by
  refine Met.ofW (cc := cX0_draw) (maxL := 6) (ret := (some .boolean)) (by decide) rfl ?_
  intro p e s m args below meth c s₁ B hml hv
  obtain ⟨rfl, hsz, hP, hz, hD0⟩ := hv
  have hx := B.exec
  have hb := B.bytes
  have hr := B.returns
  have hts := atoms_spec (ws := (Cond.code yX0_draw cX0_draw 6 (some .boolean) :: hwG)) B.pre
  have htg := fun w h => hts w (List.mem_cons_of_mem _ h)
  have hown : s.vm.findClass RX0 = some m.cls := findClass_of_methodNamed B.named
  have hlocks := B.notSynchronized
  have hK := hz.1
  subst hsz
  have hD := hD0.self (sz := s.heap.size)
  generalize hAe : va_A [(k0, .inr (0, [.ref g, .int nmC])), (g, .inr (2, [.ref q0, .int (nI 5), .ref q1, .ref q2, .ref q3, .int fl])), (q0, .inl (cI, 6, .inl V)), (q1, .inl (cI, 5 + 1, .inl EN)), (q2, .inl (cZ, 5 + 1, .inl LG)), (q3, .inl (cI, 5 + 1, .inl BI)), (h, .inr (1, [.ref a1, .ref a2, .ref a3, .ref a4, .ref a5, .int (nI n), .int nm])), (a1, .inl (cI, 6, .inl S)), (a2, .inl (cI, 6, .inl O)), (a3, .inl (cI, 5, .inl Fr)), (a4, .inl (cI, 5, .inl To)), (a5, .inl (cZ, 5, .inl Li))] s.heap.size = A at hD ⊢
  have hA : ∀ q : Nat, s.heap.size ≤ q → A q := fun q h => by rw [← hAe]; exact Or.inr h
  have hS : va_S A s.heap s.heap [] := va_S.rf
  have hl := lv_entry ([.ref k0, .ref h]) (n := 6) (Nat.le_of_ble_eq_true rfl)
  rw [lg_entry_eq]
  generalize (lg_sl ([.ref k0, .ref h]) ++ List.replicate (6 - (lg_sl ([.ref k0, .ref h])).length) Slot.unset).toArray = ls at hl ⊢
  replace hl : lv_has ls 6 [(0, .ref k0), (1, .ref h)] := hl
  replace hP : va_P D vwCl [(k0, .inr (0, [.ref g, .int nmC])), (g, .inr (2, [.ref q0, .int (nI 5), .ref q1, .ref q2, .ref q3, .int fl])), (q0, .inl (cI, 6, .inl V)), (q1, .inl (cI, 5 + 1, .inl EN)), (q2, .inl (cZ, 5 + 1, .inl LG)), (q3, .inl (cI, 5 + 1, .inl BI)), (h, .inr (1, [.ref a1, .ref a2, .ref a3, .ref a4, .ref a5, .int (nI n), .int nm])), (a1, .inl (cI, 6, .inl S)), (a2, .inl (cI, 6, .inl O)), (a3, .inl (cI, 5, .inl Fr)), (a4, .inl (cI, 5, .inl To)), (a5, .inl (cZ, 5, .inl Li))] s.heap := hP
  refine lv_aload_n hx hb dX0_draw_0 rfl (lv_at hl 1 rfl) ?_
  refine lv_aload_n hx hb dX0_draw_1 rfl (lv_at hl 0 rfl) ?_
  refine va_get (D := D) (ci := 0) (v := .ref g) (C := RX0) (T := TX0) (N := 2) hx hb htg hi_X0 hown hK hP 0 rfl rfl 0 (by decide) (htg _ hm_104) (fun _ h9 => h9) rfl dX0_draw_2 ?_
  refine va_getN (D := D) (ci := 2) (v := .ref q0) (C := RX2) (T := TX2) (N := 6) hx hb htg hi_X2 hown hK hP 1 rfl rfl 0 (by decide) (hz_useF hz hn_74) (fun _ h9 => h9) rfl dX0_draw_5 ?_
  refine hw_csi (va_runV (C := RX1) (b := h) (As := [.ref q0]) (rest := []) ⟨hx, hb, hml, hown, htg⟩ (k_X1_pairsFit l D cI cZ cJ v V q0 sm ot n fr to li S O Fr To Li nm h a1 a2 a3 a4 a5 hV (fun t ht => by have := hv5 t ht; omega) hC) (cwV 1 htg (hg_V hm_146 hm_147 hm_148 hm_2 hm_149) rfl rfl rfl (by decide +kernel) ⟨Nat.le_of_ble_eq_true rfl, Nat.le_of_ble_eq_true rfl⟩) ⟨hp_R_blind, va_recv (q := (RX1, TX1, 7)) (q0 := 6) (ci := 1) hK hP rfl rfl, hp_R_pre (hP.sub (ws' := [(h, .inr (1, [.ref a1, .ref a2, .ref a3, .ref a4, .ref a5, .int (nI n), .int nm])), (a1, .inl (cI, 6, .inl S)), (a2, .inl (cI, 6, .inl O)), (q0, .inl (cI, 6, .inl V))]) [6, 7, 8, 2] rfl) hz⟩ rfl rfl hl.1 rfl (lv_room (Nat.le_of_ble_eq_true rfl)) dX0_draw_8 ⟨Nat.zero_le _, Nat.zero_le _⟩) (fun r hq => ?_)
  rcases hq with ⟨rfl, hq⟩ | ⟨rfl, hq⟩
  · refine lv_if_ne hx hb dX0_draw_11 rfl (fun hc => ?_) (fun hc => absurd hc (by decide))
    refine lv_aload_n hx hb dX0_draw_16 rfl (lv_at hl 0 rfl) ?_
    refine va_get (D := D) (ci := 0) (v := .ref g) (C := RX0) (T := TX0) (N := 2) hx hb htg hi_X0 hown hK hP 0 rfl rfl 0 (by decide) (htg _ hm_104) (fun _ h9 => h9) rfl dX0_draw_17 ?_
    refine hv_callv (w1 := fun u => [(g, .inr (2, [.ref q0, .int (nI 5), .ref q1, .ref q2, .ref q3, .int (nI 0)])), (q1, .inl (cI, 5 + 1, .inl u))]) (va_runV (C := RX2) (b := g) (As := []) (rest := []) ⟨hx, hb, hml, hown, htg⟩ (k_X2_removeAll l D cI cZ cJ _ 5 EN fl g q0 q1 q2 q3 (by decide)) (cwV 0 htg (hg_V hm_153 hm_154 hm_155 hm_3 hm_156) rfl rfl rfl (by decide +kernel) ⟨Nat.le_of_ble_eq_true rfl, Nat.le_of_ble_eq_true rfl⟩) ⟨hp_M_blind, va_recv (q := (RX2, TX2, 6)) (q0 := 1) (ci := 2) hK hP rfl rfl, hp_M_pre (hP.sub (ws' := [(g, .inr (2, [.ref q0, .int (nI 5), .ref q1, .ref q2, .ref q3, .int fl])), (q1, .inl (cI, 5 + 1, .inl EN))]) [1, 3] rfl) (hD.sub (ws' := [(g, .inr (2, [.ref q0, .int (nI 5), .ref q1, .ref q2, .ref q3, .int fl])), (q1, .inl (cI, 5 + 1, .inl EN))]) [1, 3] (by decide) rfl) hz⟩ rfl rfl hl.1 rfl (lv_room (Nat.le_of_ble_eq_true rfl)) dX0_draw_20 ⟨Nat.zero_le _, Nat.zero_le _⟩) hP hD hS hA [1, 3] rfl (fun _ => rfl) (fun E1 H locs hE1 hP hD hS => ?_)
    replace hP : va_P D vwCl [(k0, .inr (0, [.ref g, .int nmC])), (g, .inr (2, [.ref q0, .int (nI 5), .ref q1, .ref q2, .ref q3, .int (nI 0)])), (q0, .inl (cI, 6, .inl V)), (q1, .inl (cI, 5 + 1, .inl E1)), (q2, .inl (cZ, 5 + 1, .inl LG)), (q3, .inl (cI, 5 + 1, .inl BI)), (h, .inr (1, [.ref a1, .ref a2, .ref a3, .ref a4, .ref a5, .int (nI n), .int nm])), (a1, .inl (cI, 6, .inl S)), (a2, .inl (cI, 6, .inl O)), (a3, .inl (cI, 5, .inl Fr)), (a4, .inl (cI, 5, .inl To)), (a5, .inl (cZ, 5, .inl Li))] H := hP
    replace hD : va_D A [(k0, .inr (0, [.ref g, .int nmC])), (g, .inr (2, [.ref q0, .int (nI 5), .ref q1, .ref q2, .ref q3, .int (nI 0)])), (q0, .inl (cI, 6, .inl V)), (q1, .inl (cI, 5 + 1, .inl E1)), (q2, .inl (cZ, 5 + 1, .inl LG)), (q3, .inl (cI, 5 + 1, .inl BI)), (h, .inr (1, [.ref a1, .ref a2, .ref a3, .ref a4, .ref a5, .int (nI n), .int nm])), (a1, .inl (cI, 6, .inl S)), (a2, .inl (cI, 6, .inl O)), (a3, .inl (cI, 5, .inl Fr)), (a4, .inl (cI, 5, .inl To)), (a5, .inl (cZ, 5, .inl Li))] := hD
    refine lv_iconst (v := nI 0) hx hb dX0_draw_23 (by decide) ?_
    refine lv_istore_n hx hb dX0_draw_24 rfl hl (by decide) rfl (fun ls hl => ?_)
    replace hl : lv_has ls 6 [(2, .int (nI 0)), (0, .ref k0), (1, .ref h)] := hl
    have hn5 := hC.1
    obtain ⟨p9, e_p9⟩ : ∃ z : Nat, z = 0 := ⟨_, rfl⟩
    obtain ⟨E2, e_E2⟩ : ∃ z : Nat → Int32, z = E1 := ⟨_, rfl⟩
    obtain ⟨L2, e_L2⟩ : ∃ z : Nat → Int32, z = LG := ⟨_, rfl⟩
    obtain ⟨B2, e_B2⟩ : ∃ z : Nat → Int32, z = BI := ⟨_, rfl⟩
    obtain ⟨f2, e_f2⟩ : ∃ z : Int32, z = nI 0 := ⟨_, rfl⟩
    obtain ⟨nx, e_nx⟩ : ∃ z : Nat → Option Nat, z = (fun _ => none) := ⟨_, rfl⟩
    obtain ⟨lg, e_lg⟩ : ∃ z : Nat → Bool, z = (fun _ => false) := ⟨_, rfl⟩
    obtain ⟨bi, e_bi⟩ : ∃ z : Nat → Nat, z = (fun _ => 0) := ⟨_, rfl⟩
    replace hl : lv_has ls 6 [(2, .int (nI p9)), (0, .ref k0), (1, .ref h)] := by subst e_p9 e_E2 e_L2 e_B2 e_f2 e_nx e_lg e_bi; exact hl
    replace hP : va_P D vwCl [(k0, .inr (0, [.ref g, .int nmC])), (g, .inr (2, [.ref q0, .int (nI 5), .ref q1, .ref q2, .ref q3, .int f2])), (q0, .inl (cI, 6, .inl V)), (q1, .inl (cI, 5 + 1, .inl E2)), (q2, .inl (cZ, 5 + 1, .inl L2)), (q3, .inl (cI, 5 + 1, .inl B2)), (h, .inr (1, [.ref a1, .ref a2, .ref a3, .ref a4, .ref a5, .int (nI n), .int nm])), (a1, .inl (cI, 6, .inl S)), (a2, .inl (cI, 6, .inl O)), (a3, .inl (cI, 5, .inl Fr)), (a4, .inl (cI, 5, .inl To)), (a5, .inl (cZ, 5, .inl Li))] H := by subst e_p9 e_E2 e_L2 e_B2 e_f2 e_nx e_lg e_bi; exact hP
    replace hD : va_D A [(k0, .inr (0, [.ref g, .int nmC])), (g, .inr (2, [.ref q0, .int (nI 5), .ref q1, .ref q2, .ref q3, .int f2])), (q0, .inl (cI, 6, .inl V)), (q1, .inl (cI, 5 + 1, .inl E2)), (q2, .inl (cZ, 5 + 1, .inl L2)), (q3, .inl (cI, 5 + 1, .inl B2)), (h, .inr (1, [.ref a1, .ref a2, .ref a3, .ref a4, .ref a5, .int (nI n), .int nm])), (a1, .inl (cI, 6, .inl S)), (a2, .inl (cI, 6, .inl O)), (a3, .inl (cI, 5, .inl Fr)), (a4, .inl (cI, 5, .inl To)), (a5, .inl (cZ, 5, .inl Li))] := by subst e_p9 e_E2 e_L2 e_B2 e_f2 e_nx e_lg e_bi; exact hD
    have hd : hd_I (fun p => v (fr p)) (fun p => v (to p)) li p9 E2 L2 B2 f2 nx lg bi := by subst e_p9 e_E2 e_L2 e_B2 e_f2 e_nx e_lg e_bi; exact hd_0 hE1
    have hp9 : p9 ≤ n := by subst e_p9 e_E2 e_L2 e_B2 e_f2 e_nx e_lg e_bi; exact Nat.zero_le _
    clear e_p9 e_E2 e_L2 e_B2 e_f2 e_nx e_lg e_bi
    obtain ⟨k, hk⟩ : ∃ k : Nat, k = n - p9 := ⟨_, rfl⟩
    induction k generalizing p9 E2 L2 B2 f2 nx lg bi ls H locs  with
    | zero =>
      refine lv_iload_n hx hb dX0_draw_25 rfl (lv_at hl 0 rfl) ?_
      refine lv_aload_n hx hb dX0_draw_26 rfl (lv_at hl 2 rfl) ?_
      refine va_getN (D := D) (ci := 1) (v := .int (nI n)) (C := RX1) (T := TX1) (N := 7) hx hb htg hi_X1 hown hK hP 6 rfl rfl 5 (by decide) (hz_useF hz hn_43) (fun _ h9 => h9) rfl dX0_draw_27 ?_
      refine hw_icmp_ge hx hb (by omega) (by omega) dX0_draw_30 rfl (fun hc => ?_) (fun hc => absurd hc (by omega))
      refine lv_iconst (v := nI 1) hx hb dX0_draw_133 (by decide) ?_
      rw [show p9 = n by omega] at hd
      exact W.zret (v := nI 1) hx hb hr (by decide +kernel) (fun t9 ht9 hW9 => ⟨⟨_, (E2, L2, B2, f2), rfl, ⟨Or.inl ⟨rfl, hq, hd.1⟩, fun _ => ⟨nx, lg, bi, hd⟩⟩, by show va_P D vwCl [(k0, .inr (0, [.ref g, .int nmC])), (g, .inr (2, [.ref q0, .int (nI 5), .ref q1, .ref q2, .ref q3, .int f2])), (q0, .inl (cI, 6, .inl V)), (q1, .inl (cI, 5 + 1, .inl E2)), (q2, .inl (cZ, 5 + 1, .inl L2)), (q3, .inl (cI, 5 + 1, .inl B2)), (h, .inr (1, [.ref a1, .ref a2, .ref a3, .ref a4, .ref a5, .int (nI n), .int nm])), (a1, .inl (cI, 6, .inl S)), (a2, .inl (cI, 6, .inl O)), (a3, .inl (cI, 5, .inl Fr)), (a4, .inl (cI, 5, .inl To)), (a5, .inl (cZ, 5, .inl Li))] t9.heap; rw [ht9]; exact hP⟩, hS.F ht9⟩) hS.2.2 dX0_draw_134
    | succ k ih =>
      refine lv_iload_n hx hb dX0_draw_25 rfl (lv_at hl 0 rfl) ?_
      refine lv_aload_n hx hb dX0_draw_26 rfl (lv_at hl 2 rfl) ?_
      refine va_getN (D := D) (ci := 1) (v := .int (nI n)) (C := RX1) (T := TX1) (N := 7) hx hb htg hi_X1 hown hK hP 6 rfl rfl 5 (by decide) (hz_useF hz hn_43) (fun _ h9 => h9) rfl dX0_draw_27 ?_
      refine hw_icmp_ge hx hb (by omega) (by omega) dX0_draw_30 rfl (fun hc => absurd hc (by omega)) (fun hc => ?_)
      obtain ⟨f1, f3, f4, f5, f6⟩ := hC.2.2 p9 (by omega)
      have hs5 := hv5 _ f3
      have he5 := hv5 _ f5
      refine lv_aload_n hx hb dX0_draw_33 rfl (lv_at hl 1 rfl) ?_
      refine va_get (D := D) (ci := 0) (v := .ref g) (C := RX0) (T := TX0) (N := 2) hx hb htg hi_X0 hown hK hP 0 rfl rfl 0 (by decide) (htg _ hm_104) (fun _ h9 => h9) rfl dX0_draw_34 ?_
      refine va_getN (D := D) (ci := 2) (v := .ref q0) (C := RX2) (T := TX2) (N := 6) hx hb htg hi_X2 hown hK hP 1 rfl rfl 0 (by decide) (hz_useF hz hn_74) (fun _ h9 => h9) rfl dX0_draw_37 ?_
      refine lv_aload_n hx hb dX0_draw_40 rfl (lv_at hl 2 rfl) ?_
      refine va_getN (D := D) (ci := 1) (v := .ref a3) (C := RX1) (T := TX1) (N := 7) hx hb htg hi_X1 hown hK hP 6 rfl rfl 2 (by decide) (hz_useF hz hn_33) (fun _ h9 => h9) rfl dX0_draw_41 ?_
      refine lv_iload_n hx hb dX0_draw_44 rfl (lv_at hl 0 rfl) ?_
      refine hw_iald hx hb hK hP 9 0 rfl rfl (j := p9) (by omega) (by first | decide | omega) (v := nI (fr p9)) ((hC.2.2 p9 (by omega)).1) dX0_draw_45 ?_
      refine hw_iald hx hb hK hP 2 0 rfl rfl (j := (fr p9)) (by omega) (by first | decide | omega) (v := nI (v (fr p9))) (hV (fr p9) (by first | assumption | omega)) dX0_draw_46 ?_
      refine lv_istore_n hx hb dX0_draw_47 rfl hl (by decide) rfl (fun ls hl => ?_)
      replace hl : lv_has ls 6 [(3, .int (nI (v (fr p9)))), (2, .int (nI p9)), (0, .ref k0), (1, .ref h)] := hl
      refine lv_aload_n hx hb dX0_draw_48 rfl (lv_at hl 2 rfl) ?_
      refine va_get (D := D) (ci := 0) (v := .ref g) (C := RX0) (T := TX0) (N := 2) hx hb htg hi_X0 hown hK hP 0 rfl rfl 0 (by decide) (htg _ hm_104) (fun _ h9 => h9) rfl dX0_draw_49 ?_
      refine va_getN (D := D) (ci := 2) (v := .ref q0) (C := RX2) (T := TX2) (N := 6) hx hb htg hi_X2 hown hK hP 1 rfl rfl 0 (by decide) (hz_useF hz hn_74) (fun _ h9 => h9) rfl dX0_draw_52 ?_
      refine lv_aload_n hx hb dX0_draw_55 rfl (lv_at hl 3 rfl) ?_
      refine va_getN (D := D) (ci := 1) (v := .ref a4) (C := RX1) (T := TX1) (N := 7) hx hb htg hi_X1 hown hK hP 6 rfl rfl 3 (by decide) (hz_useF hz hn_36) (fun _ h9 => h9) rfl dX0_draw_56 ?_
      refine lv_iload_n hx hb dX0_draw_59 rfl (lv_at hl 1 rfl) ?_
      refine hw_iald hx hb hK hP 10 0 rfl rfl (j := p9) (by omega) (by first | decide | omega) (v := nI (to p9)) ((hC.2.2 p9 (by omega)).2.2.1) dX0_draw_60 ?_
      refine hw_iald hx hb hK hP 2 0 rfl rfl (j := (to p9)) (by omega) (by first | decide | omega) (v := nI (v (to p9))) (hV (to p9) (by first | assumption | omega)) dX0_draw_61 ?_
      refine lv_istore hx hb dX0_draw_62 hl (by decide) rfl (fun ls hl => ?_)
      replace hl : lv_has ls 6 [(4, .int (nI (v (to p9)))), (3, .int (nI (v (fr p9)))), (2, .int (nI p9)), (0, .ref k0), (1, .ref h)] := hl
      refine lv_aload_n hx hb dX0_draw_64 rfl (lv_at hl 4 rfl) ?_
      refine va_getN (D := D) (ci := 1) (v := .ref a5) (C := RX1) (T := TX1) (N := 7) hx hb htg hi_X1 hown hK hP 6 rfl rfl 4 (by decide) (hz_useF hz hn_39) (fun _ h9 => h9) rfl dX0_draw_65 ?_
      refine lv_iload_n hx hb dX0_draw_68 rfl (lv_at hl 2 rfl) ?_
      refine hw_zald hx hb hK hP 11 1 rfl rfl (j := p9) (by omega) (by first | decide | omega) (v := hc_b (li p9)) ((hC.2.2 p9 (by omega)).2.2.2.2) dX0_draw_69 ?_
      refine hw_ifeq_b hx hb dX0_draw_70 rfl (fun hli => ?_) (fun hli => ?_)
      · refine lv_iconst (v := nI 0) hx hb dX0_draw_83 (by decide) ?_
        refine lv_istore hx hb dX0_draw_84 hl (by decide) rfl (fun ls hl => ?_)
        replace hl : lv_has ls 6 [(5, .int (nI 0)), (4, .int (nI (v (to p9)))), (3, .int (nI (v (fr p9)))), (2, .int (nI p9)), (0, .ref k0), (1, .ref h)] := hl
        refine lv_iload hx hb dX0_draw_86 (lv_at hl 0 rfl) ?_
        refine lv_if_ne hx hb dX0_draw_88 rfl (fun hc => absurd rfl hc) (fun hc => ?_)
        have hN : hc_N (fun p => v (fr p)) (fun p => v (to p)) li p9 := fun q => by rw [hli] at q; cases q
        refine lv_iload_n hx hb dX0_draw_91 rfl (lv_at hl 2 rfl) ?_
        refine lv_if_eq hx hb dX0_draw_92 rfl (fun hs0 => ?_) (fun hs0 => ?_)
        · refine lv_iconst (v := nI 0) hx hb dX0_draw_106 (by decide) ?_
          have hs9 : v (fr p9) = 0 := by have := nI_eq (a := v (fr p9)) (b := 0) (by omega) (by omega); rw [nI_0] at this; exact this.mp hs0
          exact W.zret (v := nI 0) hx hb hr (by decide +kernel) (fun t9 ht9 hW9 => ⟨⟨_, (E2, L2, B2, f2), rfl, ⟨Or.inr ⟨rfl, fun h9 => hd_no0 (p := p9) (by omega) hN hs9 h9.2⟩, fun h9 => absurd h9 (by decide)⟩, by show va_P D vwCl [(k0, .inr (0, [.ref g, .int nmC])), (g, .inr (2, [.ref q0, .int (nI 5), .ref q1, .ref q2, .ref q3, .int f2])), (q0, .inl (cI, 6, .inl V)), (q1, .inl (cI, 5 + 1, .inl E2)), (q2, .inl (cZ, 5 + 1, .inl L2)), (q3, .inl (cI, 5 + 1, .inl B2)), (h, .inr (1, [.ref a1, .ref a2, .ref a3, .ref a4, .ref a5, .int (nI n), .int nm])), (a1, .inl (cI, 6, .inl S)), (a2, .inl (cI, 6, .inl O)), (a3, .inl (cI, 5, .inl Fr)), (a4, .inl (cI, 5, .inl To)), (a5, .inl (cZ, 5, .inl Li))] t9.heap; rw [ht9]; exact hP⟩, hS.F ht9⟩) hS.2.2 dX0_draw_107
        · have hs9 : v (fr p9) ≠ 0 := fun q => hs0 (by rw [q]; rfl)
          refine lv_aload_n hx hb dX0_draw_95 rfl (lv_at hl 4 rfl) ?_
          refine va_get (D := D) (ci := 0) (v := .ref g) (C := RX0) (T := TX0) (N := 2) hx hb htg hi_X0 hown hK hP 0 rfl rfl 0 (by decide) (htg _ hm_104) (fun _ h9 => h9) rfl dX0_draw_96 ?_
          refine lv_iload_n hx hb dX0_draw_99 rfl (lv_at hl 2 rfl) ?_
          refine hw_csi (va_runV (C := RX2) (b := g) (As := [.int (nI (v (fr p9)))]) (rest := []) ⟨hx, hb, hml, hown, htg⟩ (k_X2_hasCell l D cI cZ cJ (v (fr p9)) 5 E2 L2 B2 nx lg bi f2 g q0 q1 q2 q3 (by omega) (by decide) hd.2.1) (cwV 1 htg (hg_V hm_157 hm_158 hm_159 hm_3 hm_160) rfl rfl rfl (by decide +kernel) ⟨Nat.le_of_ble_eq_true rfl, Nat.le_of_ble_eq_true rfl⟩) ⟨hp_R_blind, va_recv (q := (RX2, TX2, 6)) (q0 := 1) (ci := 2) hK hP rfl rfl, hp_R_pre (hP.sub (ws' := [(g, .inr (2, [.ref q0, .int (nI 5), .ref q1, .ref q2, .ref q3, .int f2])), (q1, .inl (cI, 5 + 1, .inl E2))]) [1, 3] rfl) hz⟩ rfl rfl hl.1 rfl (lv_room (Nat.le_of_ble_eq_true rfl)) dX0_draw_100 ⟨Nat.zero_le _, Nat.zero_le _⟩) (fun r hq2 => ?_)
          rcases hq2 with ⟨rfl, hq2⟩ | ⟨rfl, hq2⟩
          · refine lv_if_eq hx hb dX0_draw_103 rfl (fun hc => absurd hc (by decide)) (fun hc => ?_)
            refine lv_iconst (v := nI 0) hx hb dX0_draw_106 (by decide) ?_
            exact W.zret (v := nI 0) hx hb hr (by decide +kernel) (fun t9 ht9 hW9 => ⟨⟨_, (E2, L2, B2, f2), rfl, ⟨Or.inr ⟨rfl, fun h9 => hd_no1 hd (by omega) hN hq2 h9.2⟩, fun h9 => absurd h9 (by decide)⟩, by show va_P D vwCl [(k0, .inr (0, [.ref g, .int nmC])), (g, .inr (2, [.ref q0, .int (nI 5), .ref q1, .ref q2, .ref q3, .int f2])), (q0, .inl (cI, 6, .inl V)), (q1, .inl (cI, 5 + 1, .inl E2)), (q2, .inl (cZ, 5 + 1, .inl L2)), (q3, .inl (cI, 5 + 1, .inl B2)), (h, .inr (1, [.ref a1, .ref a2, .ref a3, .ref a4, .ref a5, .int (nI n), .int nm])), (a1, .inl (cI, 6, .inl S)), (a2, .inl (cI, 6, .inl O)), (a3, .inl (cI, 5, .inl Fr)), (a4, .inl (cI, 5, .inl To)), (a5, .inl (cZ, 5, .inl Li))] t9.heap; rw [ht9]; exact hP⟩, hS.F ht9⟩) hS.2.2 dX0_draw_107
          · refine lv_if_eq hx hb dX0_draw_103 rfl (fun hc => ?_) (fun hc => absurd rfl hc)
            refine lv_aload_n hx hb dX0_draw_108 rfl (lv_at hl 4 rfl) ?_
            refine va_get (D := D) (ci := 0) (v := .ref g) (C := RX0) (T := TX0) (N := 2) hx hb htg hi_X0 hown hK hP 0 rfl rfl 0 (by decide) (htg _ hm_104) (fun _ h9 => h9) rfl dX0_draw_109 ?_
            refine lv_iload_n hx hb dX0_draw_112 rfl (lv_at hl 2 rfl) ?_
            refine lv_iload hx hb dX0_draw_113 (lv_at hl 1 rfl) ?_
            refine lv_aload_n hx hb dX0_draw_115 rfl (lv_at hl 5 rfl) ?_
            refine va_getN (D := D) (ci := 1) (v := .ref a5) (C := RX1) (T := TX1) (N := 7) hx hb htg hi_X1 hown hK hP 6 rfl rfl 4 (by decide) (hz_useF hz hn_39) (fun _ h9 => h9) rfl dX0_draw_116 ?_
            refine lv_iload_n hx hb dX0_draw_119 rfl (lv_at hl 3 rfl) ?_
            refine hw_zald hx hb hK hP 11 1 rfl rfl (j := p9) (by omega) (by first | decide | omega) (v := hc_b (li p9)) ((hC.2.2 p9 (by omega)).2.2.2.2) dX0_draw_120 ?_
            refine lv_iconst (v := nI 1) hx hb dX0_draw_121 (by decide) ?_
            refine lv_iload_n hx hb dX0_draw_122 rfl (lv_at hl 3 rfl) ?_
            refine lv_ishl hx hb dX0_draw_123 ?_
            refine hv_callv (w1 := fun u : (Nat → Int32) × (Nat → Int32) × (Nat → Int32) × Int32 => [(g, .inr (2, [.ref q0, .int (nI 5), .ref q1, .ref q2, .ref q3, .int u.2.2.2])), (q1, .inl (cI, 5 + 1, .inl u.1)), (q2, .inl (cZ, 5 + 1, .inl u.2.1)), (q3, .inl (cI, 5 + 1, .inl u.2.2.1))]) (va_runV (C := RX2) (b := g) (As := [.int (nI (v (fr p9))), .int (nI (v (to p9))), .int (hc_b (li p9)), .int ((nI 1) <<< ((nI p9) &&& 31))]) (rest := []) ⟨hx, hb, hml, hown, htg⟩ (k_X2_setStretch l D cI cZ cJ _ (v (fr p9)) (nI (v (to p9))) (nI 1 <<< (nI p9 &&& 31)) (li p9) 5 E2 L2 B2 f2 g q0 q1 q2 q3 (by decide) (by omega)) (cwV 4 htg (hg_V hm_161 hm_162 hm_163 hm_3 hm_164) rfl rfl rfl (by decide +kernel) ⟨Nat.le_of_ble_eq_true rfl, Nat.le_of_ble_eq_true rfl⟩) ⟨hp_M_blind, va_recv (q := (RX2, TX2, 6)) (q0 := 1) (ci := 2) hK hP rfl rfl, hp_M_pre (hP.sub (ws' := [(g, .inr (2, [.ref q0, .int (nI 5), .ref q1, .ref q2, .ref q3, .int f2])), (q1, .inl (cI, 5 + 1, .inl E2)), (q2, .inl (cZ, 5 + 1, .inl L2)), (q3, .inl (cI, 5 + 1, .inl B2))]) [1, 3, 4, 5] rfl) (hD.sub (ws' := [(g, .inr (2, [.ref q0, .int (nI 5), .ref q1, .ref q2, .ref q3, .int f2])), (q1, .inl (cI, 5 + 1, .inl E2)), (q2, .inl (cZ, 5 + 1, .inl L2)), (q3, .inl (cI, 5 + 1, .inl B2))]) [1, 3, 4, 5] (by decide) rfl) hz⟩ rfl rfl hl.1 rfl (lv_room (Nat.le_of_ble_eq_true rfl)) dX0_draw_124 ⟨Nat.zero_le _, Nat.zero_le _⟩) hP hD hS hA [1, 3, 4, 5] rfl (fun _ => rfl) (fun u H locs hu hP hD hS => ?_)
            replace hP : va_P D vwCl [(k0, .inr (0, [.ref g, .int nmC])), (g, .inr (2, [.ref q0, .int (nI 5), .ref q1, .ref q2, .ref q3, .int u.2.2.2])), (q0, .inl (cI, 6, .inl V)), (q1, .inl (cI, 5 + 1, .inl u.1)), (q2, .inl (cZ, 5 + 1, .inl u.2.1)), (q3, .inl (cI, 5 + 1, .inl u.2.2.1)), (h, .inr (1, [.ref a1, .ref a2, .ref a3, .ref a4, .ref a5, .int (nI n), .int nm])), (a1, .inl (cI, 6, .inl S)), (a2, .inl (cI, 6, .inl O)), (a3, .inl (cI, 5, .inl Fr)), (a4, .inl (cI, 5, .inl To)), (a5, .inl (cZ, 5, .inl Li))] H := hP
            replace hD : va_D A [(k0, .inr (0, [.ref g, .int nmC])), (g, .inr (2, [.ref q0, .int (nI 5), .ref q1, .ref q2, .ref q3, .int u.2.2.2])), (q0, .inl (cI, 6, .inl V)), (q1, .inl (cI, 5 + 1, .inl u.1)), (q2, .inl (cZ, 5 + 1, .inl u.2.1)), (q3, .inl (cI, 5 + 1, .inl u.2.2.1)), (h, .inr (1, [.ref a1, .ref a2, .ref a3, .ref a4, .ref a5, .int (nI n), .int nm])), (a1, .inl (cI, 6, .inl S)), (a2, .inl (cI, 6, .inl O)), (a3, .inl (cI, 5, .inl Fr)), (a4, .inl (cI, 5, .inl To)), (a5, .inl (cZ, 5, .inl Li))] := hD
            obtain ⟨u1, u2, u3, u4⟩ := u
            obtain ⟨hu1, hu2, hu3, hu4⟩ := hu
            dsimp only at hu1 hu2 hu3 hu4
            subst hu1 hu2 hu3 hu4
            replace hP : va_P D vwCl [(k0, .inr (0, [.ref g, .int nmC])), (g, .inr (2, [.ref q0, .int (nI 5), .ref q1, .ref q2, .ref q3, .int (f2 ||| nI 1 <<< (nI p9 &&& 31))])), (q0, .inl (cI, 6, .inl V)), (q1, .inl (cI, 5 + 1, .inl (upd E2 (v (fr p9)) (nI (v (to p9)))))), (q2, .inl (cZ, 5 + 1, .inl (upd L2 (v (fr p9)) (hc_b (li p9))))), (q3, .inl (cI, 5 + 1, .inl (upd B2 (v (fr p9)) (nI 1 <<< (nI p9 &&& 31))))), (h, .inr (1, [.ref a1, .ref a2, .ref a3, .ref a4, .ref a5, .int (nI n), .int nm])), (a1, .inl (cI, 6, .inl S)), (a2, .inl (cI, 6, .inl O)), (a3, .inl (cI, 5, .inl Fr)), (a4, .inl (cI, 5, .inl To)), (a5, .inl (cZ, 5, .inl Li))] H := hP
            replace hD : va_D A [(k0, .inr (0, [.ref g, .int nmC])), (g, .inr (2, [.ref q0, .int (nI 5), .ref q1, .ref q2, .ref q3, .int (f2 ||| nI 1 <<< (nI p9 &&& 31))])), (q0, .inl (cI, 6, .inl V)), (q1, .inl (cI, 5 + 1, .inl (upd E2 (v (fr p9)) (nI (v (to p9)))))), (q2, .inl (cZ, 5 + 1, .inl (upd L2 (v (fr p9)) (hc_b (li p9))))), (q3, .inl (cI, 5 + 1, .inl (upd B2 (v (fr p9)) (nI 1 <<< (nI p9 &&& 31))))), (h, .inr (1, [.ref a1, .ref a2, .ref a3, .ref a4, .ref a5, .int (nI n), .int nm])), (a1, .inl (cI, 6, .inl S)), (a2, .inl (cI, 6, .inl O)), (a3, .inl (cI, 5, .inl Fr)), (a4, .inl (cI, 5, .inl To)), (a5, .inl (cZ, 5, .inl Li))] := hD
            refine lv_iinc (v := nI (p9 + 1)) (k := 3) hx hb dX0_draw_127 hl rfl (hw_inc _) (by decide) rfl (fun ls hl => ?_)
            replace hl : lv_has ls 6 [(2, .int (nI (p9 + 1))), (5, .int (nI 0)), (4, .int (nI (v (to p9)))), (3, .int (nI (v (fr p9)))), (0, .ref k0), (1, .ref h)] := hl
            refine lv_goto hx hb dX0_draw_130 rfl ?_
            replace hl : lv_has ls 6 [(2, .int (nI (p9 + 1))), (0, .ref k0), (1, .ref h)] := lv_sub hl [0, 4, 5] rfl
            refine ih (hS := hS) (hl := hl) (hP := hP) (hD := hD) (hd := (hd_set hd (by omega) hN hs9 (by show v (fr p9) ≤ 5; omega) (by show v (to p9) ≤ 5; omega) (Classical.not_not.mp hq2))) (hp9 := (by omega)) (hk := (by omega))
      · refine lv_iload_n hx hb dX0_draw_73 rfl (lv_at hl 1 rfl) ?_
        refine lv_iload hx hb dX0_draw_74 (lv_at hl 0 rfl) ?_
        refine hw_icmp_ne hx hb (by omega) (by omega) dX0_draw_76 rfl (fun hse => ?_) (fun hse => ?_)
        · refine lv_iconst (v := nI 0) hx hb dX0_draw_83 (by decide) ?_
          refine lv_istore hx hb dX0_draw_84 hl (by decide) rfl (fun ls hl => ?_)
          replace hl : lv_has ls 6 [(5, .int (nI 0)), (4, .int (nI (v (to p9)))), (3, .int (nI (v (fr p9)))), (2, .int (nI p9)), (0, .ref k0), (1, .ref h)] := hl
          refine lv_iload hx hb dX0_draw_86 (lv_at hl 0 rfl) ?_
          refine lv_if_ne hx hb dX0_draw_88 rfl (fun hc => absurd rfl hc) (fun hc => ?_)
          have hN : hc_N (fun p => v (fr p)) (fun p => v (to p)) li p9 := fun _ => hse
          refine lv_iload_n hx hb dX0_draw_91 rfl (lv_at hl 2 rfl) ?_
          refine lv_if_eq hx hb dX0_draw_92 rfl (fun hs0 => ?_) (fun hs0 => ?_)
          · refine lv_iconst (v := nI 0) hx hb dX0_draw_106 (by decide) ?_
            have hs9 : v (fr p9) = 0 := by have := nI_eq (a := v (fr p9)) (b := 0) (by omega) (by omega); rw [nI_0] at this; exact this.mp hs0
            exact W.zret (v := nI 0) hx hb hr (by decide +kernel) (fun t9 ht9 hW9 => ⟨⟨_, (E2, L2, B2, f2), rfl, ⟨Or.inr ⟨rfl, fun h9 => hd_no0 (p := p9) (by omega) hN hs9 h9.2⟩, fun h9 => absurd h9 (by decide)⟩, by show va_P D vwCl [(k0, .inr (0, [.ref g, .int nmC])), (g, .inr (2, [.ref q0, .int (nI 5), .ref q1, .ref q2, .ref q3, .int f2])), (q0, .inl (cI, 6, .inl V)), (q1, .inl (cI, 5 + 1, .inl E2)), (q2, .inl (cZ, 5 + 1, .inl L2)), (q3, .inl (cI, 5 + 1, .inl B2)), (h, .inr (1, [.ref a1, .ref a2, .ref a3, .ref a4, .ref a5, .int (nI n), .int nm])), (a1, .inl (cI, 6, .inl S)), (a2, .inl (cI, 6, .inl O)), (a3, .inl (cI, 5, .inl Fr)), (a4, .inl (cI, 5, .inl To)), (a5, .inl (cZ, 5, .inl Li))] t9.heap; rw [ht9]; exact hP⟩, hS.F ht9⟩) hS.2.2 dX0_draw_107
          · have hs9 : v (fr p9) ≠ 0 := fun q => hs0 (by rw [q]; rfl)
            refine lv_aload_n hx hb dX0_draw_95 rfl (lv_at hl 4 rfl) ?_
            refine va_get (D := D) (ci := 0) (v := .ref g) (C := RX0) (T := TX0) (N := 2) hx hb htg hi_X0 hown hK hP 0 rfl rfl 0 (by decide) (htg _ hm_104) (fun _ h9 => h9) rfl dX0_draw_96 ?_
            refine lv_iload_n hx hb dX0_draw_99 rfl (lv_at hl 2 rfl) ?_
            refine hw_csi (va_runV (C := RX2) (b := g) (As := [.int (nI (v (fr p9)))]) (rest := []) ⟨hx, hb, hml, hown, htg⟩ (k_X2_hasCell l D cI cZ cJ (v (fr p9)) 5 E2 L2 B2 nx lg bi f2 g q0 q1 q2 q3 (by omega) (by decide) hd.2.1) (cwV 1 htg (hg_V hm_157 hm_158 hm_159 hm_3 hm_160) rfl rfl rfl (by decide +kernel) ⟨Nat.le_of_ble_eq_true rfl, Nat.le_of_ble_eq_true rfl⟩) ⟨hp_R_blind, va_recv (q := (RX2, TX2, 6)) (q0 := 1) (ci := 2) hK hP rfl rfl, hp_R_pre (hP.sub (ws' := [(g, .inr (2, [.ref q0, .int (nI 5), .ref q1, .ref q2, .ref q3, .int f2])), (q1, .inl (cI, 5 + 1, .inl E2))]) [1, 3] rfl) hz⟩ rfl rfl hl.1 rfl (lv_room (Nat.le_of_ble_eq_true rfl)) dX0_draw_100 ⟨Nat.zero_le _, Nat.zero_le _⟩) (fun r hq2 => ?_)
            rcases hq2 with ⟨rfl, hq2⟩ | ⟨rfl, hq2⟩
            · refine lv_if_eq hx hb dX0_draw_103 rfl (fun hc => absurd hc (by decide)) (fun hc => ?_)
              refine lv_iconst (v := nI 0) hx hb dX0_draw_106 (by decide) ?_
              exact W.zret (v := nI 0) hx hb hr (by decide +kernel) (fun t9 ht9 hW9 => ⟨⟨_, (E2, L2, B2, f2), rfl, ⟨Or.inr ⟨rfl, fun h9 => hd_no1 hd (by omega) hN hq2 h9.2⟩, fun h9 => absurd h9 (by decide)⟩, by show va_P D vwCl [(k0, .inr (0, [.ref g, .int nmC])), (g, .inr (2, [.ref q0, .int (nI 5), .ref q1, .ref q2, .ref q3, .int f2])), (q0, .inl (cI, 6, .inl V)), (q1, .inl (cI, 5 + 1, .inl E2)), (q2, .inl (cZ, 5 + 1, .inl L2)), (q3, .inl (cI, 5 + 1, .inl B2)), (h, .inr (1, [.ref a1, .ref a2, .ref a3, .ref a4, .ref a5, .int (nI n), .int nm])), (a1, .inl (cI, 6, .inl S)), (a2, .inl (cI, 6, .inl O)), (a3, .inl (cI, 5, .inl Fr)), (a4, .inl (cI, 5, .inl To)), (a5, .inl (cZ, 5, .inl Li))] t9.heap; rw [ht9]; exact hP⟩, hS.F ht9⟩) hS.2.2 dX0_draw_107
            · refine lv_if_eq hx hb dX0_draw_103 rfl (fun hc => ?_) (fun hc => absurd rfl hc)
              refine lv_aload_n hx hb dX0_draw_108 rfl (lv_at hl 4 rfl) ?_
              refine va_get (D := D) (ci := 0) (v := .ref g) (C := RX0) (T := TX0) (N := 2) hx hb htg hi_X0 hown hK hP 0 rfl rfl 0 (by decide) (htg _ hm_104) (fun _ h9 => h9) rfl dX0_draw_109 ?_
              refine lv_iload_n hx hb dX0_draw_112 rfl (lv_at hl 2 rfl) ?_
              refine lv_iload hx hb dX0_draw_113 (lv_at hl 1 rfl) ?_
              refine lv_aload_n hx hb dX0_draw_115 rfl (lv_at hl 5 rfl) ?_
              refine va_getN (D := D) (ci := 1) (v := .ref a5) (C := RX1) (T := TX1) (N := 7) hx hb htg hi_X1 hown hK hP 6 rfl rfl 4 (by decide) (hz_useF hz hn_39) (fun _ h9 => h9) rfl dX0_draw_116 ?_
              refine lv_iload_n hx hb dX0_draw_119 rfl (lv_at hl 3 rfl) ?_
              refine hw_zald hx hb hK hP 11 1 rfl rfl (j := p9) (by omega) (by first | decide | omega) (v := hc_b (li p9)) ((hC.2.2 p9 (by omega)).2.2.2.2) dX0_draw_120 ?_
              refine lv_iconst (v := nI 1) hx hb dX0_draw_121 (by decide) ?_
              refine lv_iload_n hx hb dX0_draw_122 rfl (lv_at hl 3 rfl) ?_
              refine lv_ishl hx hb dX0_draw_123 ?_
              refine hv_callv (w1 := fun u : (Nat → Int32) × (Nat → Int32) × (Nat → Int32) × Int32 => [(g, .inr (2, [.ref q0, .int (nI 5), .ref q1, .ref q2, .ref q3, .int u.2.2.2])), (q1, .inl (cI, 5 + 1, .inl u.1)), (q2, .inl (cZ, 5 + 1, .inl u.2.1)), (q3, .inl (cI, 5 + 1, .inl u.2.2.1))]) (va_runV (C := RX2) (b := g) (As := [.int (nI (v (fr p9))), .int (nI (v (to p9))), .int (hc_b (li p9)), .int ((nI 1) <<< ((nI p9) &&& 31))]) (rest := []) ⟨hx, hb, hml, hown, htg⟩ (k_X2_setStretch l D cI cZ cJ _ (v (fr p9)) (nI (v (to p9))) (nI 1 <<< (nI p9 &&& 31)) (li p9) 5 E2 L2 B2 f2 g q0 q1 q2 q3 (by decide) (by omega)) (cwV 4 htg (hg_V hm_161 hm_162 hm_163 hm_3 hm_164) rfl rfl rfl (by decide +kernel) ⟨Nat.le_of_ble_eq_true rfl, Nat.le_of_ble_eq_true rfl⟩) ⟨hp_M_blind, va_recv (q := (RX2, TX2, 6)) (q0 := 1) (ci := 2) hK hP rfl rfl, hp_M_pre (hP.sub (ws' := [(g, .inr (2, [.ref q0, .int (nI 5), .ref q1, .ref q2, .ref q3, .int f2])), (q1, .inl (cI, 5 + 1, .inl E2)), (q2, .inl (cZ, 5 + 1, .inl L2)), (q3, .inl (cI, 5 + 1, .inl B2))]) [1, 3, 4, 5] rfl) (hD.sub (ws' := [(g, .inr (2, [.ref q0, .int (nI 5), .ref q1, .ref q2, .ref q3, .int f2])), (q1, .inl (cI, 5 + 1, .inl E2)), (q2, .inl (cZ, 5 + 1, .inl L2)), (q3, .inl (cI, 5 + 1, .inl B2))]) [1, 3, 4, 5] (by decide) rfl) hz⟩ rfl rfl hl.1 rfl (lv_room (Nat.le_of_ble_eq_true rfl)) dX0_draw_124 ⟨Nat.zero_le _, Nat.zero_le _⟩) hP hD hS hA [1, 3, 4, 5] rfl (fun _ => rfl) (fun u H locs hu hP hD hS => ?_)
              replace hP : va_P D vwCl [(k0, .inr (0, [.ref g, .int nmC])), (g, .inr (2, [.ref q0, .int (nI 5), .ref q1, .ref q2, .ref q3, .int u.2.2.2])), (q0, .inl (cI, 6, .inl V)), (q1, .inl (cI, 5 + 1, .inl u.1)), (q2, .inl (cZ, 5 + 1, .inl u.2.1)), (q3, .inl (cI, 5 + 1, .inl u.2.2.1)), (h, .inr (1, [.ref a1, .ref a2, .ref a3, .ref a4, .ref a5, .int (nI n), .int nm])), (a1, .inl (cI, 6, .inl S)), (a2, .inl (cI, 6, .inl O)), (a3, .inl (cI, 5, .inl Fr)), (a4, .inl (cI, 5, .inl To)), (a5, .inl (cZ, 5, .inl Li))] H := hP
              replace hD : va_D A [(k0, .inr (0, [.ref g, .int nmC])), (g, .inr (2, [.ref q0, .int (nI 5), .ref q1, .ref q2, .ref q3, .int u.2.2.2])), (q0, .inl (cI, 6, .inl V)), (q1, .inl (cI, 5 + 1, .inl u.1)), (q2, .inl (cZ, 5 + 1, .inl u.2.1)), (q3, .inl (cI, 5 + 1, .inl u.2.2.1)), (h, .inr (1, [.ref a1, .ref a2, .ref a3, .ref a4, .ref a5, .int (nI n), .int nm])), (a1, .inl (cI, 6, .inl S)), (a2, .inl (cI, 6, .inl O)), (a3, .inl (cI, 5, .inl Fr)), (a4, .inl (cI, 5, .inl To)), (a5, .inl (cZ, 5, .inl Li))] := hD
              obtain ⟨u1, u2, u3, u4⟩ := u
              obtain ⟨hu1, hu2, hu3, hu4⟩ := hu
              dsimp only at hu1 hu2 hu3 hu4
              subst hu1 hu2 hu3 hu4
              replace hP : va_P D vwCl [(k0, .inr (0, [.ref g, .int nmC])), (g, .inr (2, [.ref q0, .int (nI 5), .ref q1, .ref q2, .ref q3, .int (f2 ||| nI 1 <<< (nI p9 &&& 31))])), (q0, .inl (cI, 6, .inl V)), (q1, .inl (cI, 5 + 1, .inl (upd E2 (v (fr p9)) (nI (v (to p9)))))), (q2, .inl (cZ, 5 + 1, .inl (upd L2 (v (fr p9)) (hc_b (li p9))))), (q3, .inl (cI, 5 + 1, .inl (upd B2 (v (fr p9)) (nI 1 <<< (nI p9 &&& 31))))), (h, .inr (1, [.ref a1, .ref a2, .ref a3, .ref a4, .ref a5, .int (nI n), .int nm])), (a1, .inl (cI, 6, .inl S)), (a2, .inl (cI, 6, .inl O)), (a3, .inl (cI, 5, .inl Fr)), (a4, .inl (cI, 5, .inl To)), (a5, .inl (cZ, 5, .inl Li))] H := hP
              replace hD : va_D A [(k0, .inr (0, [.ref g, .int nmC])), (g, .inr (2, [.ref q0, .int (nI 5), .ref q1, .ref q2, .ref q3, .int (f2 ||| nI 1 <<< (nI p9 &&& 31))])), (q0, .inl (cI, 6, .inl V)), (q1, .inl (cI, 5 + 1, .inl (upd E2 (v (fr p9)) (nI (v (to p9)))))), (q2, .inl (cZ, 5 + 1, .inl (upd L2 (v (fr p9)) (hc_b (li p9))))), (q3, .inl (cI, 5 + 1, .inl (upd B2 (v (fr p9)) (nI 1 <<< (nI p9 &&& 31))))), (h, .inr (1, [.ref a1, .ref a2, .ref a3, .ref a4, .ref a5, .int (nI n), .int nm])), (a1, .inl (cI, 6, .inl S)), (a2, .inl (cI, 6, .inl O)), (a3, .inl (cI, 5, .inl Fr)), (a4, .inl (cI, 5, .inl To)), (a5, .inl (cZ, 5, .inl Li))] := hD
              refine lv_iinc (v := nI (p9 + 1)) (k := 3) hx hb dX0_draw_127 hl rfl (hw_inc _) (by decide) rfl (fun ls hl => ?_)
              replace hl : lv_has ls 6 [(2, .int (nI (p9 + 1))), (5, .int (nI 0)), (4, .int (nI (v (to p9)))), (3, .int (nI (v (fr p9)))), (0, .ref k0), (1, .ref h)] := hl
              refine lv_goto hx hb dX0_draw_130 rfl ?_
              replace hl : lv_has ls 6 [(2, .int (nI (p9 + 1))), (0, .ref k0), (1, .ref h)] := lv_sub hl [0, 4, 5] rfl
              refine ih (hS := hS) (hl := hl) (hP := hP) (hD := hD) (hd := (hd_set hd (by omega) hN hs9 (by show v (fr p9) ≤ 5; omega) (by show v (to p9) ≤ 5; omega) (Classical.not_not.mp hq2))) (hp9 := (by omega)) (hk := (by omega))
        · refine lv_iconst (v := nI 1) hx hb dX0_draw_79 (by decide) ?_
          refine lv_goto hx hb dX0_draw_80 rfl ?_
          refine lv_istore hx hb dX0_draw_84 hl (by decide) rfl (fun ls hl => ?_)
          replace hl : lv_has ls 6 [(5, .int (nI 1)), (4, .int (nI (v (to p9)))), (3, .int (nI (v (fr p9)))), (2, .int (nI p9)), (0, .ref k0), (1, .ref h)] := hl
          refine lv_iload hx hb dX0_draw_86 (lv_at hl 0 rfl) ?_
          refine lv_if_ne hx hb dX0_draw_88 rfl (fun hc => ?_) (fun hc => absurd hc (by decide))
          refine lv_iinc (v := nI (p9 + 1)) (k := 3) hx hb dX0_draw_127 hl rfl (hw_inc _) (by decide) rfl (fun ls hl => ?_)
          replace hl : lv_has ls 6 [(2, .int (nI (p9 + 1))), (5, .int (nI 1)), (4, .int (nI (v (to p9)))), (3, .int (nI (v (fr p9)))), (0, .ref k0), (1, .ref h)] := hl
          refine lv_goto hx hb dX0_draw_130 rfl ?_
          replace hl : lv_has ls 6 [(2, .int (nI (p9 + 1))), (0, .ref k0), (1, .ref h)] := lv_sub hl [0, 4, 5] rfl
          refine ih (hS := hS) (hl := hl) (hP := hP) (hD := hD) (hd := (hd_skip hd (fun h9 => h9 hli hse))) (hp9 := (by omega)) (hk := (by omega))
  · refine lv_if_ne hx hb dX0_draw_11 rfl (fun hc => absurd rfl hc) (fun hc => ?_)
    refine lv_iconst (v := nI 0) hx hb dX0_draw_14 (by decide) ?_
    exact W.zret (v := nI 0) hx hb hr (by decide +kernel) (fun t9 ht9 hW9 => ⟨⟨_, (EN, LG, BI, fl), rfl, ⟨Or.inr ⟨rfl, fun h9 => hq h9.1⟩, fun h9 => absurd h9 (by decide)⟩, by show va_P D vwCl [(k0, .inr (0, [.ref g, .int nmC])), (g, .inr (2, [.ref q0, .int (nI 5), .ref q1, .ref q2, .ref q3, .int fl])), (q0, .inl (cI, 6, .inl V)), (q1, .inl (cI, 5 + 1, .inl EN)), (q2, .inl (cZ, 5 + 1, .inl LG)), (q3, .inl (cI, 5 + 1, .inl BI)), (h, .inr (1, [.ref a1, .ref a2, .ref a3, .ref a4, .ref a5, .int (nI n), .int nm])), (a1, .inl (cI, 6, .inl S)), (a2, .inl (cI, 6, .inl O)), (a3, .inl (cI, 5, .inl Fr)), (a4, .inl (cI, 5, .inl To)), (a5, .inl (cZ, 5, .inl Li))] t9.heap; rw [ht9]; exact hP⟩, hS.F ht9⟩) hS.2.2 dX0_draw_15
