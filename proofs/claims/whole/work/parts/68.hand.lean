set_option maxHeartbeats 4000000 in
set_option maxRecDepth 100000 in
/-- a term's value -/
theorem k_X4_valueOf (l : Launch) (D : va_G) (cI cZ cJ : ClassId) (Va Ha : Nat → Int32) (VA : Nat → Nat) (HA : Nat → Option Nat) (t : Nat) (cd md o1 o2 mo : Int32) (y0 y1 y2 y3 y4 y5 y6 y7 y8 y9 ya yb yc yd ye yf yg yh : Nat) (hH : hr_h Va Ha VA HA) (ht : t < 6) : Met l yX4_valueOf (Cond.code yX4_valueOf cX4_valueOf 2 (some .int) :: hwG) { frames := 0, cells := 0, slots := 0, locals := 0 } (hp_R [.ref y0, .int (nI t)] D cI cZ cJ [(y0, .inr (4, [.int cd, .ref y1, .ref y2, .ref y3, .ref y4, .ref y5, .ref y6, .ref y7, .ref y8, .ref y9, .ref ya, .ref yb, .ref yc, .ref yd, .ref ye, .int md, .int o1, .int o2, .int mo, .ref yf, .ref yg, .ref yh])), (yf, .inl (cI, 5, .inl Va))]) (vp_Si (fun r => r = nI (VA t))) 0 0 (fun _ => False) := by
  refine Met.ofW (cc := cX4_valueOf) (maxL := 2) (ret := (some .int)) (by decide) rfl ?_
  intro p e s m args below meth c s₁ B hml hv
  obtain ⟨rfl, hP, hz⟩ := hv
  have hx := B.exec
  have hb := B.bytes
  have hr := B.returns
  have hts := atoms_spec (ws := (Cond.code yX4_valueOf cX4_valueOf 2 (some .int) :: hwG)) B.pre
  have htg := fun w h => hts w (List.mem_cons_of_mem _ h)
  have hown : s.vm.findClass RX4 = some m.cls := findClass_of_methodNamed B.named
  have hlocks := B.notSynchronized
  have hK := hz.1
  have hl := lv_entry ([.ref y0, .int (nI t)]) (n := 2) (Nat.le_of_ble_eq_true rfl)
  rw [lg_entry_eq]
  generalize (lg_sl ([.ref y0, .int (nI t)]) ++ List.replicate (2 - (lg_sl ([.ref y0, .int (nI t)])).length) Slot.unset).toArray = ls at hl ⊢
  replace hl : lv_has ls 2 [(0, .ref y0), (1, .int (nI t))] := hl
  refine lv_iload_n hx hb dX4_valueOf_0 rfl (lv_at hl 1 rfl) ?_
  refine lv_iconst (v := nI 5) hx hb dX4_valueOf_1 (by decide) ?_
  refine hw_icmp_ne hx hb (by omega) (by omega) dX4_valueOf_2 rfl (fun h1 => ?_) (fun h1 => ?_)
  · refine lv_aload_n hx hb dX4_valueOf_9 rfl (lv_at hl 0 rfl) ?_
    refine va_get (D := D) (ci := 4) (v := .ref yf) (C := RX4) (T := TX4) (N := 22) hx hb htg hi_X4 hown hK hP 0 rfl rfl 19 (by decide) (htg _ hm_515) (fun _ h9 => h9) rfl dX4_valueOf_10 ?_
    refine lv_iload_n hx hb dX4_valueOf_13 rfl (lv_at hl 1 rfl) ?_
    refine hw_iald hx hb hK hP 1 0 rfl rfl (j := t) (by omega) (by first | decide | omega) (v := nI (VA t)) ((hH.2.1 t (by omega)).1) dX4_valueOf_14 ?_
    exact W.iret (v := nI (VA t)) hx hb hr (fun t9 ht9 hW9 => ⟨_, rfl, rfl, ht9⟩) (fun _ h => nomatch h) dX4_valueOf_15
  · refine lv_iconst (v := nI 0) hx hb dX4_valueOf_5 (by decide) ?_
    refine lv_goto hx hb dX4_valueOf_6 rfl ?_
    exact W.iret (v := nI 0) hx hb hr (fun t9 ht9 hW9 => ⟨_, rfl, by rw [h1, hH.1], ht9⟩) (fun _ h => nomatch h) dX4_valueOf_15

set_option maxHeartbeats 4000000 in
set_option maxRecDepth 100000 in
/-- a piece takes cells of the state -/
theorem k_X4_takesAtHand (l : Launch) (D : va_G) (cI cZ cJ : ClassId) (sz : Nat) (Sa Oa My Fa Ta La : Nat → Int32) (SA OA : Nat → Bool) (MA FA TA : Nat → Nat) (LA : Nat → Bool) (Va Ha : Nat → Int32) (VA : Nat → Nat) (HA : Nat → Option Nat) (Ua : Nat → Int32) (T : Nat → Bool) (px : Nat) (cd md o1 o2 mo : Int32) (y0 y1 y2 y3 y4 y5 y6 y7 y8 y9 ya yb yc yd ye yf yg yh : Nat) (hM : hr_m Sa Oa My Fa Ta La SA OA MA FA TA LA) (hH : hr_h Va Ha VA HA) (hT : ∀ j, j < 10 → Ua j = hc_b (T j)) (hp : px < 10) : Met l yX4_takesAtHand (Cond.code yX4_takesAtHand cX4_takesAtHand 5 (some .boolean) :: hwG) { frames := 1, cells := 0, slots := 0, locals := 21 } (hp_M [.ref y0, .int (nI px)] D cI cZ cJ [(y0, .inr (4, [.int cd, .ref y1, .ref y2, .ref y3, .ref y4, .ref y5, .ref y6, .ref y7, .ref y8, .ref y9, .ref ya, .ref yb, .ref yc, .ref yd, .ref ye, .int md, .int o1, .int o2, .int mo, .ref yf, .ref yg, .ref yh])), (y4, .inl (cI, 10, .inl Fa)), (y5, .inl (cI, 10, .inl Ta)), (y6, .inl (cZ, 10, .inl La)), (yf, .inl (cI, 5, .inl Va)), (yg, .inl (cI, 10, .inl Ha)), (yh, .inl (cZ, 10, .inl Ua))] sz) (va_Qi (S := Nat → Int32) (fun r u => (r = nI 1 ∧ ∃ (l : List Nat) (T2 : Nat → Bool), hc_pp HA (fun _ => false) (VA (FA px)) (VA (TA px)) (LA px) l ∧ (∀ a, a ∈ l → T a = false) ∧ (∀ j, j < 10 → u j = hc_b (T2 j)) ∧ ∀ j, T2 j = (T j || decide (j ∈ l))) ∨ (r = nI 0 ∧ ¬ ∃ l, hc_pp HA (fun _ => false) (VA (FA px)) (VA (TA px)) (LA px) l ∧ ∀ a, a ∈ l → T a = false)) (fun u t => va_P D vwCl ([(y0, .inr (4, [.int cd, .ref y1, .ref y2, .ref y3, .ref y4, .ref y5, .ref y6, .ref y7, .ref y8, .ref y9, .ref ya, .ref yb, .ref yc, .ref yd, .ref ye, .int md, .int o1, .int o2, .int mo, .ref yf, .ref yg, .ref yh])), (y4, .inl (cI, 10, .inl Fa)), (y5, .inl (cI, 10, .inl Ta)), (y6, .inl (cZ, 10, .inl La)), (yf, .inl (cI, 5, .inl Va)), (yg, .inl (cI, 10, .inl Ha)), (yh, .inl (cZ, 10, .inl u))]) t.heap) (va_A [(y0, .inr (4, [.int cd, .ref y1, .ref y2, .ref y3, .ref y4, .ref y5, .ref y6, .ref y7, .ref y8, .ref y9, .ref ya, .ref yb, .ref yc, .ref yd, .ref ye, .int md, .int o1, .int o2, .int mo, .ref yf, .ref yg, .ref yh])), (y4, .inl (cI, 10, .inl Fa)), (y5, .inl (cI, 10, .inl Ta)), (y6, .inl (cZ, 10, .inl La)), (yf, .inl (cI, 5, .inl Va)), (yg, .inl (cI, 10, .inl Ha)), (yh, .inl (cZ, 10, .inl Ua))] sz)) 0 0 (va_A [(y0, .inr (4, [.int cd, .ref y1, .ref y2, .ref y3, .ref y4, .ref y5, .ref y6, .ref y7, .ref y8, .ref y9, .ref ya, .ref yb, .ref yc, .ref yd, .ref ye, .int md, .int o1, .int o2, .int mo, .ref yf, .ref yg, .ref yh])), (y4, .inl (cI, 10, .inl Fa)), (y5, .inl (cI, 10, .inl Ta)), (y6, .inl (cZ, 10, .inl La)), (yf, .inl (cI, 5, .inl Va)), (yg, .inl (cI, 10, .inl Ha)), (yh, .inl (cZ, 10, .inl Ua))] sz) := by
  refine Met.ofW (cc := cX4_takesAtHand) (maxL := 5) (ret := (some .boolean)) (by decide) rfl ?_
  intro p e s m args below meth c s₁ B hml hv
  obtain ⟨rfl, hsz, hP, hz, hD0⟩ := hv
  have hx := B.exec
  have hb := B.bytes
  have hr := B.returns
  have hts := atoms_spec (ws := (Cond.code yX4_takesAtHand cX4_takesAtHand 5 (some .boolean) :: hwG)) B.pre
  have htg := fun w h => hts w (List.mem_cons_of_mem _ h)
  have hown : s.vm.findClass RX4 = some m.cls := findClass_of_methodNamed B.named
  have hlocks := B.notSynchronized
  have hK := hz.1
  subst hsz
  have hD := hD0.self (sz := s.heap.size)
  generalize hAe : va_A [(y0, .inr (4, [.int cd, .ref y1, .ref y2, .ref y3, .ref y4, .ref y5, .ref y6, .ref y7, .ref y8, .ref y9, .ref ya, .ref yb, .ref yc, .ref yd, .ref ye, .int md, .int o1, .int o2, .int mo, .ref yf, .ref yg, .ref yh])), (y4, .inl (cI, 10, .inl Fa)), (y5, .inl (cI, 10, .inl Ta)), (y6, .inl (cZ, 10, .inl La)), (yf, .inl (cI, 5, .inl Va)), (yg, .inl (cI, 10, .inl Ha)), (yh, .inl (cZ, 10, .inl Ua))] s.heap.size = A at hD ⊢
  have hA : ∀ q : Nat, s.heap.size ≤ q → A q := fun q h => by rw [← hAe]; exact Or.inr h
  have hS : va_S A s.heap s.heap [] := va_S.rf
  have hl := lv_entry ([.ref y0, .int (nI px)]) (n := 5) (Nat.le_of_ble_eq_true rfl)
  rw [lg_entry_eq]
  generalize (lg_sl ([.ref y0, .int (nI px)]) ++ List.replicate (5 - (lg_sl ([.ref y0, .int (nI px)])).length) Slot.unset).toArray = ls at hl ⊢
  replace hl : lv_has ls 5 [(0, .ref y0), (1, .int (nI px))] := hl
  replace hP : va_P D vwCl [(y0, .inr (4, [.int cd, .ref y1, .ref y2, .ref y3, .ref y4, .ref y5, .ref y6, .ref y7, .ref y8, .ref y9, .ref ya, .ref yb, .ref yc, .ref yd, .ref ye, .int md, .int o1, .int o2, .int mo, .ref yf, .ref yg, .ref yh])), (y4, .inl (cI, 10, .inl Fa)), (y5, .inl (cI, 10, .inl Ta)), (y6, .inl (cZ, 10, .inl La)), (yf, .inl (cI, 5, .inl Va)), (yg, .inl (cI, 10, .inl Ha)), (yh, .inl (cZ, 10, .inl Ua))] s.heap := hP
  obtain ⟨f1, f2, f3, f4, f5⟩ := hM.2.2 px hp
  have hvf := hr_v6 hH _ f2
  have hvt := hr_v6 hH _ f4
  refine lv_aload_n hx hb dX4_takesAtHand_0 rfl (lv_at hl 0 rfl) ?_
  refine lv_aload_n hx hb dX4_takesAtHand_1 rfl (lv_at hl 0 rfl) ?_
  refine va_get (D := D) (ci := 4) (v := .ref y4) (C := RX4) (T := TX4) (N := 22) hx hb htg hi_X4 hown hK hP 0 rfl rfl 4 (by decide) (htg _ hm_500) (fun _ h9 => h9) rfl dX4_takesAtHand_2 ?_
  refine lv_iload_n hx hb dX4_takesAtHand_5 rfl (lv_at hl 1 rfl) ?_
  refine hw_iald hx hb hK hP 1 0 rfl rfl (j := px) (by omega) (by first | decide | omega) (v := nI (FA px)) ((hM.2.2 px (by omega)).1) dX4_takesAtHand_6 ?_
  refine hw_csi (va_runV (C := RX4) (b := y0) (As := [.int (nI (FA px))]) (rest := []) ⟨hx, hb, hml, hown, htg⟩ (k_X4_valueOf l D cI cZ cJ Va Ha VA HA (FA px) cd md o1 o2 mo y0 y1 y2 y3 y4 y5 y6 y7 y8 y9 ya yb yc yd ye yf yg yh hH f2) (cwV 1 htg (hg_V hm_672 hm_674 hs_yX4_valueOf hm_6 hm_675) rfl rfl rfl (by decide +kernel) ⟨Nat.le_of_ble_eq_true rfl, Nat.le_of_ble_eq_true rfl⟩) ⟨hp_R_blind, va_recv (q := (RX4, TX4, 22)) (q0 := 0) (ci := 4) hK hP rfl rfl, hp_R_pre (hP.sub (ws' := [(y0, .inr (4, [.int cd, .ref y1, .ref y2, .ref y3, .ref y4, .ref y5, .ref y6, .ref y7, .ref y8, .ref y9, .ref ya, .ref yb, .ref yc, .ref yd, .ref ye, .int md, .int o1, .int o2, .int mo, .ref yf, .ref yg, .ref yh])), (yf, .inl (cI, 5, .inl Va))]) [0, 4] rfl) hz⟩ rfl rfl hl.1 rfl (lv_room (Nat.le_of_ble_eq_true rfl)) dX4_takesAtHand_7 ⟨Nat.zero_le _, Nat.zero_le _⟩) (fun r9 hv9 => ?_)
  subst hv9
  refine lv_istore_n hx hb dX4_takesAtHand_10 rfl hl (by decide) rfl (fun ls hl => ?_)
  replace hl : lv_has ls 5 [(2, .int (nI (VA (FA px)))), (0, .ref y0), (1, .int (nI px))] := hl
  refine lv_aload_n hx hb dX4_takesAtHand_11 rfl (lv_at hl 1 rfl) ?_
  refine lv_aload_n hx hb dX4_takesAtHand_12 rfl (lv_at hl 1 rfl) ?_
  refine va_get (D := D) (ci := 4) (v := .ref y5) (C := RX4) (T := TX4) (N := 22) hx hb htg hi_X4 hown hK hP 0 rfl rfl 5 (by decide) (htg _ hm_501) (fun _ h9 => h9) rfl dX4_takesAtHand_13 ?_
  refine lv_iload_n hx hb dX4_takesAtHand_16 rfl (lv_at hl 2 rfl) ?_
  refine hw_iald hx hb hK hP 2 0 rfl rfl (j := px) (by omega) (by first | decide | omega) (v := nI (TA px)) ((hM.2.2 px (by omega)).2.2.1) dX4_takesAtHand_17 ?_
  refine hw_csi (va_runV (C := RX4) (b := y0) (As := [.int (nI (TA px))]) (rest := []) ⟨hx, hb, hml, hown, htg⟩ (k_X4_valueOf l D cI cZ cJ Va Ha VA HA (TA px) cd md o1 o2 mo y0 y1 y2 y3 y4 y5 y6 y7 y8 y9 ya yb yc yd ye yf yg yh hH f4) (cwV 1 htg (hg_V hm_672 hm_674 hs_yX4_valueOf hm_6 hm_675) rfl rfl rfl (by decide +kernel) ⟨Nat.le_of_ble_eq_true rfl, Nat.le_of_ble_eq_true rfl⟩) ⟨hp_R_blind, va_recv (q := (RX4, TX4, 22)) (q0 := 0) (ci := 4) hK hP rfl rfl, hp_R_pre (hP.sub (ws' := [(y0, .inr (4, [.int cd, .ref y1, .ref y2, .ref y3, .ref y4, .ref y5, .ref y6, .ref y7, .ref y8, .ref y9, .ref ya, .ref yb, .ref yc, .ref yd, .ref ye, .int md, .int o1, .int o2, .int mo, .ref yf, .ref yg, .ref yh])), (yf, .inl (cI, 5, .inl Va))]) [0, 4] rfl) hz⟩ rfl rfl hl.1 rfl (lv_room (Nat.le_of_ble_eq_true rfl)) dX4_takesAtHand_18 ⟨Nat.zero_le _, Nat.zero_le _⟩) (fun r9 hv9 => ?_)
  subst hv9
  refine lv_istore_n hx hb dX4_takesAtHand_21 rfl hl (by decide) rfl (fun ls hl => ?_)
  replace hl : lv_has ls 5 [(3, .int (nI (VA (TA px)))), (2, .int (nI (VA (FA px)))), (0, .ref y0), (1, .int (nI px))] := hl
  refine lv_iconst (v := nI 1) hx hb dX4_takesAtHand_22 (by decide) ?_
  refine lv_istore hx hb dX4_takesAtHand_23 hl (by decide) rfl (fun ls hl => ?_)
  replace hl : lv_has ls 5 [(4, .int (nI 1)), (3, .int (nI (VA (TA px)))), (2, .int (nI (VA (FA px)))), (0, .ref y0), (1, .int (nI px))] := hl
  obtain ⟨H, e_H⟩ : ∃ z : Heap, z = s.heap := ⟨_, rfl⟩
  obtain ⟨locs, e_locs⟩ : ∃ z : List Loc, z = [] := ⟨_, rfl⟩
  replace hP : va_P D vwCl [(y0, .inr (4, [.int cd, .ref y1, .ref y2, .ref y3, .ref y4, .ref y5, .ref y6, .ref y7, .ref y8, .ref y9, .ref ya, .ref yb, .ref yc, .ref yd, .ref ye, .int md, .int o1, .int o2, .int mo, .ref yf, .ref yg, .ref yh])), (y4, .inl (cI, 10, .inl Fa)), (y5, .inl (cI, 10, .inl Ta)), (y6, .inl (cZ, 10, .inl La)), (yf, .inl (cI, 5, .inl Va)), (yg, .inl (cI, 10, .inl Ha)), (yh, .inl (cZ, 10, .inl Ua))] H := by subst e_H; exact hP
  replace hS : va_S A s.heap H locs := by subst e_H e_locs; exact hS
  rw [← e_H, ← e_locs]
  clear e_H e_locs
  cases hI : LA px with
  | false =>
    refine lv_aload_n hx hb dX4_takesAtHand_25 rfl (lv_at hl 3 rfl) ?_
    refine va_get (D := D) (ci := 4) (v := .ref y6) (C := RX4) (T := TX4) (N := 22) hx hb htg hi_X4 hown hK hP 0 rfl rfl 6 (by decide) (htg _ hm_502) (fun _ h9 => h9) rfl dX4_takesAtHand_26 ?_
    refine lv_iload_n hx hb dX4_takesAtHand_29 rfl (lv_at hl 4 rfl) ?_
    refine hw_zald hx hb hK hP 3 1 rfl rfl (j := px) (by omega) (by first | decide | omega) (v := hc_b false) (by rw [f5, hI]) dX4_takesAtHand_30 ?_
    refine hw_ifeq_b hx hb dX4_takesAtHand_31 rfl (fun hc9 => ?_) (fun hc9 => absurd hc9 (by decide))
    refine lv_iload hx hb dX4_takesAtHand_42 (lv_at hl 0 rfl) ?_
    refine lv_if_eq hx hb dX4_takesAtHand_44 rfl (fun hc9 => absurd hc9 (by decide)) (fun hc9 => ?_)
    cases hn : HA (VA (FA px)) with
    | none =>
      refine lv_aload_n hx hb dX4_takesAtHand_47 rfl (lv_at hl 3 rfl) ?_
      refine va_get (D := D) (ci := 4) (v := .ref yg) (C := RX4) (T := TX4) (N := 22) hx hb htg hi_X4 hown hK hP 0 rfl rfl 20 (by decide) (htg _ hm_516) (fun _ h9 => h9) rfl dX4_takesAtHand_48 ?_
      refine lv_iload_n hx hb dX4_takesAtHand_51 rfl (lv_at hl 2 rfl) ?_
      refine hw_iald hx hb hK hP 5 0 rfl rfl (j := (VA (FA px))) (by omega) (by first | decide | omega) (v := -1) ((hH.2.2.2 _ (by omega)).1 hn) dX4_takesAtHand_52 ?_
      refine lv_if_lt hx hb dX4_takesAtHand_53 rfl (fun hc9 => ?_) (fun hc9 => absurd (by decide) hc9)
      refine lv_iconst (v := nI 0) hx hb dX4_takesAtHand_65 (by decide) ?_
      exact W.zret (v := nI 0) hx hb hr (by decide +kernel) (fun t9 ht9 hW9 => ⟨⟨_, Ua, rfl, Or.inr ⟨rfl, fun ⟨l9, h1, h2⟩ => (by have h9 := (h1.2 rfl).2.1; rw [hn] at h9; cases h9)⟩, by show va_P D vwCl [(y0, .inr (4, [.int cd, .ref y1, .ref y2, .ref y3, .ref y4, .ref y5, .ref y6, .ref y7, .ref y8, .ref y9, .ref ya, .ref yb, .ref yc, .ref yd, .ref ye, .int md, .int o1, .int o2, .int mo, .ref yf, .ref yg, .ref yh])), (y4, .inl (cI, 10, .inl Fa)), (y5, .inl (cI, 10, .inl Ta)), (y6, .inl (cZ, 10, .inl La)), (yf, .inl (cI, 5, .inl Va)), (yg, .inl (cI, 10, .inl Ha)), (yh, .inl (cZ, 10, .inl Ua))] t9.heap; rw [ht9]; exact hP⟩, hS.F ht9⟩) hS.2.2 dX4_takesAtHand_66
    | some zz =>
      obtain ⟨c1, c2⟩ := (hH.2.2.2 (VA (FA px)) (by omega)).2 zz hn
      refine lv_aload_n hx hb dX4_takesAtHand_47 rfl (lv_at hl 3 rfl) ?_
      refine va_get (D := D) (ci := 4) (v := .ref yg) (C := RX4) (T := TX4) (N := 22) hx hb htg hi_X4 hown hK hP 0 rfl rfl 20 (by decide) (htg _ hm_516) (fun _ h9 => h9) rfl dX4_takesAtHand_48 ?_
      refine lv_iload_n hx hb dX4_takesAtHand_51 rfl (lv_at hl 2 rfl) ?_
      refine hw_iald hx hb hK hP 5 0 rfl rfl (j := (VA (FA px))) (by omega) (by first | decide | omega) (v := nI zz) (c2) dX4_takesAtHand_52 ?_
      refine lv_if_lt hx hb dX4_takesAtHand_53 rfl (fun hc9 => absurd hc9 (nI_pos (by omega))) (fun hc9 => ?_)
      refine lv_aload_n hx hb dX4_takesAtHand_56 rfl (lv_at hl 3 rfl) ?_
      refine va_get (D := D) (ci := 4) (v := .ref yh) (C := RX4) (T := TX4) (N := 22) hx hb htg hi_X4 hown hK hP 0 rfl rfl 21 (by decide) (htg _ hm_517) (fun _ h9 => h9) rfl dX4_takesAtHand_57 ?_
      refine lv_iload_n hx hb dX4_takesAtHand_60 rfl (lv_at hl 2 rfl) ?_
      refine hw_zald hx hb hK hP 6 1 rfl rfl (j := (VA (FA px))) (by omega) (by first | decide | omega) (v := hc_b (T (VA (FA px)))) (hT (VA (FA px)) (by omega)) dX4_takesAtHand_61 ?_
      refine hw_ifeq_b hx hb dX4_takesAtHand_62 rfl (fun ht1 => ?_) (fun ht1 => ?_)
      · refine lv_aload_n hx hb dX4_takesAtHand_67 rfl (lv_at hl 3 rfl) ?_
        refine va_get (D := D) (ci := 4) (v := .ref yh) (C := RX4) (T := TX4) (N := 22) hx hb htg hi_X4 hown hK hP 0 rfl rfl 21 (by decide) (htg _ hm_517) (fun _ h9 => h9) rfl dX4_takesAtHand_68 ?_
        refine lv_iload_n hx hb dX4_takesAtHand_71 rfl (lv_at hl 2 rfl) ?_
        refine lv_iconst (v := nI 1) hx hb dX4_takesAtHand_72 (by decide) ?_
        refine hw_zast hx hb hK hP hD hS 6 1 rfl rfl (j := (VA (FA px))) (by omega) (by first | decide | omega) dX4_takesAtHand_73 (fun H locs hP hD hS => ?_)
        rw [hw_nar1] at hP hD
        replace hP : va_P D vwCl [(y0, .inr (4, [.int cd, .ref y1, .ref y2, .ref y3, .ref y4, .ref y5, .ref y6, .ref y7, .ref y8, .ref y9, .ref ya, .ref yb, .ref yc, .ref yd, .ref ye, .int md, .int o1, .int o2, .int mo, .ref yf, .ref yg, .ref yh])), (y4, .inl (cI, 10, .inl Fa)), (y5, .inl (cI, 10, .inl Ta)), (y6, .inl (cZ, 10, .inl La)), (yf, .inl (cI, 5, .inl Va)), (yg, .inl (cI, 10, .inl Ha)), (yh, .inl (cZ, 10, .inl (upd Ua (VA (FA px)) (hc_b true))))] H := hP
        replace hD : va_D A [(y0, .inr (4, [.int cd, .ref y1, .ref y2, .ref y3, .ref y4, .ref y5, .ref y6, .ref y7, .ref y8, .ref y9, .ref ya, .ref yb, .ref yc, .ref yd, .ref ye, .int md, .int o1, .int o2, .int mo, .ref yf, .ref yg, .ref yh])), (y4, .inl (cI, 10, .inl Fa)), (y5, .inl (cI, 10, .inl Ta)), (y6, .inl (cZ, 10, .inl La)), (yf, .inl (cI, 5, .inl Va)), (yg, .inl (cI, 10, .inl Ha)), (yh, .inl (cZ, 10, .inl (upd Ua (VA (FA px)) (hc_b true))))] := hD
        refine lv_aload_n hx hb dX4_takesAtHand_74 rfl (lv_at hl 3 rfl) ?_
        refine va_get (D := D) (ci := 4) (v := .ref yg) (C := RX4) (T := TX4) (N := 22) hx hb htg hi_X4 hown hK hP 0 rfl rfl 20 (by decide) (htg _ hm_516) (fun _ h9 => h9) rfl dX4_takesAtHand_75 ?_
        refine lv_iload_n hx hb dX4_takesAtHand_78 rfl (lv_at hl 2 rfl) ?_
        refine hw_iald hx hb hK hP 5 0 rfl rfl (j := (VA (FA px))) (by omega) (by first | decide | omega) (v := nI zz) (c2) dX4_takesAtHand_79 ?_
        refine lv_istore_n hx hb dX4_takesAtHand_80 rfl hl (by decide) rfl (fun ls hl => ?_)
        replace hl : lv_has ls 5 [(2, .int (nI zz)), (4, .int (nI 1)), (3, .int (nI (VA (TA px)))), (0, .ref y0), (1, .int (nI px))] := hl
        refine lv_iconst (v := nI 0) hx hb dX4_takesAtHand_81 (by decide) ?_
        refine lv_istore hx hb dX4_takesAtHand_82 hl (by decide) rfl (fun ls hl => ?_)
        replace hl : lv_has ls 5 [(4, .int (nI 0)), (2, .int (nI zz)), (3, .int (nI (VA (TA px)))), (0, .ref y0), (1, .int (nI px))] := hl
        refine lv_goto hx hb dX4_takesAtHand_84 rfl ?_
        refine lv_aload_n hx hb dX4_takesAtHand_25 rfl (lv_at hl 3 rfl) ?_
        refine va_get (D := D) (ci := 4) (v := .ref y6) (C := RX4) (T := TX4) (N := 22) hx hb htg hi_X4 hown hK hP 0 rfl rfl 6 (by decide) (htg _ hm_502) (fun _ h9 => h9) rfl dX4_takesAtHand_26 ?_
        refine lv_iload_n hx hb dX4_takesAtHand_29 rfl (lv_at hl 4 rfl) ?_
        refine hw_zald hx hb hK hP 3 1 rfl rfl (j := px) (by omega) (by first | decide | omega) (v := hc_b false) (by rw [f5, hI]) dX4_takesAtHand_30 ?_
        refine hw_ifeq_b hx hb dX4_takesAtHand_31 rfl (fun hc9 => ?_) (fun hc9 => absurd hc9 (by decide))
        refine lv_iload hx hb dX4_takesAtHand_42 (lv_at hl 0 rfl) ?_
        refine lv_if_eq hx hb dX4_takesAtHand_44 rfl (fun hc9 => ?_) (fun hc9 => absurd rfl hc9)
        refine lv_iload_n hx hb dX4_takesAtHand_87 rfl (lv_at hl 1 rfl) ?_
        refine lv_iload_n hx hb dX4_takesAtHand_88 rfl (lv_at hl 2 rfl) ?_
        refine hw_icmp_ne hx hb (by omega) (by omega) dX4_takesAtHand_89 rfl (fun hzt => ?_) (fun hzt => ?_)
        · refine lv_iconst (v := nI 0) hx hb dX4_takesAtHand_96 (by decide) ?_
          exact W.zret (v := nI 0) hx hb hr (by decide +kernel) (fun t9 ht9 hW9 => ⟨⟨_, upd Ua (VA (FA px)) (hc_b true), rfl, Or.inr ⟨rfl, fun ⟨l9, h1, h2⟩ => (by have h9 := (h1.2 rfl).2.1; rw [hn] at h9; injection h9 with h9; exact hzt h9)⟩, by show va_P D vwCl [(y0, .inr (4, [.int cd, .ref y1, .ref y2, .ref y3, .ref y4, .ref y5, .ref y6, .ref y7, .ref y8, .ref y9, .ref ya, .ref yb, .ref yc, .ref yd, .ref ye, .int md, .int o1, .int o2, .int mo, .ref yf, .ref yg, .ref yh])), (y4, .inl (cI, 10, .inl Fa)), (y5, .inl (cI, 10, .inl Ta)), (y6, .inl (cZ, 10, .inl La)), (yf, .inl (cI, 5, .inl Va)), (yg, .inl (cI, 10, .inl Ha)), (yh, .inl (cZ, 10, .inl (upd Ua (VA (FA px)) (hc_b true))))] t9.heap; rw [ht9]; exact hP⟩, hS.F ht9⟩) hS.2.2 dX4_takesAtHand_97
        · refine lv_iconst (v := nI 1) hx hb dX4_takesAtHand_92 (by decide) ?_
          refine lv_goto hx hb dX4_takesAtHand_93 rfl ?_
          exact W.zret (v := nI 1) hx hb hr (by decide +kernel) (fun t9 ht9 hW9 => ⟨⟨_, upd Ua (VA (FA px)) (hc_b true), rfl, Or.inl ⟨rfl, [VA (FA px)], va_up T (VA (FA px)) true, ⟨fun q => (by cases q), fun _ => ⟨rfl, by rw [hn, hzt], rfl⟩⟩, fun a ha => by rw [List.mem_singleton.mp ha]; exact ht1, fun j hj => hw_updb hT _ true j hj, fun j => hk_T1 _ j⟩, by show va_P D vwCl [(y0, .inr (4, [.int cd, .ref y1, .ref y2, .ref y3, .ref y4, .ref y5, .ref y6, .ref y7, .ref y8, .ref y9, .ref ya, .ref yb, .ref yc, .ref yd, .ref ye, .int md, .int o1, .int o2, .int mo, .ref yf, .ref yg, .ref yh])), (y4, .inl (cI, 10, .inl Fa)), (y5, .inl (cI, 10, .inl Ta)), (y6, .inl (cZ, 10, .inl La)), (yf, .inl (cI, 5, .inl Va)), (yg, .inl (cI, 10, .inl Ha)), (yh, .inl (cZ, 10, .inl (upd Ua (VA (FA px)) (hc_b true))))] t9.heap; rw [ht9]; exact hP⟩, hS.F ht9⟩) hS.2.2 dX4_takesAtHand_97
      · refine lv_iconst (v := nI 0) hx hb dX4_takesAtHand_65 (by decide) ?_
        exact W.zret (v := nI 0) hx hb hr (by decide +kernel) (fun t9 ht9 hW9 => ⟨⟨_, Ua, rfl, Or.inr ⟨rfl, fun ⟨l9, h1, h2⟩ => (by have h9 := h2 (VA (FA px)) (by rw [(h1.2 rfl).1]; exact List.mem_cons_self); rw [ht1] at h9; cases h9)⟩, by show va_P D vwCl [(y0, .inr (4, [.int cd, .ref y1, .ref y2, .ref y3, .ref y4, .ref y5, .ref y6, .ref y7, .ref y8, .ref y9, .ref ya, .ref yb, .ref yc, .ref yd, .ref ye, .int md, .int o1, .int o2, .int mo, .ref yf, .ref yg, .ref yh])), (y4, .inl (cI, 10, .inl Fa)), (y5, .inl (cI, 10, .inl Ta)), (y6, .inl (cZ, 10, .inl La)), (yf, .inl (cI, 5, .inl Va)), (yg, .inl (cI, 10, .inl Ha)), (yh, .inl (cZ, 10, .inl Ua))] t9.heap; rw [ht9]; exact hP⟩, hS.F ht9⟩) hS.2.2 dX4_takesAtHand_66
  | true =>
    obtain ⟨gg, e_gg⟩ : ∃ z : Nat, z = VA (FA px) := ⟨_, rfl⟩
    obtain ⟨z4, e_z4⟩ : ∃ z : Int32, z = nI 1 := ⟨_, rfl⟩
    obtain ⟨T1, e_T1⟩ : ∃ z : Nat → Bool, z = T := ⟨_, rfl⟩
    obtain ⟨K1, e_K1⟩ : ∃ z : Nat → Int32, z = Ua := ⟨_, rfl⟩
    replace hl : lv_has ls 5 [(4, .int z4), (3, .int (nI (VA (TA px)))), (2, .int (nI gg)), (0, .ref y0), (1, .int (nI px))] := by subst e_gg e_z4 e_T1 e_K1; exact hl
    replace hP : va_P D vwCl [(y0, .inr (4, [.int cd, .ref y1, .ref y2, .ref y3, .ref y4, .ref y5, .ref y6, .ref y7, .ref y8, .ref y9, .ref ya, .ref yb, .ref yc, .ref yd, .ref ye, .int md, .int o1, .int o2, .int mo, .ref yf, .ref yg, .ref yh])), (y4, .inl (cI, 10, .inl Fa)), (y5, .inl (cI, 10, .inl Ta)), (y6, .inl (cZ, 10, .inl La)), (yf, .inl (cI, 5, .inl Va)), (yg, .inl (cI, 10, .inl Ha)), (yh, .inl (cZ, 10, .inl K1))] H := by subst e_gg e_z4 e_T1 e_K1; exact hP
    replace hD : va_D A [(y0, .inr (4, [.int cd, .ref y1, .ref y2, .ref y3, .ref y4, .ref y5, .ref y6, .ref y7, .ref y8, .ref y9, .ref ya, .ref yb, .ref yc, .ref yd, .ref ye, .int md, .int o1, .int o2, .int mo, .ref yf, .ref yg, .ref yh])), (y4, .inl (cI, 10, .inl Fa)), (y5, .inl (cI, 10, .inl Ta)), (y6, .inl (cZ, 10, .inl La)), (yf, .inl (cI, 5, .inl Va)), (yg, .inl (cI, 10, .inl Ha)), (yh, .inl (cZ, 10, .inl K1))] := by subst e_gg e_z4 e_T1 e_K1; exact hD
    have hi : hk_I HA (VA (TA px)) T T1 (VA (FA px)) gg := by subst e_gg e_z4 e_T1 e_K1; exact hk_I0
    have hK1 : ∀ j, j < 10 → K1 j = hc_b (T1 j) := by subst e_gg e_z4 e_T1 e_K1; exact hT
    have hg9 : gg ≤ 9 := by subst e_gg e_z4 e_T1 e_K1; exact hvf
    clear e_gg e_z4 e_T1 e_K1
    obtain ⟨k, hk⟩ : ∃ k : Nat, k = hh_k T1 + 1 := ⟨_, rfl⟩
    induction k generalizing gg z4 T1 K1 ls H locs  with
    | zero =>
      omega
    | succ k ih =>
      refine lv_aload_n hx hb dX4_takesAtHand_25 rfl (lv_at hl 3 rfl) ?_
      refine va_get (D := D) (ci := 4) (v := .ref y6) (C := RX4) (T := TX4) (N := 22) hx hb htg hi_X4 hown hK hP 0 rfl rfl 6 (by decide) (htg _ hm_502) (fun _ h9 => h9) rfl dX4_takesAtHand_26 ?_
      refine lv_iload_n hx hb dX4_takesAtHand_29 rfl (lv_at hl 4 rfl) ?_
      refine hw_zald hx hb hK hP 3 1 rfl rfl (j := px) (by omega) (by first | decide | omega) (v := hc_b true) (by rw [f5, hI]) dX4_takesAtHand_30 ?_
      refine hw_ifeq_b hx hb dX4_takesAtHand_31 rfl (fun hc9 => absurd hc9 (by decide)) (fun hc9 => ?_)
      refine lv_iload_n hx hb dX4_takesAtHand_34 rfl (lv_at hl 2 rfl) ?_
      refine lv_iload_n hx hb dX4_takesAtHand_35 rfl (lv_at hl 1 rfl) ?_
      refine hw_icmp_eq hx hb (by omega) (by omega) dX4_takesAtHand_36 rfl (fun hge => ?_) (fun hge => ?_)
      · rw [hge] at hi
        refine lv_iload_n hx hb dX4_takesAtHand_87 rfl (lv_at hl 2 rfl) ?_
        refine lv_iload_n hx hb dX4_takesAtHand_88 rfl (lv_at hl 1 rfl) ?_
        refine hw_icmp_ne hx hb (by omega) (by omega) dX4_takesAtHand_89 rfl (fun hc9 => absurd hge hc9) (fun hc9 => ?_)
        refine lv_iconst (v := nI 1) hx hb dX4_takesAtHand_92 (by decide) ?_
        refine lv_goto hx hb dX4_takesAtHand_93 rfl ?_
        exact W.zret (v := nI 1) hx hb hr (by decide +kernel) (fun t9 ht9 hW9 => ⟨⟨_, K1, rfl, Or.inl ⟨rfl, by obtain ⟨l9, h1, h2, h3⟩ := hk_Ie hi; exact ⟨l9, T1, ⟨fun _ => h1, fun q => (by cases q)⟩, h2, hK1, h3⟩⟩, by show va_P D vwCl [(y0, .inr (4, [.int cd, .ref y1, .ref y2, .ref y3, .ref y4, .ref y5, .ref y6, .ref y7, .ref y8, .ref y9, .ref ya, .ref yb, .ref yc, .ref yd, .ref ye, .int md, .int o1, .int o2, .int mo, .ref yf, .ref yg, .ref yh])), (y4, .inl (cI, 10, .inl Fa)), (y5, .inl (cI, 10, .inl Ta)), (y6, .inl (cZ, 10, .inl La)), (yf, .inl (cI, 5, .inl Va)), (yg, .inl (cI, 10, .inl Ha)), (yh, .inl (cZ, 10, .inl K1))] t9.heap; rw [ht9]; exact hP⟩, hS.F ht9⟩) hS.2.2 dX4_takesAtHand_97
      · refine lv_goto hx hb dX4_takesAtHand_39 rfl ?_
        cases hn : HA gg with
        | none =>
          refine lv_aload_n hx hb dX4_takesAtHand_47 rfl (lv_at hl 3 rfl) ?_
          refine va_get (D := D) (ci := 4) (v := .ref yg) (C := RX4) (T := TX4) (N := 22) hx hb htg hi_X4 hown hK hP 0 rfl rfl 20 (by decide) (htg _ hm_516) (fun _ h9 => h9) rfl dX4_takesAtHand_48 ?_
          refine lv_iload_n hx hb dX4_takesAtHand_51 rfl (lv_at hl 2 rfl) ?_
          refine hw_iald hx hb hK hP 5 0 rfl rfl (j := gg) (by omega) (by first | decide | omega) (v := -1) ((hH.2.2.2 _ (by omega)).1 hn) dX4_takesAtHand_52 ?_
          refine lv_if_lt hx hb dX4_takesAtHand_53 rfl (fun hc9 => ?_) (fun hc9 => absurd (by decide) hc9)
          refine lv_iconst (v := nI 0) hx hb dX4_takesAtHand_65 (by decide) ?_
          exact W.zret (v := nI 0) hx hb hr (by decide +kernel) (fun t9 ht9 hW9 => ⟨⟨_, K1, rfl, Or.inr ⟨rfl, fun ⟨l9, h1, h2⟩ => hk_In hi hge (fun z hz => by rw [hn] at hz; cases hz) ⟨l9, h1.1 rfl, h2⟩⟩, by show va_P D vwCl [(y0, .inr (4, [.int cd, .ref y1, .ref y2, .ref y3, .ref y4, .ref y5, .ref y6, .ref y7, .ref y8, .ref y9, .ref ya, .ref yb, .ref yc, .ref yd, .ref ye, .int md, .int o1, .int o2, .int mo, .ref yf, .ref yg, .ref yh])), (y4, .inl (cI, 10, .inl Fa)), (y5, .inl (cI, 10, .inl Ta)), (y6, .inl (cZ, 10, .inl La)), (yf, .inl (cI, 5, .inl Va)), (yg, .inl (cI, 10, .inl Ha)), (yh, .inl (cZ, 10, .inl K1))] t9.heap; rw [ht9]; exact hP⟩, hS.F ht9⟩) hS.2.2 dX4_takesAtHand_66
        | some zz =>
          obtain ⟨c1, c2⟩ := (hH.2.2.2 gg (by omega)).2 zz hn
          refine lv_aload_n hx hb dX4_takesAtHand_47 rfl (lv_at hl 3 rfl) ?_
          refine va_get (D := D) (ci := 4) (v := .ref yg) (C := RX4) (T := TX4) (N := 22) hx hb htg hi_X4 hown hK hP 0 rfl rfl 20 (by decide) (htg _ hm_516) (fun _ h9 => h9) rfl dX4_takesAtHand_48 ?_
          refine lv_iload_n hx hb dX4_takesAtHand_51 rfl (lv_at hl 2 rfl) ?_
          refine hw_iald hx hb hK hP 5 0 rfl rfl (j := gg) (by omega) (by first | decide | omega) (v := nI zz) (c2) dX4_takesAtHand_52 ?_
          refine lv_if_lt hx hb dX4_takesAtHand_53 rfl (fun hc9 => absurd hc9 (nI_pos (by omega))) (fun hc9 => ?_)
          refine lv_aload_n hx hb dX4_takesAtHand_56 rfl (lv_at hl 3 rfl) ?_
          refine va_get (D := D) (ci := 4) (v := .ref yh) (C := RX4) (T := TX4) (N := 22) hx hb htg hi_X4 hown hK hP 0 rfl rfl 21 (by decide) (htg _ hm_517) (fun _ h9 => h9) rfl dX4_takesAtHand_57 ?_
          refine lv_iload_n hx hb dX4_takesAtHand_60 rfl (lv_at hl 2 rfl) ?_
          refine hw_zald hx hb hK hP 6 1 rfl rfl (j := gg) (by omega) (by first | decide | omega) (v := hc_b (T1 gg)) (hK1 gg (by omega)) dX4_takesAtHand_61 ?_
          refine hw_ifeq_b hx hb dX4_takesAtHand_62 rfl (fun ht1 => ?_) (fun ht1 => ?_)
          · refine lv_aload_n hx hb dX4_takesAtHand_67 rfl (lv_at hl 3 rfl) ?_
            refine va_get (D := D) (ci := 4) (v := .ref yh) (C := RX4) (T := TX4) (N := 22) hx hb htg hi_X4 hown hK hP 0 rfl rfl 21 (by decide) (htg _ hm_517) (fun _ h9 => h9) rfl dX4_takesAtHand_68 ?_
            refine lv_iload_n hx hb dX4_takesAtHand_71 rfl (lv_at hl 2 rfl) ?_
            refine lv_iconst (v := nI 1) hx hb dX4_takesAtHand_72 (by decide) ?_
            refine hw_zast hx hb hK hP hD hS 6 1 rfl rfl (j := gg) (by omega) (by first | decide | omega) dX4_takesAtHand_73 (fun H locs hP hD hS => ?_)
            rw [hw_nar1] at hP hD
            replace hP : va_P D vwCl [(y0, .inr (4, [.int cd, .ref y1, .ref y2, .ref y3, .ref y4, .ref y5, .ref y6, .ref y7, .ref y8, .ref y9, .ref ya, .ref yb, .ref yc, .ref yd, .ref ye, .int md, .int o1, .int o2, .int mo, .ref yf, .ref yg, .ref yh])), (y4, .inl (cI, 10, .inl Fa)), (y5, .inl (cI, 10, .inl Ta)), (y6, .inl (cZ, 10, .inl La)), (yf, .inl (cI, 5, .inl Va)), (yg, .inl (cI, 10, .inl Ha)), (yh, .inl (cZ, 10, .inl (upd K1 gg (hc_b true))))] H := hP
            replace hD : va_D A [(y0, .inr (4, [.int cd, .ref y1, .ref y2, .ref y3, .ref y4, .ref y5, .ref y6, .ref y7, .ref y8, .ref y9, .ref ya, .ref yb, .ref yc, .ref yd, .ref ye, .int md, .int o1, .int o2, .int mo, .ref yf, .ref yg, .ref yh])), (y4, .inl (cI, 10, .inl Fa)), (y5, .inl (cI, 10, .inl Ta)), (y6, .inl (cZ, 10, .inl La)), (yf, .inl (cI, 5, .inl Va)), (yg, .inl (cI, 10, .inl Ha)), (yh, .inl (cZ, 10, .inl (upd K1 gg (hc_b true))))] := hD
            refine lv_aload_n hx hb dX4_takesAtHand_74 rfl (lv_at hl 3 rfl) ?_
            refine va_get (D := D) (ci := 4) (v := .ref yg) (C := RX4) (T := TX4) (N := 22) hx hb htg hi_X4 hown hK hP 0 rfl rfl 20 (by decide) (htg _ hm_516) (fun _ h9 => h9) rfl dX4_takesAtHand_75 ?_
            refine lv_iload_n hx hb dX4_takesAtHand_78 rfl (lv_at hl 2 rfl) ?_
            refine hw_iald hx hb hK hP 5 0 rfl rfl (j := gg) (by omega) (by first | decide | omega) (v := nI zz) (c2) dX4_takesAtHand_79 ?_
            refine lv_istore_n hx hb dX4_takesAtHand_80 rfl hl (by decide) rfl (fun ls hl => ?_)
            replace hl : lv_has ls 5 [(2, .int (nI zz)), (4, .int z4), (3, .int (nI (VA (TA px)))), (0, .ref y0), (1, .int (nI px))] := hl
            refine lv_iconst (v := nI 0) hx hb dX4_takesAtHand_81 (by decide) ?_
            refine lv_istore hx hb dX4_takesAtHand_82 hl (by decide) rfl (fun ls hl => ?_)
            replace hl : lv_has ls 5 [(4, .int (nI 0)), (2, .int (nI zz)), (3, .int (nI (VA (TA px)))), (0, .ref y0), (1, .int (nI px))] := hl
            refine lv_goto hx hb dX4_takesAtHand_84 rfl ?_
            replace hl : lv_has ls 5 [(4, .int (nI 0)), (3, .int (nI (VA (TA px)))), (2, .int (nI zz)), (0, .ref y0), (1, .int (nI px))] := lv_sub hl [0, 2, 1, 3, 4] rfl
            refine ih (hS := hS) (hl := hl) (hP := hP) (hD := hD) (hi := (hk_I1 hi hge hn ht1)) (hK1 := (fun j hj => hw_updb hK1 _ true j hj)) (hg9 := c1) (hk := (by have := hh_k_up (show gg < 10 by omega) ht1; omega))
          · refine lv_iconst (v := nI 0) hx hb dX4_takesAtHand_65 (by decide) ?_
            exact W.zret (v := nI 0) hx hb hr (by decide +kernel) (fun t9 ht9 hW9 => ⟨⟨_, K1, rfl, Or.inr ⟨rfl, fun ⟨l9, h1, h2⟩ => hk_In hi hge (fun z hz => ht1) ⟨l9, h1.1 rfl, h2⟩⟩, by show va_P D vwCl [(y0, .inr (4, [.int cd, .ref y1, .ref y2, .ref y3, .ref y4, .ref y5, .ref y6, .ref y7, .ref y8, .ref y9, .ref ya, .ref yb, .ref yc, .ref yd, .ref ye, .int md, .int o1, .int o2, .int mo, .ref yf, .ref yg, .ref yh])), (y4, .inl (cI, 10, .inl Fa)), (y5, .inl (cI, 10, .inl Ta)), (y6, .inl (cZ, 10, .inl La)), (yf, .inl (cI, 5, .inl Va)), (yg, .inl (cI, 10, .inl Ha)), (yh, .inl (cZ, 10, .inl K1))] t9.heap; rw [ht9]; exact hP⟩, hS.F ht9⟩) hS.2.2 dX4_takesAtHand_66

set_option maxHeartbeats 4000000 in
set_option maxRecDepth 100000 in
/-- holds -/
theorem k_X4_holds (l : Launch) (D : va_G) (cI cZ cJ : ClassId) (sz : Nat) (Sa Oa My Fa Ta La : Nat → Int32) (SA OA : Nat → Bool) (MA FA TA : Nat → Nat) (LA : Nat → Bool) (Va Ha : Nat → Int32) (VA : Nat → Nat) (HA : Nat → Option Nat) (Ua : Nat → Int32) (cx : Nat) (cd md o1 o2 mo : Int32) (y0 y1 y2 y3 y4 y5 y6 y7 y8 y9 ya yb yc yd ye yf yg yh : Nat) (hM : hr_m Sa Oa My Fa Ta La SA OA MA FA TA LA) (hH : hr_h Va Ha VA HA) (hcx : cx < 2 ^ 32) : Met l yX4_holds (Cond.code yX4_holds cX4_holds 6 (some .boolean) :: hwG) { frames := 2, cells := 0, slots := 0, locals := 45 } (hp_M [.ref y0, .int (nI cx)] D cI cZ cJ [(y0, .inr (4, [.int cd, .ref y1, .ref y2, .ref y3, .ref y4, .ref y5, .ref y6, .ref y7, .ref y8, .ref y9, .ref ya, .ref yb, .ref yc, .ref yd, .ref ye, .int md, .int o1, .int o2, .int mo, .ref yf, .ref yg, .ref yh])), (y1, .inl (cZ, 72, .inl Sa)), (y2, .inl (cZ, 72, .inl Oa)), (y3, .inl (cI, 2, .inl My)), (y4, .inl (cI, 10, .inl Fa)), (y5, .inl (cI, 10, .inl Ta)), (y6, .inl (cZ, 10, .inl La)), (yf, .inl (cI, 5, .inl Va)), (yg, .inl (cI, 10, .inl Ha)), (yh, .inl (cZ, 10, .inl Ua))] sz) (va_Qi (S := Int32 × (Nat → Int32)) (fun r u => (¬ cx < 2 ∧ r = nI 0 ∧ u.1 = nI 1) ∨ (cx < 2 ∧ u.1 = nI 0 ∧ hc_r r (hc_PO VA (hr_s SA cx) (hr_s OA cx) ∧ hh_T HA (MA cx) (fun i => VA (FA (5 * cx + i))) (fun i => VA (TA (5 * cx + i))) (fun i => LA (5 * cx + i))))) (fun u t => va_P D vwCl ([(y0, .inr (4, [.int u.1, .ref y1, .ref y2, .ref y3, .ref y4, .ref y5, .ref y6, .ref y7, .ref y8, .ref y9, .ref ya, .ref yb, .ref yc, .ref yd, .ref ye, .int md, .int o1, .int o2, .int mo, .ref yf, .ref yg, .ref yh])), (y1, .inl (cZ, 72, .inl Sa)), (y2, .inl (cZ, 72, .inl Oa)), (y3, .inl (cI, 2, .inl My)), (y4, .inl (cI, 10, .inl Fa)), (y5, .inl (cI, 10, .inl Ta)), (y6, .inl (cZ, 10, .inl La)), (yf, .inl (cI, 5, .inl Va)), (yg, .inl (cI, 10, .inl Ha)), (yh, .inl (cZ, 10, .inl u.2))]) t.heap) (va_A [(y0, .inr (4, [.int cd, .ref y1, .ref y2, .ref y3, .ref y4, .ref y5, .ref y6, .ref y7, .ref y8, .ref y9, .ref ya, .ref yb, .ref yc, .ref yd, .ref ye, .int md, .int o1, .int o2, .int mo, .ref yf, .ref yg, .ref yh])), (y1, .inl (cZ, 72, .inl Sa)), (y2, .inl (cZ, 72, .inl Oa)), (y3, .inl (cI, 2, .inl My)), (y4, .inl (cI, 10, .inl Fa)), (y5, .inl (cI, 10, .inl Ta)), (y6, .inl (cZ, 10, .inl La)), (yf, .inl (cI, 5, .inl Va)), (yg, .inl (cI, 10, .inl Ha)), (yh, .inl (cZ, 10, .inl Ua))] sz)) 0 0 (va_A [(y0, .inr (4, [.int cd, .ref y1, .ref y2, .ref y3, .ref y4, .ref y5, .ref y6, .ref y7, .ref y8, .ref y9, .ref ya, .ref yb, .ref yc, .ref yd, .ref ye, .int md, .int o1, .int o2, .int mo, .ref yf, .ref yg, .ref yh])), (y1, .inl (cZ, 72, .inl Sa)), (y2, .inl (cZ, 72, .inl Oa)), (y3, .inl (cI, 2, .inl My)), (y4, .inl (cI, 10, .inl Fa)), (y5, .inl (cI, 10, .inl Ta)), (y6, .inl (cZ, 10, .inl La)), (yf, .inl (cI, 5, .inl Va)), (yg, .inl (cI, 10, .inl Ha)), (yh, .inl (cZ, 10, .inl Ua))] sz) := by
  refine Met.ofW (cc := cX4_holds) (maxL := 6) (ret := (some .boolean)) (by decide) rfl ?_
  intro p e s m args below meth c s₁ B hml hv
  obtain ⟨rfl, hsz, hP, hz, hD0⟩ := hv
  have hx := B.exec
  have hb := B.bytes
  have hr := B.returns
  have hts := atoms_spec (ws := (Cond.code yX4_holds cX4_holds 6 (some .boolean) :: hwG)) B.pre
  have htg := fun w h => hts w (List.mem_cons_of_mem _ h)
  have hown : s.vm.findClass RX4 = some m.cls := findClass_of_methodNamed B.named
  have hlocks := B.notSynchronized
  have hK := hz.1
  subst hsz
  have hD := hD0.self (sz := s.heap.size)
  generalize hAe : va_A [(y0, .inr (4, [.int cd, .ref y1, .ref y2, .ref y3, .ref y4, .ref y5, .ref y6, .ref y7, .ref y8, .ref y9, .ref ya, .ref yb, .ref yc, .ref yd, .ref ye, .int md, .int o1, .int o2, .int mo, .ref yf, .ref yg, .ref yh])), (y1, .inl (cZ, 72, .inl Sa)), (y2, .inl (cZ, 72, .inl Oa)), (y3, .inl (cI, 2, .inl My)), (y4, .inl (cI, 10, .inl Fa)), (y5, .inl (cI, 10, .inl Ta)), (y6, .inl (cZ, 10, .inl La)), (yf, .inl (cI, 5, .inl Va)), (yg, .inl (cI, 10, .inl Ha)), (yh, .inl (cZ, 10, .inl Ua))] s.heap.size = A at hD ⊢
  have hA : ∀ q : Nat, s.heap.size ≤ q → A q := fun q h => by rw [← hAe]; exact Or.inr h
  have hS : va_S A s.heap s.heap [] := va_S.rf
  have hl := lv_entry ([.ref y0, .int (nI cx)]) (n := 6) (Nat.le_of_ble_eq_true rfl)
  rw [lg_entry_eq]
  generalize (lg_sl ([.ref y0, .int (nI cx)]) ++ List.replicate (6 - (lg_sl ([.ref y0, .int (nI cx)])).length) Slot.unset).toArray = ls at hl ⊢
  replace hl : lv_has ls 6 [(0, .ref y0), (1, .int (nI cx))] := hl
  replace hP : va_P D vwCl [(y0, .inr (4, [.int cd, .ref y1, .ref y2, .ref y3, .ref y4, .ref y5, .ref y6, .ref y7, .ref y8, .ref y9, .ref ya, .ref yb, .ref yc, .ref yd, .ref ye, .int md, .int o1, .int o2, .int mo, .ref yf, .ref yg, .ref yh])), (y1, .inl (cZ, 72, .inl Sa)), (y2, .inl (cZ, 72, .inl Oa)), (y3, .inl (cI, 2, .inl My)), (y4, .inl (cI, 10, .inl Fa)), (y5, .inl (cI, 10, .inl Ta)), (y6, .inl (cZ, 10, .inl La)), (yf, .inl (cI, 5, .inl Va)), (yg, .inl (cI, 10, .inl Ha)), (yh, .inl (cZ, 10, .inl Ua))] s.heap := hP
  refine lv_aload_n hx hb dX4_holds_0 rfl (lv_at hl 0 rfl) ?_
  refine lv_iload_n hx hb dX4_holds_1 rfl (lv_at hl 1 rfl) ?_
  refine hw_csi (va_runS (As := [.int (nI cx)]) (rest := [.ref y0]) ⟨hx, hb, hml, hown, htg⟩ (k_X4_noClaim l D cI cZ cJ cx hcx) (va_cwS 1 htg (hg_S hm_571 hm_572 hm_6 hm_573) rfl rfl rfl (by decide +kernel) ⟨Nat.le_of_ble_eq_true rfl, Nat.le_of_ble_eq_true rfl⟩) ⟨hp_R_blind, hp_R_pre (hP.sub (ws' := []) [] rfl) hz⟩ rfl rfl hl.1 rfl (lv_room (Nat.le_of_ble_eq_true rfl)) dX4_holds_2 ⟨Nat.zero_le _, Nat.zero_le _⟩) (fun r hq1 => ?_)
  rcases hq1 with ⟨rfl, hq1⟩ | ⟨rfl, hq1⟩
  · refine lv_if_eq hx hb dX4_holds_5 rfl (fun hc => absurd hc (by decide)) (fun hc => ?_)
    refine lv_iconst (v := nI 1) hx hb dX4_holds_8 (by decide) ?_
    refine lv_goto hx hb dX4_holds_9 rfl ?_
    refine va_put (D := D) (ci := 4) (v := .int (nI 1)) (ty := .int) (C := RX4) (T := TX4) (N := 22) hx hb htg hi_X4 tyX4 tyX4_ok nmX4 hown hK hP hD hS 0 rfl rfl 0 (by decide) (htg _ hm_496) (fun _ h9 => h9) rfl (by decide +kernel) rfl rfl (Nat.le_of_ble_eq_true rfl) dX4_holds_13 (fun H locs hP hD hS => ?_)
    replace hP : va_P D vwCl [(y0, .inr (4, [.int (nI 1), .ref y1, .ref y2, .ref y3, .ref y4, .ref y5, .ref y6, .ref y7, .ref y8, .ref y9, .ref ya, .ref yb, .ref yc, .ref yd, .ref ye, .int md, .int o1, .int o2, .int mo, .ref yf, .ref yg, .ref yh])), (y1, .inl (cZ, 72, .inl Sa)), (y2, .inl (cZ, 72, .inl Oa)), (y3, .inl (cI, 2, .inl My)), (y4, .inl (cI, 10, .inl Fa)), (y5, .inl (cI, 10, .inl Ta)), (y6, .inl (cZ, 10, .inl La)), (yf, .inl (cI, 5, .inl Va)), (yg, .inl (cI, 10, .inl Ha)), (yh, .inl (cZ, 10, .inl Ua))] H := hP
    replace hD : va_D A [(y0, .inr (4, [.int (nI 1), .ref y1, .ref y2, .ref y3, .ref y4, .ref y5, .ref y6, .ref y7, .ref y8, .ref y9, .ref ya, .ref yb, .ref yc, .ref yd, .ref ye, .int md, .int o1, .int o2, .int mo, .ref yf, .ref yg, .ref yh])), (y1, .inl (cZ, 72, .inl Sa)), (y2, .inl (cZ, 72, .inl Oa)), (y3, .inl (cI, 2, .inl My)), (y4, .inl (cI, 10, .inl Fa)), (y5, .inl (cI, 10, .inl Ta)), (y6, .inl (cZ, 10, .inl La)), (yf, .inl (cI, 5, .inl Va)), (yg, .inl (cI, 10, .inl Ha)), (yh, .inl (cZ, 10, .inl Ua))] := hD
    refine lv_aload_n hx hb dX4_holds_16 rfl (lv_at hl 0 rfl) ?_
    refine va_get (D := D) (ci := 4) (v := .int (nI 1)) (C := RX4) (T := TX4) (N := 22) hx hb htg hi_X4 hown hK hP 0 rfl rfl 0 (by decide) (htg _ hm_496) (fun _ h9 => h9) rfl dX4_holds_17 ?_
    refine lv_if_le hx hb dX4_holds_20 rfl (fun hc => absurd hc (by decide)) (fun hc => ?_)
    refine lv_iconst (v := nI 0) hx hb dX4_holds_23 (by decide) ?_
    exact W.zret (v := nI 0) hx hb hr (by decide +kernel) (fun t9 ht9 hW9 => ⟨⟨_, (nI 1, Ua), rfl, Or.inl ⟨hq1, rfl, rfl⟩, by show va_P D vwCl [(y0, .inr (4, [.int (nI 1), .ref y1, .ref y2, .ref y3, .ref y4, .ref y5, .ref y6, .ref y7, .ref y8, .ref y9, .ref ya, .ref yb, .ref yc, .ref yd, .ref ye, .int md, .int o1, .int o2, .int mo, .ref yf, .ref yg, .ref yh])), (y1, .inl (cZ, 72, .inl Sa)), (y2, .inl (cZ, 72, .inl Oa)), (y3, .inl (cI, 2, .inl My)), (y4, .inl (cI, 10, .inl Fa)), (y5, .inl (cI, 10, .inl Ta)), (y6, .inl (cZ, 10, .inl La)), (yf, .inl (cI, 5, .inl Va)), (yg, .inl (cI, 10, .inl Ha)), (yh, .inl (cZ, 10, .inl Ua))] t9.heap; rw [ht9]; exact hP⟩, hS.F ht9⟩) hS.2.2 dX4_holds_24
  · refine lv_if_eq hx hb dX4_holds_5 rfl (fun hc => ?_) (fun hc => absurd rfl hc)
    have hq1 := Classical.not_not.mp hq1
    have hm5 := (hM.2.1 cx hq1).2
    refine lv_iconst (v := nI 0) hx hb dX4_holds_12 (by decide) ?_
    refine va_put (D := D) (ci := 4) (v := .int (nI 0)) (ty := .int) (C := RX4) (T := TX4) (N := 22) hx hb htg hi_X4 tyX4 tyX4_ok nmX4 hown hK hP hD hS 0 rfl rfl 0 (by decide) (htg _ hm_496) (fun _ h9 => h9) rfl (by decide +kernel) rfl rfl (Nat.le_of_ble_eq_true rfl) dX4_holds_13 (fun H locs hP hD hS => ?_)
    replace hP : va_P D vwCl [(y0, .inr (4, [.int (nI 0), .ref y1, .ref y2, .ref y3, .ref y4, .ref y5, .ref y6, .ref y7, .ref y8, .ref y9, .ref ya, .ref yb, .ref yc, .ref yd, .ref ye, .int md, .int o1, .int o2, .int mo, .ref yf, .ref yg, .ref yh])), (y1, .inl (cZ, 72, .inl Sa)), (y2, .inl (cZ, 72, .inl Oa)), (y3, .inl (cI, 2, .inl My)), (y4, .inl (cI, 10, .inl Fa)), (y5, .inl (cI, 10, .inl Ta)), (y6, .inl (cZ, 10, .inl La)), (yf, .inl (cI, 5, .inl Va)), (yg, .inl (cI, 10, .inl Ha)), (yh, .inl (cZ, 10, .inl Ua))] H := hP
    replace hD : va_D A [(y0, .inr (4, [.int (nI 0), .ref y1, .ref y2, .ref y3, .ref y4, .ref y5, .ref y6, .ref y7, .ref y8, .ref y9, .ref ya, .ref yb, .ref yc, .ref yd, .ref ye, .int md, .int o1, .int o2, .int mo, .ref yf, .ref yg, .ref yh])), (y1, .inl (cZ, 72, .inl Sa)), (y2, .inl (cZ, 72, .inl Oa)), (y3, .inl (cI, 2, .inl My)), (y4, .inl (cI, 10, .inl Fa)), (y5, .inl (cI, 10, .inl Ta)), (y6, .inl (cZ, 10, .inl La)), (yf, .inl (cI, 5, .inl Va)), (yg, .inl (cI, 10, .inl Ha)), (yh, .inl (cZ, 10, .inl Ua))] := hD
    refine lv_aload_n hx hb dX4_holds_16 rfl (lv_at hl 0 rfl) ?_
    refine va_get (D := D) (ci := 4) (v := .int (nI 0)) (C := RX4) (T := TX4) (N := 22) hx hb htg hi_X4 hown hK hP 0 rfl rfl 0 (by decide) (htg _ hm_496) (fun _ h9 => h9) rfl dX4_holds_17 ?_
    refine lv_if_le hx hb dX4_holds_20 rfl (fun hc => ?_) (fun hc => absurd (by decide) hc)
    refine lv_iconst (v := nI 0) hx hb dX4_holds_25 (by decide) ?_
    refine lv_istore_n hx hb dX4_holds_26 rfl hl (by decide) rfl (fun ls hl => ?_)
    replace hl : lv_has ls 6 [(2, .int (nI 0)), (0, .ref y0), (1, .int (nI cx))] := hl
    obtain ⟨a, e_a⟩ : ∃ z : Nat, z = 0 := ⟨_, rfl⟩
    replace hl : lv_has ls 6 [(2, .int (nI a)), (0, .ref y0), (1, .int (nI cx))] := by subst e_a; exact hl
    have hI : ∀ x, x < a → ∀ y, y < 6 → (hr_s SA cx x y = true → VA x = VA y) ∧ (hr_s OA cx x y = true → VA x ≠ VA y) := by subst e_a; exact fun x hx => absurd hx (Nat.not_lt_zero _)
    have ha6 : a ≤ 6 := by subst e_a; omega
    clear e_a
    obtain ⟨k, hk⟩ : ∃ k : Nat, k = 6 - a := ⟨_, rfl⟩
    induction k generalizing a ls  with
    | zero =>
      refine lv_iload_n hx hb dX4_holds_27 rfl (lv_at hl 0 rfl) ?_
      refine lv_bipush (v := nI 6) hx hb dX4_holds_28 (by decide) ?_
      refine hw_icmp_ge hx hb (by omega) (by omega) dX4_holds_30 rfl (fun hc => ?_) (fun hc => absurd hc (by omega))
      have hpo : hc_PO VA (hr_s SA cx) (hr_s OA cx) := fun x hx y hy => hI x (by omega) y hy
      refine lv_iconst (v := nI 0) hx hb dX4_holds_118 (by decide) ?_
      refine lv_istore_n hx hb dX4_holds_119 rfl hl (by decide) rfl (fun ls hl => ?_)
      replace hl : lv_has ls 6 [(2, .int (nI 0)), (0, .ref y0), (1, .int (nI cx))] := hl
      obtain ⟨t, e_t⟩ : ∃ z : Nat, z = 0 := ⟨_, rfl⟩
      obtain ⟨K1, e_K1⟩ : ∃ z : Nat → Int32, z = Ua := ⟨_, rfl⟩
      replace hl : lv_has ls 6 [(2, .int (nI t)), (0, .ref y0), (1, .int (nI cx))] := by subst e_t e_K1; exact hl
      replace hP : va_P D vwCl [(y0, .inr (4, [.int (nI 0), .ref y1, .ref y2, .ref y3, .ref y4, .ref y5, .ref y6, .ref y7, .ref y8, .ref y9, .ref ya, .ref yb, .ref yc, .ref yd, .ref ye, .int md, .int o1, .int o2, .int mo, .ref yf, .ref yg, .ref yh])), (y1, .inl (cZ, 72, .inl Sa)), (y2, .inl (cZ, 72, .inl Oa)), (y3, .inl (cI, 2, .inl My)), (y4, .inl (cI, 10, .inl Fa)), (y5, .inl (cI, 10, .inl Ta)), (y6, .inl (cZ, 10, .inl La)), (yf, .inl (cI, 5, .inl Va)), (yg, .inl (cI, 10, .inl Ha)), (yh, .inl (cZ, 10, .inl K1))] H := by subst e_t e_K1; exact hP
      replace hD : va_D A [(y0, .inr (4, [.int (nI 0), .ref y1, .ref y2, .ref y3, .ref y4, .ref y5, .ref y6, .ref y7, .ref y8, .ref y9, .ref ya, .ref yb, .ref yc, .ref yd, .ref ye, .int md, .int o1, .int o2, .int mo, .ref yf, .ref yg, .ref yh])), (y1, .inl (cZ, 72, .inl Sa)), (y2, .inl (cZ, 72, .inl Oa)), (y3, .inl (cI, 2, .inl My)), (y4, .inl (cI, 10, .inl Fa)), (y5, .inl (cI, 10, .inl Ta)), (y6, .inl (cZ, 10, .inl La)), (yf, .inl (cI, 5, .inl Va)), (yg, .inl (cI, 10, .inl Ha)), (yh, .inl (cZ, 10, .inl K1))] := by subst e_t e_K1; exact hD
      have hK1 : ∀ j, j < t → K1 j = hc_b false := by subst e_t e_K1; exact fun j hj => absurd hj (Nat.not_lt_zero _)
      have ht6 : t ≤ 10 := by subst e_t e_K1; omega
      clear e_t e_K1
      obtain ⟨k2, hk2⟩ : ∃ k2 : Nat, k2 = 10 - t := ⟨_, rfl⟩
      induction k2 generalizing t K1 ls H locs  with
      | zero =>
        refine lv_iload_n hx hb dX4_holds_120 rfl (lv_at hl 0 rfl) ?_
        refine lv_bipush (v := nI 10) hx hb dX4_holds_121 (by decide) ?_
        refine hw_icmp_ge hx hb (by omega) (by omega) dX4_holds_123 rfl (fun hc2 => ?_) (fun hc2 => absurd hc2 (by omega))
        refine lv_iconst (v := nI 5) hx hb dX4_holds_139 (by decide) ?_
        refine lv_iload_n hx hb dX4_holds_140 rfl (lv_at hl 2 rfl) ?_
        refine hw_imul hx hb dX4_holds_141 ?_
        refine lv_istore_n hx hb dX4_holds_142 rfl hl (by decide) rfl (fun ls hl => ?_)
        replace hl : lv_has ls 6 [(2, .int (nI (5 * cx))), (0, .ref y0), (1, .int (nI cx))] := hl
        obtain ⟨i, e_i⟩ : ∃ z : Nat, z = 0 := ⟨_, rfl⟩
        obtain ⟨K2, e_K2⟩ : ∃ z : Nat → Int32, z = K1 := ⟨_, rfl⟩
        obtain ⟨T2, e_T2⟩ : ∃ z : Nat → Bool, z = (fun _ => false) := ⟨_, rfl⟩
        replace hl : lv_has ls 6 [(2, .int (nI (5 * cx + i))), (0, .ref y0), (1, .int (nI cx))] := by subst e_i e_K2 e_T2; exact hl
        replace hP : va_P D vwCl [(y0, .inr (4, [.int (nI 0), .ref y1, .ref y2, .ref y3, .ref y4, .ref y5, .ref y6, .ref y7, .ref y8, .ref y9, .ref ya, .ref yb, .ref yc, .ref yd, .ref ye, .int md, .int o1, .int o2, .int mo, .ref yf, .ref yg, .ref yh])), (y1, .inl (cZ, 72, .inl Sa)), (y2, .inl (cZ, 72, .inl Oa)), (y3, .inl (cI, 2, .inl My)), (y4, .inl (cI, 10, .inl Fa)), (y5, .inl (cI, 10, .inl Ta)), (y6, .inl (cZ, 10, .inl La)), (yf, .inl (cI, 5, .inl Va)), (yg, .inl (cI, 10, .inl Ha)), (yh, .inl (cZ, 10, .inl K2))] H := by subst e_i e_K2 e_T2; exact hP
        replace hD : va_D A [(y0, .inr (4, [.int (nI 0), .ref y1, .ref y2, .ref y3, .ref y4, .ref y5, .ref y6, .ref y7, .ref y8, .ref y9, .ref ya, .ref yb, .ref yc, .ref yd, .ref ye, .int md, .int o1, .int o2, .int mo, .ref yf, .ref yg, .ref yh])), (y1, .inl (cZ, 72, .inl Sa)), (y2, .inl (cZ, 72, .inl Oa)), (y3, .inl (cI, 2, .inl My)), (y4, .inl (cI, 10, .inl Fa)), (y5, .inl (cI, 10, .inl Ta)), (y6, .inl (cZ, 10, .inl La)), (yf, .inl (cI, 5, .inl Va)), (yg, .inl (cI, 10, .inl Ha)), (yh, .inl (cZ, 10, .inl K2))] := by subst e_i e_K2 e_T2; exact hD
        have hK2 : ∀ j, j < 10 → K2 j = hc_b (T2 j) := by subst e_i e_K2 e_T2; exact fun j hj => hK1 j (by omega)
        have hpr : hh_I HA (fun i => VA (FA (5 * cx + i))) (fun i => VA (TA (5 * cx + i))) (fun i => LA (5 * cx + i)) i T2 := by subst e_i e_K2 e_T2; exact hh_0
        have hi : i ≤ MA cx := by subst e_i e_K2 e_T2; exact Nat.zero_le _
        clear e_i e_K2 e_T2
        obtain ⟨k3, hk3⟩ : ∃ k3 : Nat, k3 = MA cx - i := ⟨_, rfl⟩
        induction k3 generalizing i K2 T2 ls H locs  with
        | zero =>
          refine lv_iload_n hx hb dX4_holds_143 rfl (lv_at hl 0 rfl) ?_
          refine lv_iconst (v := nI 5) hx hb dX4_holds_144 (by decide) ?_
          refine lv_iload_n hx hb dX4_holds_145 rfl (lv_at hl 2 rfl) ?_
          refine hw_imul hx hb dX4_holds_146 ?_
          refine lv_aload_n hx hb dX4_holds_147 rfl (lv_at hl 1 rfl) ?_
          refine va_get (D := D) (ci := 4) (v := .ref y3) (C := RX4) (T := TX4) (N := 22) hx hb htg hi_X4 hown hK hP 0 rfl rfl 3 (by decide) (htg _ hm_499) (fun _ h9 => h9) rfl dX4_holds_148 ?_
          refine lv_iload_n hx hb dX4_holds_151 rfl (lv_at hl 2 rfl) ?_
          refine hw_iald hx hb hK hP 3 0 rfl rfl (j := cx) (by omega) (by first | decide | omega) (v := nI (MA cx)) ((hM.2.1 cx (by omega)).1) dX4_holds_152 ?_
          refine hw_iadd hx hb dX4_holds_153 ?_
          refine hw_icmp_ge hx hb (by omega) (by omega) dX4_holds_154 rfl (fun hc3 => ?_) (fun hc3 => absurd hc3 (by omega))
          rw [show i = MA cx by omega] at hpr
          refine lv_iconst (v := nI 1) hx hb dX4_holds_173 (by decide) ?_
          refine lv_istore_n hx hb dX4_holds_174 rfl hl (by decide) rfl (fun ls hl => ?_)
          replace hl : lv_has ls 6 [(2, .int (nI 1)), (0, .ref y0), (1, .int (nI cx))] := hl
          obtain ⟨g4, e_g4⟩ : ∃ z : Nat, z = 1 := ⟨_, rfl⟩
          replace hl : lv_has ls 6 [(2, .int (nI g4)), (0, .ref y0), (1, .int (nI cx))] := by subst e_g4; exact hl
          have hI4 : ∀ j, j < g4 → HA j ≠ none → T2 j = true := by subst e_g4; exact fun j hj h9 => absurd (hH.2.2.1 j h9).1 (by omega)
          have hg4 : 1 ≤ g4 ∧ g4 ≤ 10 := by subst e_g4; omega
          clear e_g4
          obtain ⟨k4, hk4⟩ : ∃ k4 : Nat, k4 = 10 - g4 := ⟨_, rfl⟩
          induction k4 generalizing g4 ls  with
          | zero =>
            refine lv_iload_n hx hb dX4_holds_175 rfl (lv_at hl 0 rfl) ?_
            refine lv_bipush (v := nI 10) hx hb dX4_holds_176 (by decide) ?_
            refine hw_icmp_ge hx hb (by omega) (by omega) dX4_holds_178 rfl (fun hc4 => ?_) (fun hc4 => absurd hc4 (by omega))
            refine lv_iconst (v := nI 1) hx hb dX4_holds_207 (by decide) ?_
            exact W.zret (v := nI 1) hx hb hr (by decide +kernel) (fun t9 ht9 hW9 => ⟨⟨_, (nI 0, K2), rfl, Or.inr ⟨hq1, rfl, Or.inl ⟨rfl, hpo, (hh_e hpr).mpr (fun j hj => hI4 j (by have := hH.2.2.1 j hj; omega) hj)⟩⟩, by show va_P D vwCl [(y0, .inr (4, [.int (nI 0), .ref y1, .ref y2, .ref y3, .ref y4, .ref y5, .ref y6, .ref y7, .ref y8, .ref y9, .ref ya, .ref yb, .ref yc, .ref yd, .ref ye, .int md, .int o1, .int o2, .int mo, .ref yf, .ref yg, .ref yh])), (y1, .inl (cZ, 72, .inl Sa)), (y2, .inl (cZ, 72, .inl Oa)), (y3, .inl (cI, 2, .inl My)), (y4, .inl (cI, 10, .inl Fa)), (y5, .inl (cI, 10, .inl Ta)), (y6, .inl (cZ, 10, .inl La)), (yf, .inl (cI, 5, .inl Va)), (yg, .inl (cI, 10, .inl Ha)), (yh, .inl (cZ, 10, .inl K2))] t9.heap; rw [ht9]; exact hP⟩, hS.F ht9⟩) hS.2.2 dX4_holds_208
          | succ k4 ih4 =>
            refine lv_iload_n hx hb dX4_holds_175 rfl (lv_at hl 0 rfl) ?_
            refine lv_bipush (v := nI 10) hx hb dX4_holds_176 (by decide) ?_
            refine hw_icmp_ge hx hb (by omega) (by omega) dX4_holds_178 rfl (fun hc4 => absurd hc4 (by omega)) (fun hc4 => ?_)
            cases hn : HA g4 with
            | none =>
              refine lv_aload_n hx hb dX4_holds_181 rfl (lv_at hl 1 rfl) ?_
              refine va_get (D := D) (ci := 4) (v := .ref yg) (C := RX4) (T := TX4) (N := 22) hx hb htg hi_X4 hown hK hP 0 rfl rfl 20 (by decide) (htg _ hm_516) (fun _ h9 => h9) rfl dX4_holds_182 ?_
              refine lv_iload_n hx hb dX4_holds_185 rfl (lv_at hl 0 rfl) ?_
              refine hw_iald hx hb hK hP 8 0 rfl rfl (j := g4) (by omega) (by first | decide | omega) (v := -1) ((hH.2.2.2 _ (by omega)).1 hn) dX4_holds_186 ?_
              refine lv_if_lt hx hb dX4_holds_187 rfl (fun hc9 => ?_) (fun hc9 => absurd (by decide) hc9)
              refine lv_iinc (v := nI (g4 + 1)) (k := 0) hx hb dX4_holds_201 hl rfl (hw_inc _) (by decide) rfl (fun ls hl => ?_)
              replace hl : lv_has ls 6 [(2, .int (nI (g4 + 1))), (0, .ref y0), (1, .int (nI cx))] := hl
              refine lv_goto hx hb dX4_holds_204 rfl ?_
              refine ih4 (hl := hl) (hI4 := (fun j hj hjn => ?_)) (hg4 := (by omega)) (hk4 := (by omega))
              by_cases hjg : j = g4
              · rw [hjg] at hjn ⊢; exact absurd hn hjn
              · exact hI4 j (by omega) hjn
            | some zz =>
              obtain ⟨c1, c2⟩ := (hH.2.2.2 g4 (by omega)).2 zz hn
              refine lv_aload_n hx hb dX4_holds_181 rfl (lv_at hl 1 rfl) ?_
              refine va_get (D := D) (ci := 4) (v := .ref yg) (C := RX4) (T := TX4) (N := 22) hx hb htg hi_X4 hown hK hP 0 rfl rfl 20 (by decide) (htg _ hm_516) (fun _ h9 => h9) rfl dX4_holds_182 ?_
              refine lv_iload_n hx hb dX4_holds_185 rfl (lv_at hl 0 rfl) ?_
              refine hw_iald hx hb hK hP 8 0 rfl rfl (j := g4) (by omega) (by first | decide | omega) (v := nI zz) (c2) dX4_holds_186 ?_
              refine lv_if_lt hx hb dX4_holds_187 rfl (fun hc9 => absurd hc9 (nI_pos (by omega))) (fun hc9 => ?_)
              refine lv_aload_n hx hb dX4_holds_190 rfl (lv_at hl 1 rfl) ?_
              refine va_get (D := D) (ci := 4) (v := .ref yh) (C := RX4) (T := TX4) (N := 22) hx hb htg hi_X4 hown hK hP 0 rfl rfl 21 (by decide) (htg _ hm_517) (fun _ h9 => h9) rfl dX4_holds_191 ?_
              refine lv_iload_n hx hb dX4_holds_194 rfl (lv_at hl 0 rfl) ?_
              refine hw_zald hx hb hK hP 9 1 rfl rfl (j := g4) (by omega) (by first | decide | omega) (v := hc_b (T2 g4)) (hK2 g4 (by omega)) dX4_holds_195 ?_
              refine hw_ifne_b hx hb dX4_holds_196 rfl (fun ht3 => ?_) (fun ht3 => ?_)
              · refine lv_iinc (v := nI (g4 + 1)) (k := 0) hx hb dX4_holds_201 hl rfl (hw_inc _) (by decide) rfl (fun ls hl => ?_)
                replace hl : lv_has ls 6 [(2, .int (nI (g4 + 1))), (0, .ref y0), (1, .int (nI cx))] := hl
                refine lv_goto hx hb dX4_holds_204 rfl ?_
                refine ih4 (hl := hl) (hI4 := (fun j hj hjn => ?_)) (hg4 := (by omega)) (hk4 := (by omega))
                by_cases hjg : j = g4
                · rw [hjg] at hjn ⊢; exact ht3
                · exact hI4 j (by omega) hjn
              · refine lv_iconst (v := nI 0) hx hb dX4_holds_199 (by decide) ?_
                exact W.zret (v := nI 0) hx hb hr (by decide +kernel) (fun t9 ht9 hW9 => ⟨⟨_, (nI 0, K2), rfl, Or.inr ⟨hq1, rfl, Or.inr ⟨rfl, fun h9 => (by have h8 := (hh_e hpr).mp h9.2 g4 (by rw [hn]; exact fun q => (by cases q)); rw [ht3] at h8; cases h8)⟩⟩, by show va_P D vwCl [(y0, .inr (4, [.int (nI 0), .ref y1, .ref y2, .ref y3, .ref y4, .ref y5, .ref y6, .ref y7, .ref y8, .ref y9, .ref ya, .ref yb, .ref yc, .ref yd, .ref ye, .int md, .int o1, .int o2, .int mo, .ref yf, .ref yg, .ref yh])), (y1, .inl (cZ, 72, .inl Sa)), (y2, .inl (cZ, 72, .inl Oa)), (y3, .inl (cI, 2, .inl My)), (y4, .inl (cI, 10, .inl Fa)), (y5, .inl (cI, 10, .inl Ta)), (y6, .inl (cZ, 10, .inl La)), (yf, .inl (cI, 5, .inl Va)), (yg, .inl (cI, 10, .inl Ha)), (yh, .inl (cZ, 10, .inl K2))] t9.heap; rw [ht9]; exact hP⟩, hS.F ht9⟩) hS.2.2 dX4_holds_200
        | succ k3 ih3 =>
          refine lv_iload_n hx hb dX4_holds_143 rfl (lv_at hl 0 rfl) ?_
          refine lv_iconst (v := nI 5) hx hb dX4_holds_144 (by decide) ?_
          refine lv_iload_n hx hb dX4_holds_145 rfl (lv_at hl 2 rfl) ?_
          refine hw_imul hx hb dX4_holds_146 ?_
          refine lv_aload_n hx hb dX4_holds_147 rfl (lv_at hl 1 rfl) ?_
          refine va_get (D := D) (ci := 4) (v := .ref y3) (C := RX4) (T := TX4) (N := 22) hx hb htg hi_X4 hown hK hP 0 rfl rfl 3 (by decide) (htg _ hm_499) (fun _ h9 => h9) rfl dX4_holds_148 ?_
          refine lv_iload_n hx hb dX4_holds_151 rfl (lv_at hl 2 rfl) ?_
          refine hw_iald hx hb hK hP 3 0 rfl rfl (j := cx) (by omega) (by first | decide | omega) (v := nI (MA cx)) ((hM.2.1 cx (by omega)).1) dX4_holds_152 ?_
          refine hw_iadd hx hb dX4_holds_153 ?_
          refine hw_icmp_ge hx hb (by omega) (by omega) dX4_holds_154 rfl (fun hc3 => absurd hc3 (by omega)) (fun hc3 => ?_)
          refine lv_aload_n hx hb dX4_holds_157 rfl (lv_at hl 1 rfl) ?_
          refine lv_iload_n hx hb dX4_holds_158 rfl (lv_at hl 0 rfl) ?_
          refine hv_calli (w1 := fun u => [(y0, .inr (4, [.int (nI 0), .ref y1, .ref y2, .ref y3, .ref y4, .ref y5, .ref y6, .ref y7, .ref y8, .ref y9, .ref ya, .ref yb, .ref yc, .ref yd, .ref ye, .int md, .int o1, .int o2, .int mo, .ref yf, .ref yg, .ref yh])), (y4, .inl (cI, 10, .inl Fa)), (y5, .inl (cI, 10, .inl Ta)), (y6, .inl (cZ, 10, .inl La)), (yf, .inl (cI, 5, .inl Va)), (yg, .inl (cI, 10, .inl Ha)), (yh, .inl (cZ, 10, .inl u))]) (va_runV (C := RX4) (b := y0) (As := [.int (nI (5 * cx + i))]) (rest := []) ⟨hx, hb, hml, hown, htg⟩ (k_X4_takesAtHand l D cI cZ cJ _ Sa Oa My Fa Ta La SA OA MA FA TA LA Va Ha VA HA K2 T2 (5 * cx + i) (nI 0) md o1 o2 mo y0 y1 y2 y3 y4 y5 y6 y7 y8 y9 ya yb yc yd ye yf yg yh hM hH hK2 (by omega)) (cwV 1 htg (hg_V hm_676 hm_678 hs_yX4_takesAtHand hm_6 hm_679) rfl rfl rfl (by decide +kernel) ⟨Nat.le_of_ble_eq_true rfl, Nat.le_of_ble_eq_true rfl⟩) ⟨hp_M_blind, va_recv (q := (RX4, TX4, 22)) (q0 := 0) (ci := 4) hK hP rfl rfl, hp_M_pre (hP.sub (ws' := [(y0, .inr (4, [.int (nI 0), .ref y1, .ref y2, .ref y3, .ref y4, .ref y5, .ref y6, .ref y7, .ref y8, .ref y9, .ref ya, .ref yb, .ref yc, .ref yd, .ref ye, .int md, .int o1, .int o2, .int mo, .ref yf, .ref yg, .ref yh])), (y4, .inl (cI, 10, .inl Fa)), (y5, .inl (cI, 10, .inl Ta)), (y6, .inl (cZ, 10, .inl La)), (yf, .inl (cI, 5, .inl Va)), (yg, .inl (cI, 10, .inl Ha)), (yh, .inl (cZ, 10, .inl K2))]) [0, 4, 5, 6, 7, 8, 9] rfl) (hD.sub (ws' := [(y0, .inr (4, [.int (nI 0), .ref y1, .ref y2, .ref y3, .ref y4, .ref y5, .ref y6, .ref y7, .ref y8, .ref y9, .ref ya, .ref yb, .ref yc, .ref yd, .ref ye, .int md, .int o1, .int o2, .int mo, .ref yf, .ref yg, .ref yh])), (y4, .inl (cI, 10, .inl Fa)), (y5, .inl (cI, 10, .inl Ta)), (y6, .inl (cZ, 10, .inl La)), (yf, .inl (cI, 5, .inl Va)), (yg, .inl (cI, 10, .inl Ha)), (yh, .inl (cZ, 10, .inl K2))]) [0, 4, 5, 6, 7, 8, 9] (by decide) rfl) hz⟩ rfl rfl hl.1 rfl (lv_room (Nat.le_of_ble_eq_true rfl)) dX4_holds_159 ⟨Nat.zero_le _, Nat.zero_le _⟩) hP hD hS hA [0, 4, 5, 6, 7, 8, 9] rfl (fun _ => rfl) (fun r K4 H locs hq4 hP hD hS => ?_)
          replace hP : va_P D vwCl [(y0, .inr (4, [.int (nI 0), .ref y1, .ref y2, .ref y3, .ref y4, .ref y5, .ref y6, .ref y7, .ref y8, .ref y9, .ref ya, .ref yb, .ref yc, .ref yd, .ref ye, .int md, .int o1, .int o2, .int mo, .ref yf, .ref yg, .ref yh])), (y1, .inl (cZ, 72, .inl Sa)), (y2, .inl (cZ, 72, .inl Oa)), (y3, .inl (cI, 2, .inl My)), (y4, .inl (cI, 10, .inl Fa)), (y5, .inl (cI, 10, .inl Ta)), (y6, .inl (cZ, 10, .inl La)), (yf, .inl (cI, 5, .inl Va)), (yg, .inl (cI, 10, .inl Ha)), (yh, .inl (cZ, 10, .inl K4))] H := hP
          replace hD : va_D A [(y0, .inr (4, [.int (nI 0), .ref y1, .ref y2, .ref y3, .ref y4, .ref y5, .ref y6, .ref y7, .ref y8, .ref y9, .ref ya, .ref yb, .ref yc, .ref yd, .ref ye, .int md, .int o1, .int o2, .int mo, .ref yf, .ref yg, .ref yh])), (y1, .inl (cZ, 72, .inl Sa)), (y2, .inl (cZ, 72, .inl Oa)), (y3, .inl (cI, 2, .inl My)), (y4, .inl (cI, 10, .inl Fa)), (y5, .inl (cI, 10, .inl Ta)), (y6, .inl (cZ, 10, .inl La)), (yf, .inl (cI, 5, .inl Va)), (yg, .inl (cI, 10, .inl Ha)), (yh, .inl (cZ, 10, .inl K4))] := hD
          rcases hq4 with ⟨rfl, l9, T4, h1, h2, h3, h4⟩ | ⟨rfl, hq4⟩
          · refine lv_if_ne hx hb dX4_holds_162 rfl (fun hc9 => ?_) (fun hc9 => absurd hc9 (by decide))
            refine lv_iinc (v := nI (5 * cx + i + 1)) (k := 0) hx hb dX4_holds_167 hl rfl (hw_inc _) (by decide) rfl (fun ls hl => ?_)
            replace hl : lv_has ls 6 [(2, .int (nI (5 * cx + i + 1))), (0, .ref y0), (1, .int (nI cx))] := hl
            refine lv_goto hx hb dX4_holds_170 rfl ?_
            refine ih3 (i := (i + 1)) (hS := hS) (hl := hl) (hP := hP) (hD := hD) (hK2 := h3) (hpr := (hh_1 hpr h1 h2 h4)) (hi := (by omega)) (hk3 := (by omega))
          · refine lv_if_ne hx hb dX4_holds_162 rfl (fun hc9 => absurd rfl hc9) (fun hc9 => ?_)
            refine lv_iconst (v := nI 0) hx hb dX4_holds_165 (by decide) ?_
            exact W.zret (v := nI 0) hx hb hr (by decide +kernel) (fun t9 ht9 hW9 => ⟨⟨_, (nI 0, K4), rfl, Or.inr ⟨hq1, rfl, Or.inr ⟨rfl, fun h9 => hh_no (by omega) hpr hq4 h9.2⟩⟩, by show va_P D vwCl [(y0, .inr (4, [.int (nI 0), .ref y1, .ref y2, .ref y3, .ref y4, .ref y5, .ref y6, .ref y7, .ref y8, .ref y9, .ref ya, .ref yb, .ref yc, .ref yd, .ref ye, .int md, .int o1, .int o2, .int mo, .ref yf, .ref yg, .ref yh])), (y1, .inl (cZ, 72, .inl Sa)), (y2, .inl (cZ, 72, .inl Oa)), (y3, .inl (cI, 2, .inl My)), (y4, .inl (cI, 10, .inl Fa)), (y5, .inl (cI, 10, .inl Ta)), (y6, .inl (cZ, 10, .inl La)), (yf, .inl (cI, 5, .inl Va)), (yg, .inl (cI, 10, .inl Ha)), (yh, .inl (cZ, 10, .inl K4))] t9.heap; rw [ht9]; exact hP⟩, hS.F ht9⟩) hS.2.2 dX4_holds_166
      | succ k2 ih2 =>
        refine lv_iload_n hx hb dX4_holds_120 rfl (lv_at hl 0 rfl) ?_
        refine lv_bipush (v := nI 10) hx hb dX4_holds_121 (by decide) ?_
        refine hw_icmp_ge hx hb (by omega) (by omega) dX4_holds_123 rfl (fun hc2 => absurd hc2 (by omega)) (fun hc2 => ?_)
        refine lv_aload_n hx hb dX4_holds_126 rfl (lv_at hl 1 rfl) ?_
        refine va_get (D := D) (ci := 4) (v := .ref yh) (C := RX4) (T := TX4) (N := 22) hx hb htg hi_X4 hown hK hP 0 rfl rfl 21 (by decide) (htg _ hm_517) (fun _ h9 => h9) rfl dX4_holds_127 ?_
        refine lv_iload_n hx hb dX4_holds_130 rfl (lv_at hl 0 rfl) ?_
        refine lv_iconst (v := nI 0) hx hb dX4_holds_131 (by decide) ?_
        refine hw_zast hx hb hK hP hD hS 9 1 rfl rfl (j := t) (by omega) (by first | decide | omega) dX4_holds_132 (fun H locs hP hD hS => ?_)
        rw [hw_nar0] at hP hD
        replace hP : va_P D vwCl [(y0, .inr (4, [.int (nI 0), .ref y1, .ref y2, .ref y3, .ref y4, .ref y5, .ref y6, .ref y7, .ref y8, .ref y9, .ref ya, .ref yb, .ref yc, .ref yd, .ref ye, .int md, .int o1, .int o2, .int mo, .ref yf, .ref yg, .ref yh])), (y1, .inl (cZ, 72, .inl Sa)), (y2, .inl (cZ, 72, .inl Oa)), (y3, .inl (cI, 2, .inl My)), (y4, .inl (cI, 10, .inl Fa)), (y5, .inl (cI, 10, .inl Ta)), (y6, .inl (cZ, 10, .inl La)), (yf, .inl (cI, 5, .inl Va)), (yg, .inl (cI, 10, .inl Ha)), (yh, .inl (cZ, 10, .inl (upd K1 t (hc_b false))))] H := hP
        replace hD : va_D A [(y0, .inr (4, [.int (nI 0), .ref y1, .ref y2, .ref y3, .ref y4, .ref y5, .ref y6, .ref y7, .ref y8, .ref y9, .ref ya, .ref yb, .ref yc, .ref yd, .ref ye, .int md, .int o1, .int o2, .int mo, .ref yf, .ref yg, .ref yh])), (y1, .inl (cZ, 72, .inl Sa)), (y2, .inl (cZ, 72, .inl Oa)), (y3, .inl (cI, 2, .inl My)), (y4, .inl (cI, 10, .inl Fa)), (y5, .inl (cI, 10, .inl Ta)), (y6, .inl (cZ, 10, .inl La)), (yf, .inl (cI, 5, .inl Va)), (yg, .inl (cI, 10, .inl Ha)), (yh, .inl (cZ, 10, .inl (upd K1 t (hc_b false))))] := hD
        refine lv_iinc (v := nI (t + 1)) (k := 0) hx hb dX4_holds_133 hl rfl (hw_inc _) (by decide) rfl (fun ls hl => ?_)
        replace hl : lv_has ls 6 [(2, .int (nI (t + 1))), (0, .ref y0), (1, .int (nI cx))] := hl
        refine lv_goto hx hb dX4_holds_136 rfl ?_
        refine ih2 (hS := hS) (hl := hl) (hP := hP) (hD := hD) (hK1 := (fun j hj => ?_)) (ht6 := (by omega)) (hk2 := (by omega))
        unfold upd
        by_cases hjt : j = t
        · rw [if_pos hjt]
        · rw [if_neg hjt]; exact hK1 j (by omega)
    | succ k ih =>
      refine lv_iload_n hx hb dX4_holds_27 rfl (lv_at hl 0 rfl) ?_
      refine lv_bipush (v := nI 6) hx hb dX4_holds_28 (by decide) ?_
      refine hw_icmp_ge hx hb (by omega) (by omega) dX4_holds_30 rfl (fun hc => absurd hc (by omega)) (fun hc => ?_)
      refine lv_iconst (v := nI 0) hx hb dX4_holds_33 (by decide) ?_
      refine lv_istore_n hx hb dX4_holds_34 rfl hl (by decide) rfl (fun ls hl => ?_)
      replace hl : lv_has ls 6 [(3, .int (nI 0)), (2, .int (nI a)), (0, .ref y0), (1, .int (nI cx))] := hl
      obtain ⟨b, e_b⟩ : ∃ z : Nat, z = 0 := ⟨_, rfl⟩
      replace hl : lv_has ls 6 [(3, .int (nI b)), (2, .int (nI a)), (0, .ref y0), (1, .int (nI cx))] := by subst e_b; exact hl
      have hJ : ∀ y, y < b → (hr_s SA cx a y = true → VA a = VA y) ∧ (hr_s OA cx a y = true → VA a ≠ VA y) := by subst e_b; exact fun x hx => absurd hx (Nat.not_lt_zero _)
      have hb6 : b ≤ 6 := by subst e_b; omega
      clear e_b
      obtain ⟨k5, hk5⟩ : ∃ k5 : Nat, k5 = 6 - b := ⟨_, rfl⟩
      induction k5 generalizing b ls  with
      | zero =>
        refine lv_iload_n hx hb dX4_holds_35 rfl (lv_at hl 0 rfl) ?_
        refine lv_bipush (v := nI 6) hx hb dX4_holds_36 (by decide) ?_
        refine hw_icmp_ge hx hb (by omega) (by omega) dX4_holds_38 rfl (fun hc2 => ?_) (fun hc2 => absurd hc2 (by omega))
        refine lv_iinc (v := nI (a + 1)) (k := 1) hx hb dX4_holds_112 hl rfl (hw_inc _) (by decide) rfl (fun ls hl => ?_)
        replace hl : lv_has ls 6 [(2, .int (nI (a + 1))), (3, .int (nI b)), (0, .ref y0), (1, .int (nI cx))] := hl
        refine lv_goto hx hb dX4_holds_115 rfl ?_
        replace hl : lv_has ls 6 [(2, .int (nI (a + 1))), (0, .ref y0), (1, .int (nI cx))] := lv_sub hl [0, 2, 3] rfl
        refine ih (hl := hl) (hI := (fun x hx y hy => ?_)) (ha6 := (by omega)) (hk := (by omega))
        by_cases hxa : x = a
        · rw [hxa]; exact hJ y (by omega)
        · exact hI x (by omega) y hy
      | succ k5 ih5 =>
        refine lv_iload_n hx hb dX4_holds_35 rfl (lv_at hl 0 rfl) ?_
        refine lv_bipush (v := nI 6) hx hb dX4_holds_36 (by decide) ?_
        refine hw_icmp_ge hx hb (by omega) (by omega) dX4_holds_38 rfl (fun hc2 => absurd hc2 (by omega)) (fun hc2 => ?_)
        have hva := hr_v6 hH a (by omega)
        have hvb := hr_v6 hH b (by omega)
        refine lv_bipush (v := nI 36) hx hb dX4_holds_41 (by decide) ?_
        refine lv_iload_n hx hb dX4_holds_43 rfl (lv_at hl 3 rfl) ?_
        refine hw_imul hx hb dX4_holds_44 ?_
        refine lv_bipush (v := nI 6) hx hb dX4_holds_45 (by decide) ?_
        refine lv_iload_n hx hb dX4_holds_47 rfl (lv_at hl 1 rfl) ?_
        refine hw_imul hx hb dX4_holds_48 ?_
        refine hw_iadd hx hb dX4_holds_49 ?_
        refine lv_iload_n hx hb dX4_holds_50 rfl (lv_at hl 0 rfl) ?_
        refine hw_iadd hx hb dX4_holds_51 ?_
        refine lv_istore hx hb dX4_holds_52 hl (by decide) rfl (fun ls hl => ?_)
        replace hl : lv_has ls 6 [(4, .int (nI (36 * cx + 6 * a + b))), (3, .int (nI b)), (2, .int (nI a)), (0, .ref y0), (1, .int (nI cx))] := hl
        refine lv_aload_n hx hb dX4_holds_54 rfl (lv_at hl 3 rfl) ?_
        refine lv_iload_n hx hb dX4_holds_55 rfl (lv_at hl 2 rfl) ?_
        refine hw_csi (va_runV (C := RX4) (b := y0) (As := [.int (nI a)]) (rest := []) ⟨hx, hb, hml, hown, htg⟩ (k_X4_valueOf l D cI cZ cJ Va Ha VA HA a (nI 0) md o1 o2 mo y0 y1 y2 y3 y4 y5 y6 y7 y8 y9 ya yb yc yd ye yf yg yh hH (by omega)) (cwV 1 htg (hg_V hm_672 hm_674 hs_yX4_valueOf hm_6 hm_675) rfl rfl rfl (by decide +kernel) ⟨Nat.le_of_ble_eq_true rfl, Nat.le_of_ble_eq_true rfl⟩) ⟨hp_R_blind, va_recv (q := (RX4, TX4, 22)) (q0 := 0) (ci := 4) hK hP rfl rfl, hp_R_pre (hP.sub (ws' := [(y0, .inr (4, [.int (nI 0), .ref y1, .ref y2, .ref y3, .ref y4, .ref y5, .ref y6, .ref y7, .ref y8, .ref y9, .ref ya, .ref yb, .ref yc, .ref yd, .ref ye, .int md, .int o1, .int o2, .int mo, .ref yf, .ref yg, .ref yh])), (yf, .inl (cI, 5, .inl Va))]) [0, 7] rfl) hz⟩ rfl rfl hl.1 rfl (lv_room (Nat.le_of_ble_eq_true rfl)) dX4_holds_56 ⟨Nat.zero_le _, Nat.zero_le _⟩) (fun r9 hv9 => ?_)
        subst hv9
        refine lv_aload_n hx hb dX4_holds_59 rfl (lv_at hl 3 rfl) ?_
        refine lv_iload_n hx hb dX4_holds_60 rfl (lv_at hl 1 rfl) ?_
        refine hw_csi (va_runV (C := RX4) (b := y0) (As := [.int (nI b)]) (rest := [.int (nI (VA a))]) ⟨hx, hb, hml, hown, htg⟩ (k_X4_valueOf l D cI cZ cJ Va Ha VA HA b (nI 0) md o1 o2 mo y0 y1 y2 y3 y4 y5 y6 y7 y8 y9 ya yb yc yd ye yf yg yh hH (by omega)) (cwV 1 htg (hg_V hm_672 hm_674 hs_yX4_valueOf hm_6 hm_675) rfl rfl rfl (by decide +kernel) ⟨Nat.le_of_ble_eq_true rfl, Nat.le_of_ble_eq_true rfl⟩) ⟨hp_R_blind, va_recv (q := (RX4, TX4, 22)) (q0 := 0) (ci := 4) hK hP rfl rfl, hp_R_pre (hP.sub (ws' := [(y0, .inr (4, [.int (nI 0), .ref y1, .ref y2, .ref y3, .ref y4, .ref y5, .ref y6, .ref y7, .ref y8, .ref y9, .ref ya, .ref yb, .ref yc, .ref yd, .ref ye, .int md, .int o1, .int o2, .int mo, .ref yf, .ref yg, .ref yh])), (yf, .inl (cI, 5, .inl Va))]) [0, 7] rfl) hz⟩ rfl rfl hl.1 rfl (lv_room (Nat.le_of_ble_eq_true rfl)) dX4_holds_61 ⟨Nat.zero_le _, Nat.zero_le _⟩) (fun r9 hv8 => ?_)
        subst hv8
        refine hw_icmp_ne hx hb (by omega) (by omega) dX4_holds_64 rfl (fun heq => ?_) (fun heq => ?_)
        · refine lv_iconst (v := nI 0) hx hb dX4_holds_71 (by decide) ?_
          refine lv_istore hx hb dX4_holds_72 hl (by decide) rfl (fun ls hl => ?_)
          replace hl : lv_has ls 6 [(5, .int (nI 0)), (4, .int (nI (36 * cx + 6 * a + b))), (3, .int (nI b)), (2, .int (nI a)), (0, .ref y0), (1, .int (nI cx))] := hl
          refine lv_aload_n hx hb dX4_holds_74 rfl (lv_at hl 4 rfl) ?_
          refine va_get (D := D) (ci := 4) (v := .ref y1) (C := RX4) (T := TX4) (N := 22) hx hb htg hi_X4 hown hK hP 0 rfl rfl 1 (by decide) (htg _ hm_497) (fun _ h9 => h9) rfl dX4_holds_75 ?_
          refine lv_iload hx hb dX4_holds_78 (lv_at hl 1 rfl) ?_
          refine hw_zald hx hb hK hP 1 1 rfl rfl (j := (36 * cx + 6 * a + b)) (by omega) (by first | decide | omega) (v := hc_b (SA (36 * cx + 6 * a + b))) ((hM.1 (36 * cx + 6 * a + b) (by omega)).1) dX4_holds_80 ?_
          refine hw_ifeq_b hx hb dX4_holds_81 rfl (fun hs => ?_) (fun hs => ?_)
          · refine lv_aload_n hx hb dX4_holds_89 rfl (lv_at hl 4 rfl) ?_
            refine va_get (D := D) (ci := 4) (v := .ref y2) (C := RX4) (T := TX4) (N := 22) hx hb htg hi_X4 hown hK hP 0 rfl rfl 2 (by decide) (htg _ hm_498) (fun _ h9 => h9) rfl dX4_holds_90 ?_
            refine lv_iload hx hb dX4_holds_93 (lv_at hl 1 rfl) ?_
            refine hw_zald hx hb hK hP 2 1 rfl rfl (j := (36 * cx + 6 * a + b)) (by omega) (by first | decide | omega) (v := hc_b (OA (36 * cx + 6 * a + b))) ((hM.1 (36 * cx + 6 * a + b) (by omega)).2) dX4_holds_95 ?_
            refine hw_ifeq_b hx hb dX4_holds_96 rfl (fun ho => ?_) (fun ho => ?_)
            · refine lv_iinc (v := nI (b + 1)) (k := 2) hx hb dX4_holds_106 hl rfl (hw_inc _) (by decide) rfl (fun ls hl => ?_)
              replace hl : lv_has ls 6 [(3, .int (nI (b + 1))), (5, .int (nI 0)), (4, .int (nI (36 * cx + 6 * a + b))), (2, .int (nI a)), (0, .ref y0), (1, .int (nI cx))] := hl
              refine lv_goto hx hb dX4_holds_109 rfl ?_
              replace hl : lv_has ls 6 [(3, .int (nI (b + 1))), (2, .int (nI a)), (0, .ref y0), (1, .int (nI cx))] := lv_sub hl [0, 3, 4, 5] rfl
              refine ih5 (hl := hl) (hJ := (fun y hy => ?_)) (hb6 := (by omega)) (hk5 := (by omega))
              by_cases hyb : y = b
              · rw [hyb]; exact ⟨fun q => absurd (hs.symm.trans q) (by decide), fun q => absurd (ho.symm.trans q) (by decide)⟩
              · exact hJ y (by omega)
            · refine lv_iload hx hb dX4_holds_99 (lv_at hl 0 rfl) ?_
              refine lv_if_eq hx hb dX4_holds_101 rfl (fun hc9 => ?_) (fun hc9 => absurd rfl hc9)
              refine lv_iinc (v := nI (b + 1)) (k := 2) hx hb dX4_holds_106 hl rfl (hw_inc _) (by decide) rfl (fun ls hl => ?_)
              replace hl : lv_has ls 6 [(3, .int (nI (b + 1))), (5, .int (nI 0)), (4, .int (nI (36 * cx + 6 * a + b))), (2, .int (nI a)), (0, .ref y0), (1, .int (nI cx))] := hl
              refine lv_goto hx hb dX4_holds_109 rfl ?_
              replace hl : lv_has ls 6 [(3, .int (nI (b + 1))), (2, .int (nI a)), (0, .ref y0), (1, .int (nI cx))] := lv_sub hl [0, 3, 4, 5] rfl
              refine ih5 (hl := hl) (hJ := (fun y hy => ?_)) (hb6 := (by omega)) (hk5 := (by omega))
              by_cases hyb : y = b
              · rw [hyb]; exact ⟨fun q => absurd (hs.symm.trans q) (by decide), fun _ => heq⟩
              · exact hJ y (by omega)
          · refine lv_iload hx hb dX4_holds_84 (lv_at hl 0 rfl) ?_
            refine lv_if_eq hx hb dX4_holds_86 rfl (fun hc9 => ?_) (fun hc9 => absurd rfl hc9)
            refine lv_iconst (v := nI 0) hx hb dX4_holds_104 (by decide) ?_
            exact W.zret (v := nI 0) hx hb hr (by decide +kernel) (fun t9 ht9 hW9 => ⟨⟨_, (nI 0, Ua), rfl, Or.inr ⟨hq1, rfl, Or.inr ⟨rfl, fun h9 => heq ((h9.1 a (by omega) b (by omega)).1 hs)⟩⟩, by show va_P D vwCl [(y0, .inr (4, [.int (nI 0), .ref y1, .ref y2, .ref y3, .ref y4, .ref y5, .ref y6, .ref y7, .ref y8, .ref y9, .ref ya, .ref yb, .ref yc, .ref yd, .ref ye, .int md, .int o1, .int o2, .int mo, .ref yf, .ref yg, .ref yh])), (y1, .inl (cZ, 72, .inl Sa)), (y2, .inl (cZ, 72, .inl Oa)), (y3, .inl (cI, 2, .inl My)), (y4, .inl (cI, 10, .inl Fa)), (y5, .inl (cI, 10, .inl Ta)), (y6, .inl (cZ, 10, .inl La)), (yf, .inl (cI, 5, .inl Va)), (yg, .inl (cI, 10, .inl Ha)), (yh, .inl (cZ, 10, .inl Ua))] t9.heap; rw [ht9]; exact hP⟩, hS.F ht9⟩) hS.2.2 dX4_holds_105
        · refine lv_iconst (v := nI 1) hx hb dX4_holds_67 (by decide) ?_
          refine lv_goto hx hb dX4_holds_68 rfl ?_
          refine lv_istore hx hb dX4_holds_72 hl (by decide) rfl (fun ls hl => ?_)
          replace hl : lv_has ls 6 [(5, .int (nI 1)), (4, .int (nI (36 * cx + 6 * a + b))), (3, .int (nI b)), (2, .int (nI a)), (0, .ref y0), (1, .int (nI cx))] := hl
          refine lv_aload_n hx hb dX4_holds_74 rfl (lv_at hl 4 rfl) ?_
          refine va_get (D := D) (ci := 4) (v := .ref y1) (C := RX4) (T := TX4) (N := 22) hx hb htg hi_X4 hown hK hP 0 rfl rfl 1 (by decide) (htg _ hm_497) (fun _ h9 => h9) rfl dX4_holds_75 ?_
          refine lv_iload hx hb dX4_holds_78 (lv_at hl 1 rfl) ?_
          refine hw_zald hx hb hK hP 1 1 rfl rfl (j := (36 * cx + 6 * a + b)) (by omega) (by first | decide | omega) (v := hc_b (SA (36 * cx + 6 * a + b))) ((hM.1 (36 * cx + 6 * a + b) (by omega)).1) dX4_holds_80 ?_
          refine hw_ifeq_b hx hb dX4_holds_81 rfl (fun hs => ?_) (fun hs => ?_)
          · refine lv_aload_n hx hb dX4_holds_89 rfl (lv_at hl 4 rfl) ?_
            refine va_get (D := D) (ci := 4) (v := .ref y2) (C := RX4) (T := TX4) (N := 22) hx hb htg hi_X4 hown hK hP 0 rfl rfl 2 (by decide) (htg _ hm_498) (fun _ h9 => h9) rfl dX4_holds_90 ?_
            refine lv_iload hx hb dX4_holds_93 (lv_at hl 1 rfl) ?_
            refine hw_zald hx hb hK hP 2 1 rfl rfl (j := (36 * cx + 6 * a + b)) (by omega) (by first | decide | omega) (v := hc_b (OA (36 * cx + 6 * a + b))) ((hM.1 (36 * cx + 6 * a + b) (by omega)).2) dX4_holds_95 ?_
            refine hw_ifeq_b hx hb dX4_holds_96 rfl (fun ho => ?_) (fun ho => ?_)
            · refine lv_iinc (v := nI (b + 1)) (k := 2) hx hb dX4_holds_106 hl rfl (hw_inc _) (by decide) rfl (fun ls hl => ?_)
              replace hl : lv_has ls 6 [(3, .int (nI (b + 1))), (5, .int (nI 1)), (4, .int (nI (36 * cx + 6 * a + b))), (2, .int (nI a)), (0, .ref y0), (1, .int (nI cx))] := hl
              refine lv_goto hx hb dX4_holds_109 rfl ?_
              replace hl : lv_has ls 6 [(3, .int (nI (b + 1))), (2, .int (nI a)), (0, .ref y0), (1, .int (nI cx))] := lv_sub hl [0, 3, 4, 5] rfl
              refine ih5 (hl := hl) (hJ := (fun y hy => ?_)) (hb6 := (by omega)) (hk5 := (by omega))
              by_cases hyb : y = b
              · rw [hyb]; exact ⟨fun _ => heq, fun q => absurd (ho.symm.trans q) (by decide)⟩
              · exact hJ y (by omega)
            · refine lv_iload hx hb dX4_holds_99 (lv_at hl 0 rfl) ?_
              refine lv_if_eq hx hb dX4_holds_101 rfl (fun hc9 => absurd hc9 (by decide)) (fun hc9 => ?_)
              refine lv_iconst (v := nI 0) hx hb dX4_holds_104 (by decide) ?_
              exact W.zret (v := nI 0) hx hb hr (by decide +kernel) (fun t9 ht9 hW9 => ⟨⟨_, (nI 0, Ua), rfl, Or.inr ⟨hq1, rfl, Or.inr ⟨rfl, fun h9 => (h9.1 a (by omega) b (by omega)).2 ho heq⟩⟩, by show va_P D vwCl [(y0, .inr (4, [.int (nI 0), .ref y1, .ref y2, .ref y3, .ref y4, .ref y5, .ref y6, .ref y7, .ref y8, .ref y9, .ref ya, .ref yb, .ref yc, .ref yd, .ref ye, .int md, .int o1, .int o2, .int mo, .ref yf, .ref yg, .ref yh])), (y1, .inl (cZ, 72, .inl Sa)), (y2, .inl (cZ, 72, .inl Oa)), (y3, .inl (cI, 2, .inl My)), (y4, .inl (cI, 10, .inl Fa)), (y5, .inl (cI, 10, .inl Ta)), (y6, .inl (cZ, 10, .inl La)), (yf, .inl (cI, 5, .inl Va)), (yg, .inl (cI, 10, .inl Ha)), (yh, .inl (cZ, 10, .inl Ua))] t9.heap; rw [ht9]; exact hP⟩, hS.F ht9⟩) hS.2.2 dX4_holds_105
          · refine lv_iload hx hb dX4_holds_84 (lv_at hl 0 rfl) ?_
            refine lv_if_eq hx hb dX4_holds_86 rfl (fun hc9 => absurd hc9 (by decide)) (fun hc9 => ?_)
            refine lv_aload_n hx hb dX4_holds_89 rfl (lv_at hl 4 rfl) ?_
            refine va_get (D := D) (ci := 4) (v := .ref y2) (C := RX4) (T := TX4) (N := 22) hx hb htg hi_X4 hown hK hP 0 rfl rfl 2 (by decide) (htg _ hm_498) (fun _ h9 => h9) rfl dX4_holds_90 ?_
            refine lv_iload hx hb dX4_holds_93 (lv_at hl 1 rfl) ?_
            refine hw_zald hx hb hK hP 2 1 rfl rfl (j := (36 * cx + 6 * a + b)) (by omega) (by first | decide | omega) (v := hc_b (OA (36 * cx + 6 * a + b))) ((hM.1 (36 * cx + 6 * a + b) (by omega)).2) dX4_holds_95 ?_
            refine hw_ifeq_b hx hb dX4_holds_96 rfl (fun ho => ?_) (fun ho => ?_)
            · refine lv_iinc (v := nI (b + 1)) (k := 2) hx hb dX4_holds_106 hl rfl (hw_inc _) (by decide) rfl (fun ls hl => ?_)
              replace hl : lv_has ls 6 [(3, .int (nI (b + 1))), (5, .int (nI 1)), (4, .int (nI (36 * cx + 6 * a + b))), (2, .int (nI a)), (0, .ref y0), (1, .int (nI cx))] := hl
              refine lv_goto hx hb dX4_holds_109 rfl ?_
              replace hl : lv_has ls 6 [(3, .int (nI (b + 1))), (2, .int (nI a)), (0, .ref y0), (1, .int (nI cx))] := lv_sub hl [0, 3, 4, 5] rfl
              refine ih5 (hl := hl) (hJ := (fun y hy => ?_)) (hb6 := (by omega)) (hk5 := (by omega))
              by_cases hyb : y = b
              · rw [hyb]; exact ⟨fun _ => heq, fun q => absurd (ho.symm.trans q) (by decide)⟩
              · exact hJ y (by omega)
            · refine lv_iload hx hb dX4_holds_99 (lv_at hl 0 rfl) ?_
              refine lv_if_eq hx hb dX4_holds_101 rfl (fun hc9 => absurd hc9 (by decide)) (fun hc9 => ?_)
              refine lv_iconst (v := nI 0) hx hb dX4_holds_104 (by decide) ?_
              exact W.zret (v := nI 0) hx hb hr (by decide +kernel) (fun t9 ht9 hW9 => ⟨⟨_, (nI 0, Ua), rfl, Or.inr ⟨hq1, rfl, Or.inr ⟨rfl, fun h9 => (h9.1 a (by omega) b (by omega)).2 ho heq⟩⟩, by show va_P D vwCl [(y0, .inr (4, [.int (nI 0), .ref y1, .ref y2, .ref y3, .ref y4, .ref y5, .ref y6, .ref y7, .ref y8, .ref y9, .ref ya, .ref yb, .ref yc, .ref yd, .ref ye, .int md, .int o1, .int o2, .int mo, .ref yf, .ref yg, .ref yh])), (y1, .inl (cZ, 72, .inl Sa)), (y2, .inl (cZ, 72, .inl Oa)), (y3, .inl (cI, 2, .inl My)), (y4, .inl (cI, 10, .inl Fa)), (y5, .inl (cI, 10, .inl Ta)), (y6, .inl (cZ, 10, .inl La)), (yf, .inl (cI, 5, .inl Va)), (yg, .inl (cI, 10, .inl Ha)), (yh, .inl (cZ, 10, .inl Ua))] t9.heap; rw [ht9]; exact hP⟩, hS.F ht9⟩) hS.2.2 dX4_holds_105
