set_option maxHeartbeats 4000000 in
set_option maxRecDepth 100000 in
/-- no such number -/
theorem k_X4_noClaim (l : Launch) (D : va_G) (cI cZ cJ : ClassId) (t : Nat) (ht : t < 2 ^ 32) : Met l yX4_noClaim (Cond.code yX4_noClaim cX4_noClaim 1 (some .boolean) :: hwG) { frames := 0, cells := 0, slots := 0, locals := 0 } (hp_R [.int (nI t)] D cI cZ cJ []) (vp_Si (fun r => hc_r r (¬ t < 2))) 0 0 (fun _ => False) := by
  refine Met.ofW (cc := cX4_noClaim) (maxL := 1) (ret := (some .boolean)) (by decide) rfl ?_
  intro p e s m args below meth c s₁ B hml hv
  obtain ⟨rfl, hP, hz⟩ := hv
  have hx := B.exec
  have hb := B.bytes
  have hr := B.returns
  have hts := atoms_spec (ws := (Cond.code yX4_noClaim cX4_noClaim 1 (some .boolean) :: hwG)) B.pre
  have htg := fun w h => hts w (List.mem_cons_of_mem _ h)
  have hown : s.vm.findClass RX4 = some m.cls := findClass_of_methodNamed B.named
  have hlocks := B.notSynchronized
  have hK := hz.1
  have hl := lv_entry ([.int (nI t)]) (n := 1) (Nat.le_of_ble_eq_true rfl)
  rw [lg_entry_eq]
  generalize (lg_sl ([.int (nI t)]) ++ List.replicate (1 - (lg_sl ([.int (nI t)])).length) Slot.unset).toArray = ls at hl ⊢
  replace hl : lv_has ls 1 [(0, .int (nI t))] := hl
  refine lv_iload_n hx hb dX4_noClaim_0 rfl (lv_at hl 0 rfl) ?_
  refine lv_if_lt hx hb dX4_noClaim_1 rfl (fun h1 => ?_) (fun h1 => ?_)
  · have h1 := (hm_neg ht).mp h1
    refine lv_iconst (v := nI 1) hx hb dX4_noClaim_9 (by decide) ?_
    refine lv_goto hx hb dX4_noClaim_10 rfl ?_
    exact W.zret (v := nI 1) hx hb hr (by decide +kernel) (fun t9 ht9 hW9 => ⟨_, rfl, Or.inl ⟨rfl, by omega⟩, ht9⟩) (fun _ h => nomatch h) dX4_noClaim_14
  · have h1 : t < 2 ^ 31 := Nat.lt_of_not_le (fun q => h1 ((hm_neg ht).mpr q))
    refine lv_iload_n hx hb dX4_noClaim_4 rfl (lv_at hl 0 rfl) ?_
    refine lv_iconst (v := nI 1) hx hb dX4_noClaim_5 (by decide) ?_
    refine hw_icmp_le hx hb (by omega) (by omega) dX4_noClaim_6 rfl (fun h2 => ?_) (fun h2 => ?_)
    · refine lv_iconst (v := nI 0) hx hb dX4_noClaim_13 (by decide) ?_
      exact W.zret (v := nI 0) hx hb hr (by decide +kernel) (fun t9 ht9 hW9 => ⟨_, rfl, Or.inr ⟨rfl, by omega⟩, ht9⟩) (fun _ h => nomatch h) dX4_noClaim_14
    · refine lv_iconst (v := nI 1) hx hb dX4_noClaim_9 (by decide) ?_
      refine lv_goto hx hb dX4_noClaim_10 rfl ?_
      exact W.zret (v := nI 1) hx hb hr (by decide +kernel) (fun t9 ht9 hW9 => ⟨_, rfl, Or.inl ⟨rfl, by omega⟩, ht9⟩) (fun _ h => nomatch h) dX4_noClaim_14

set_option maxHeartbeats 4000000 in
set_option maxRecDepth 100000 in
/-- no such number -/
theorem k_X4_noTerm (l : Launch) (D : va_G) (cI cZ cJ : ClassId) (t : Nat) (ht : t < 2 ^ 32) : Met l yX4_noTerm (Cond.code yX4_noTerm cX4_noTerm 1 (some .boolean) :: hwG) { frames := 0, cells := 0, slots := 0, locals := 0 } (hp_R [.int (nI t)] D cI cZ cJ []) (vp_Si (fun r => hc_r r (¬ t < 6))) 0 0 (fun _ => False) := by
  refine Met.ofW (cc := cX4_noTerm) (maxL := 1) (ret := (some .boolean)) (by decide) rfl ?_
  intro p e s m args below meth c s₁ B hml hv
  obtain ⟨rfl, hP, hz⟩ := hv
  have hx := B.exec
  have hb := B.bytes
  have hr := B.returns
  have hts := atoms_spec (ws := (Cond.code yX4_noTerm cX4_noTerm 1 (some .boolean) :: hwG)) B.pre
  have htg := fun w h => hts w (List.mem_cons_of_mem _ h)
  have hown : s.vm.findClass RX4 = some m.cls := findClass_of_methodNamed B.named
  have hlocks := B.notSynchronized
  have hK := hz.1
  have hl := lv_entry ([.int (nI t)]) (n := 1) (Nat.le_of_ble_eq_true rfl)
  rw [lg_entry_eq]
  generalize (lg_sl ([.int (nI t)]) ++ List.replicate (1 - (lg_sl ([.int (nI t)])).length) Slot.unset).toArray = ls at hl ⊢
  replace hl : lv_has ls 1 [(0, .int (nI t))] := hl
  refine lv_iload_n hx hb dX4_noTerm_0 rfl (lv_at hl 0 rfl) ?_
  refine lv_if_lt hx hb dX4_noTerm_1 rfl (fun h1 => ?_) (fun h1 => ?_)
  · have h1 := (hm_neg ht).mp h1
    refine lv_iconst (v := nI 1) hx hb dX4_noTerm_9 (by decide) ?_
    refine lv_goto hx hb dX4_noTerm_10 rfl ?_
    exact W.zret (v := nI 1) hx hb hr (by decide +kernel) (fun t9 ht9 hW9 => ⟨_, rfl, Or.inl ⟨rfl, by omega⟩, ht9⟩) (fun _ h => nomatch h) dX4_noTerm_14
  · have h1 : t < 2 ^ 31 := Nat.lt_of_not_le (fun q => h1 ((hm_neg ht).mpr q))
    refine lv_iload_n hx hb dX4_noTerm_4 rfl (lv_at hl 0 rfl) ?_
    refine lv_iconst (v := nI 5) hx hb dX4_noTerm_5 (by decide) ?_
    refine hw_icmp_le hx hb (by omega) (by omega) dX4_noTerm_6 rfl (fun h2 => ?_) (fun h2 => ?_)
    · refine lv_iconst (v := nI 0) hx hb dX4_noTerm_13 (by decide) ?_
      exact W.zret (v := nI 0) hx hb hr (by decide +kernel) (fun t9 ht9 hW9 => ⟨_, rfl, Or.inr ⟨rfl, by omega⟩, ht9⟩) (fun _ h => nomatch h) dX4_noTerm_14
    · refine lv_iconst (v := nI 1) hx hb dX4_noTerm_9 (by decide) ?_
      refine lv_goto hx hb dX4_noTerm_10 rfl ?_
      exact W.zret (v := nI 1) hx hb hr (by decide +kernel) (fun t9 ht9 hW9 => ⟨_, rfl, Or.inl ⟨rfl, by omega⟩, ht9⟩) (fun _ h => nomatch h) dX4_noTerm_14

set_option maxHeartbeats 4000000 in
set_option maxRecDepth 100000 in
/-- no such number -/
theorem k_X4_noVariable (l : Launch) (D : va_G) (cI cZ cJ : ClassId) (t : Nat) (ht : t < 2 ^ 32) : Met l yX4_noVariable (Cond.code yX4_noVariable cX4_noVariable 1 (some .boolean) :: hwG) { frames := 0, cells := 0, slots := 0, locals := 0 } (hp_R [.int (nI t)] D cI cZ cJ []) (vp_Si (fun r => hc_r r (¬ t < 5))) 0 0 (fun _ => False) := by
  refine Met.ofW (cc := cX4_noVariable) (maxL := 1) (ret := (some .boolean)) (by decide) rfl ?_
  intro p e s m args below meth c s₁ B hml hv
  obtain ⟨rfl, hP, hz⟩ := hv
  have hx := B.exec
  have hb := B.bytes
  have hr := B.returns
  have hts := atoms_spec (ws := (Cond.code yX4_noVariable cX4_noVariable 1 (some .boolean) :: hwG)) B.pre
  have htg := fun w h => hts w (List.mem_cons_of_mem _ h)
  have hown : s.vm.findClass RX4 = some m.cls := findClass_of_methodNamed B.named
  have hlocks := B.notSynchronized
  have hK := hz.1
  have hl := lv_entry ([.int (nI t)]) (n := 1) (Nat.le_of_ble_eq_true rfl)
  rw [lg_entry_eq]
  generalize (lg_sl ([.int (nI t)]) ++ List.replicate (1 - (lg_sl ([.int (nI t)])).length) Slot.unset).toArray = ls at hl ⊢
  replace hl : lv_has ls 1 [(0, .int (nI t))] := hl
  refine lv_iload_n hx hb dX4_noVariable_0 rfl (lv_at hl 0 rfl) ?_
  refine lv_if_lt hx hb dX4_noVariable_1 rfl (fun h1 => ?_) (fun h1 => ?_)
  · have h1 := (hm_neg ht).mp h1
    refine lv_iconst (v := nI 1) hx hb dX4_noVariable_9 (by decide) ?_
    refine lv_goto hx hb dX4_noVariable_10 rfl ?_
    exact W.zret (v := nI 1) hx hb hr (by decide +kernel) (fun t9 ht9 hW9 => ⟨_, rfl, Or.inl ⟨rfl, by omega⟩, ht9⟩) (fun _ h => nomatch h) dX4_noVariable_14
  · have h1 : t < 2 ^ 31 := Nat.lt_of_not_le (fun q => h1 ((hm_neg ht).mpr q))
    refine lv_iload_n hx hb dX4_noVariable_4 rfl (lv_at hl 0 rfl) ?_
    refine lv_iconst (v := nI 4) hx hb dX4_noVariable_5 (by decide) ?_
    refine hw_icmp_le hx hb (by omega) (by omega) dX4_noVariable_6 rfl (fun h2 => ?_) (fun h2 => ?_)
    · refine lv_iconst (v := nI 0) hx hb dX4_noVariable_13 (by decide) ?_
      exact W.zret (v := nI 0) hx hb hr (by decide +kernel) (fun t9 ht9 hW9 => ⟨_, rfl, Or.inr ⟨rfl, by omega⟩, ht9⟩) (fun _ h => nomatch h) dX4_noVariable_14
    · refine lv_iconst (v := nI 1) hx hb dX4_noVariable_9 (by decide) ?_
      refine lv_goto hx hb dX4_noVariable_10 rfl ?_
      exact W.zret (v := nI 1) hx hb hr (by decide +kernel) (fun t9 ht9 hW9 => ⟨_, rfl, Or.inl ⟨rfl, by omega⟩, ht9⟩) (fun _ h => nomatch h) dX4_noVariable_14

set_option maxHeartbeats 4000000 in
set_option maxRecDepth 100000 in
/-- what the last call threw -/
theorem k_X4_thrown (l : Launch) (D : va_G) (cI cZ cJ : ClassId) (cd md o1 o2 mo : Int32) (y0 y1 y2 y3 y4 y5 y6 y7 y8 y9 ya yb yc yd ye yf yg yh : Nat) : Met l yX4_thrown (Cond.code yX4_thrown cX4_thrown 1 (some .int) :: hwG) { frames := 0, cells := 0, slots := 0, locals := 0 } (hp_R [.ref y0] D cI cZ cJ [(y0, .inr (4, [.int cd, .ref y1, .ref y2, .ref y3, .ref y4, .ref y5, .ref y6, .ref y7, .ref y8, .ref y9, .ref ya, .ref yb, .ref yc, .ref yd, .ref ye, .int md, .int o1, .int o2, .int mo, .ref yf, .ref yg, .ref yh]))]) (vp_Si (fun r => r = cd)) 0 0 (fun _ => False) := by
  refine Met.ofW (cc := cX4_thrown) (maxL := 1) (ret := (some .int)) (by decide) rfl ?_
  intro p e s m args below meth c s₁ B hml hv
  obtain ⟨rfl, hP, hz⟩ := hv
  have hx := B.exec
  have hb := B.bytes
  have hr := B.returns
  have hts := atoms_spec (ws := (Cond.code yX4_thrown cX4_thrown 1 (some .int) :: hwG)) B.pre
  have htg := fun w h => hts w (List.mem_cons_of_mem _ h)
  have hown : s.vm.findClass RX4 = some m.cls := findClass_of_methodNamed B.named
  have hlocks := B.notSynchronized
  have hK := hz.1
  have hl := lv_entry ([.ref y0]) (n := 1) (Nat.le_of_ble_eq_true rfl)
  rw [lg_entry_eq]
  generalize (lg_sl ([.ref y0]) ++ List.replicate (1 - (lg_sl ([.ref y0])).length) Slot.unset).toArray = ls at hl ⊢
  replace hl : lv_has ls 1 [(0, .ref y0)] := hl
  refine lv_aload_n hx hb dX4_thrown_0 rfl (lv_at hl 0 rfl) ?_
  refine va_get (D := D) (ci := 4) (v := .int cd) (C := RX4) (T := TX4) (N := 22) hx hb htg hi_X4 hown hK hP 0 rfl rfl 0 (by decide) (htg _ hm_496) (fun _ h9 => h9) rfl dX4_thrown_1 ?_
  exact W.iret (v := cd) hx hb hr (fun t9 ht9 hW9 => ⟨_, rfl, rfl, ht9⟩) (fun _ h => nomatch h) dX4_thrown_4

set_option maxHeartbeats 4000000 in
set_option maxRecDepth 100000 in
/-- the pairs are true -/
theorem k_X4_pairsTrue (l : Launch) (D : va_G) (cI cZ cJ : ClassId) (Sa Oa My Fa Ta La : Nat → Int32) (SA OA : Nat → Bool) (MA FA TA : Nat → Nat) (LA : Nat → Bool) (v : Nat → Nat) (Ga : Nat → Int32) (cx : Nat) (cd md o1 o2 mo : Int32) (y0 y1 y2 y3 y4 y5 y6 y7 y8 y9 ya yb yc yd ye yf yg yh : Nat) (hM : hr_m Sa Oa My Fa Ta La SA OA MA FA TA LA) (hG : ∀ j, j < 6 → Ga j = nI (v j)) (hv : ∀ j, j < 6 → v j < 6) (hc0 : cx < 2) : Met l yX4_pairsTrue (Cond.code yX4_pairsTrue cX4_pairsTrue 5 (some .boolean) :: hwG) { frames := 0, cells := 0, slots := 0, locals := 0 } (hp_R [.ref y0, .int (nI cx)] D cI cZ cJ [(y0, .inr (4, [.int cd, .ref y1, .ref y2, .ref y3, .ref y4, .ref y5, .ref y6, .ref y7, .ref y8, .ref y9, .ref ya, .ref yb, .ref yc, .ref yd, .ref ye, .int md, .int o1, .int o2, .int mo, .ref yf, .ref yg, .ref yh])), (y1, .inl (cZ, 72, .inl Sa)), (y2, .inl (cZ, 72, .inl Oa)), (y7, .inl (cI, 6, .inl Ga))]) (vp_Si (fun r => hc_r r (hc_PO v (hr_s SA cx) (hr_s OA cx)))) 0 0 (fun _ => False) := by
  refine Met.ofW (cc := cX4_pairsTrue) (maxL := 5) (ret := (some .boolean)) (by decide) rfl ?_
  intro p e s m args below meth c s₁ B hml hv
  obtain ⟨rfl, hP, hz⟩ := hv
  have hx := B.exec
  have hb := B.bytes
  have hr := B.returns
  have hts := atoms_spec (ws := (Cond.code yX4_pairsTrue cX4_pairsTrue 5 (some .boolean) :: hwG)) B.pre
  have htg := fun w h => hts w (List.mem_cons_of_mem _ h)
  have hown : s.vm.findClass RX4 = some m.cls := findClass_of_methodNamed B.named
  have hlocks := B.notSynchronized
  have hK := hz.1
  have hl := lv_entry ([.ref y0, .int (nI cx)]) (n := 5) (Nat.le_of_ble_eq_true rfl)
  rw [lg_entry_eq]
  generalize (lg_sl ([.ref y0, .int (nI cx)]) ++ List.replicate (5 - (lg_sl ([.ref y0, .int (nI cx)])).length) Slot.unset).toArray = ls at hl ⊢
  replace hl : lv_has ls 5 [(0, .ref y0), (1, .int (nI cx))] := hl
  refine lv_iconst (v := nI 0) hx hb dX4_pairsTrue_0 (by decide) ?_
  refine lv_istore_n hx hb dX4_pairsTrue_1 rfl hl (by decide) rfl (fun ls hl => ?_)
  replace hl : lv_has ls 5 [(2, .int (nI 0)), (0, .ref y0), (1, .int (nI cx))] := hl
  obtain ⟨a, e_a⟩ : ∃ z : Nat, z = 0 := ⟨_, rfl⟩
  replace hl : lv_has ls 5 [(2, .int (nI a)), (0, .ref y0), (1, .int (nI cx))] := by subst e_a; exact hl
  have hI : ∀ x, x < a → ∀ y, y < 6 → (hr_s SA cx x y = true → v x = v y) ∧ (hr_s OA cx x y = true → v x ≠ v y) := by subst e_a; exact fun x hx => absurd hx (Nat.not_lt_zero _)
  have ha6 : a ≤ 6 := by subst e_a; omega
  clear e_a
  obtain ⟨k, hk⟩ : ∃ k : Nat, k = 6 - a := ⟨_, rfl⟩
  induction k generalizing a ls  with
  | zero =>
    refine lv_iload_n hx hb dX4_pairsTrue_2 rfl (lv_at hl 0 rfl) ?_
    refine lv_bipush (v := nI 6) hx hb dX4_pairsTrue_3 (by decide) ?_
    refine hw_icmp_ge hx hb (by omega) (by omega) dX4_pairsTrue_5 rfl (fun hc => ?_) (fun hc => absurd hc (by omega))
    refine lv_iconst (v := nI 1) hx hb dX4_pairsTrue_93 (by decide) ?_
    exact W.zret (v := nI 1) hx hb hr (by decide +kernel) (fun t9 ht9 hW9 => ⟨_, rfl, Or.inl ⟨rfl, fun x hx y hy => hI x (by omega) y hy⟩, ht9⟩) (fun _ h => nomatch h) dX4_pairsTrue_94
  | succ k ih =>
    refine lv_iload_n hx hb dX4_pairsTrue_2 rfl (lv_at hl 0 rfl) ?_
    refine lv_bipush (v := nI 6) hx hb dX4_pairsTrue_3 (by decide) ?_
    refine hw_icmp_ge hx hb (by omega) (by omega) dX4_pairsTrue_5 rfl (fun hc => absurd hc (by omega)) (fun hc => ?_)
    refine lv_iconst (v := nI 0) hx hb dX4_pairsTrue_8 (by decide) ?_
    refine lv_istore_n hx hb dX4_pairsTrue_9 rfl hl (by decide) rfl (fun ls hl => ?_)
    replace hl : lv_has ls 5 [(3, .int (nI 0)), (2, .int (nI a)), (0, .ref y0), (1, .int (nI cx))] := hl
    obtain ⟨b, e_b⟩ : ∃ z : Nat, z = 0 := ⟨_, rfl⟩
    replace hl : lv_has ls 5 [(3, .int (nI b)), (2, .int (nI a)), (0, .ref y0), (1, .int (nI cx))] := by subst e_b; exact hl
    have hJ : ∀ y, y < b → (hr_s SA cx a y = true → v a = v y) ∧ (hr_s OA cx a y = true → v a ≠ v y) := by subst e_b; exact fun x hx => absurd hx (Nat.not_lt_zero _)
    have hb6 : b ≤ 6 := by subst e_b; omega
    clear e_b
    obtain ⟨k2, hk2⟩ : ∃ k2 : Nat, k2 = 6 - b := ⟨_, rfl⟩
    induction k2 generalizing b ls  with
    | zero =>
      refine lv_iload_n hx hb dX4_pairsTrue_10 rfl (lv_at hl 0 rfl) ?_
      refine lv_bipush (v := nI 6) hx hb dX4_pairsTrue_11 (by decide) ?_
      refine hw_icmp_ge hx hb (by omega) (by omega) dX4_pairsTrue_13 rfl (fun hc2 => ?_) (fun hc2 => absurd hc2 (by omega))
      refine lv_iinc (v := nI (a + 1)) (k := 1) hx hb dX4_pairsTrue_87 hl rfl (hw_inc _) (by decide) rfl (fun ls hl => ?_)
      replace hl : lv_has ls 5 [(2, .int (nI (a + 1))), (3, .int (nI b)), (0, .ref y0), (1, .int (nI cx))] := hl
      refine lv_goto hx hb dX4_pairsTrue_90 rfl ?_
      replace hl : lv_has ls 5 [(2, .int (nI (a + 1))), (0, .ref y0), (1, .int (nI cx))] := lv_sub hl [0, 2, 3] rfl
      refine ih (hl := hl) (hI := (fun x hx y hy => ?_)) (ha6 := (by omega)) (hk := (by omega))
      by_cases hxa : x = a
      · rw [hxa]; exact hJ y (by omega)
      · exact hI x (by omega) y hy
    | succ k2 ih2 =>
      refine lv_iload_n hx hb dX4_pairsTrue_10 rfl (lv_at hl 0 rfl) ?_
      refine lv_bipush (v := nI 6) hx hb dX4_pairsTrue_11 (by decide) ?_
      refine hw_icmp_ge hx hb (by omega) (by omega) dX4_pairsTrue_13 rfl (fun hc2 => absurd hc2 (by omega)) (fun hc2 => ?_)
      have hva := hv a (by omega)
      have hvb := hv b (by omega)
      refine lv_bipush (v := nI 36) hx hb dX4_pairsTrue_16 (by decide) ?_
      refine lv_iload_n hx hb dX4_pairsTrue_18 rfl (lv_at hl 3 rfl) ?_
      refine hw_imul hx hb dX4_pairsTrue_19 ?_
      refine lv_bipush (v := nI 6) hx hb dX4_pairsTrue_20 (by decide) ?_
      refine lv_iload_n hx hb dX4_pairsTrue_22 rfl (lv_at hl 1 rfl) ?_
      refine hw_imul hx hb dX4_pairsTrue_23 ?_
      refine hw_iadd hx hb dX4_pairsTrue_24 ?_
      refine lv_iload_n hx hb dX4_pairsTrue_25 rfl (lv_at hl 0 rfl) ?_
      refine hw_iadd hx hb dX4_pairsTrue_26 ?_
      refine lv_istore hx hb dX4_pairsTrue_27 hl (by decide) rfl (fun ls hl => ?_)
      replace hl : lv_has ls 5 [(4, .int (nI (36 * cx + 6 * a + b))), (3, .int (nI b)), (2, .int (nI a)), (0, .ref y0), (1, .int (nI cx))] := hl
      refine lv_aload_n hx hb dX4_pairsTrue_29 rfl (lv_at hl 3 rfl) ?_
      refine va_get (D := D) (ci := 4) (v := .ref y1) (C := RX4) (T := TX4) (N := 22) hx hb htg hi_X4 hown hK hP 0 rfl rfl 1 (by decide) (htg _ hm_497) (fun _ h9 => h9) rfl dX4_pairsTrue_30 ?_
      refine lv_iload hx hb dX4_pairsTrue_33 (lv_at hl 0 rfl) ?_
      refine hw_zald hx hb hK hP 1 1 rfl rfl (j := (36 * cx + 6 * a + b)) (by omega) (by first | decide | omega) (v := hc_b (SA (36 * cx + 6 * a + b))) ((hM.1 (36 * cx + 6 * a + b) (by omega)).1) dX4_pairsTrue_35 ?_
      refine hw_ifeq_b hx hb dX4_pairsTrue_36 rfl (fun hs => ?_) (fun hs => ?_)
      · refine lv_aload_n hx hb dX4_pairsTrue_54 rfl (lv_at hl 3 rfl) ?_
        refine va_get (D := D) (ci := 4) (v := .ref y2) (C := RX4) (T := TX4) (N := 22) hx hb htg hi_X4 hown hK hP 0 rfl rfl 2 (by decide) (htg _ hm_498) (fun _ h9 => h9) rfl dX4_pairsTrue_55 ?_
        refine lv_iload hx hb dX4_pairsTrue_58 (lv_at hl 0 rfl) ?_
        refine hw_zald hx hb hK hP 2 1 rfl rfl (j := (36 * cx + 6 * a + b)) (by omega) (by first | decide | omega) (v := hc_b (OA (36 * cx + 6 * a + b))) ((hM.1 (36 * cx + 6 * a + b) (by omega)).2) dX4_pairsTrue_60 ?_
        refine hw_ifeq_b hx hb dX4_pairsTrue_61 rfl (fun ho => ?_) (fun ho => ?_)
        · refine lv_iinc (v := nI (b + 1)) (k := 1) hx hb dX4_pairsTrue_81 hl rfl (hw_inc _) (by decide) rfl (fun ls hl => ?_)
          replace hl : lv_has ls 5 [(3, .int (nI (b + 1))), (4, .int (nI (36 * cx + 6 * a + b))), (2, .int (nI a)), (0, .ref y0), (1, .int (nI cx))] := hl
          refine lv_goto hx hb dX4_pairsTrue_84 rfl ?_
          replace hl : lv_has ls 5 [(3, .int (nI (b + 1))), (2, .int (nI a)), (0, .ref y0), (1, .int (nI cx))] := lv_sub hl [0, 2, 3, 4] rfl
          refine ih2 (hl := hl) (hJ := (fun y hy => ?_)) (hb6 := (by omega)) (hk2 := (by omega))
          by_cases hyb : y = b
          · rw [hyb]; exact ⟨fun q => absurd (hs.symm.trans q) (by decide), fun q => absurd (ho.symm.trans q) (by decide)⟩
          · exact hJ y (by omega)
        · refine lv_aload_n hx hb dX4_pairsTrue_64 rfl (lv_at hl 3 rfl) ?_
          refine va_get (D := D) (ci := 4) (v := .ref y7) (C := RX4) (T := TX4) (N := 22) hx hb htg hi_X4 hown hK hP 0 rfl rfl 7 (by decide) (htg _ hm_503) (fun _ h9 => h9) rfl dX4_pairsTrue_65 ?_
          refine lv_iload_n hx hb dX4_pairsTrue_68 rfl (lv_at hl 2 rfl) ?_
          refine hw_iald hx hb hK hP 3 0 rfl rfl (j := a) (by omega) (by first | decide | omega) (v := nI (v a)) (hG a (by first | omega | assumption)) dX4_pairsTrue_69 ?_
          refine lv_aload_n hx hb dX4_pairsTrue_70 rfl (lv_at hl 3 rfl) ?_
          refine va_get (D := D) (ci := 4) (v := .ref y7) (C := RX4) (T := TX4) (N := 22) hx hb htg hi_X4 hown hK hP 0 rfl rfl 7 (by decide) (htg _ hm_503) (fun _ h9 => h9) rfl dX4_pairsTrue_71 ?_
          refine lv_iload_n hx hb dX4_pairsTrue_74 rfl (lv_at hl 1 rfl) ?_
          refine hw_iald hx hb hK hP 3 0 rfl rfl (j := b) (by omega) (by first | decide | omega) (v := nI (v b)) (hG b (by first | omega | assumption)) dX4_pairsTrue_75 ?_
          refine hw_icmp_ne hx hb (by omega) (by omega) dX4_pairsTrue_76 rfl (fun he => ?_) (fun he => ?_)
          · refine lv_iinc (v := nI (b + 1)) (k := 1) hx hb dX4_pairsTrue_81 hl rfl (hw_inc _) (by decide) rfl (fun ls hl => ?_)
            replace hl : lv_has ls 5 [(3, .int (nI (b + 1))), (4, .int (nI (36 * cx + 6 * a + b))), (2, .int (nI a)), (0, .ref y0), (1, .int (nI cx))] := hl
            refine lv_goto hx hb dX4_pairsTrue_84 rfl ?_
            replace hl : lv_has ls 5 [(3, .int (nI (b + 1))), (2, .int (nI a)), (0, .ref y0), (1, .int (nI cx))] := lv_sub hl [0, 2, 3, 4] rfl
            refine ih2 (hl := hl) (hJ := (fun y hy => ?_)) (hb6 := (by omega)) (hk2 := (by omega))
            by_cases hyb : y = b
            · rw [hyb]; exact ⟨fun q => absurd (hs.symm.trans q) (by decide), fun _ => he⟩
            · exact hJ y (by omega)
          · refine lv_iconst (v := nI 0) hx hb dX4_pairsTrue_79 (by decide) ?_
            exact W.zret (v := nI 0) hx hb hr (by decide +kernel) (fun t9 ht9 hW9 => ⟨_, rfl, Or.inr ⟨rfl, fun h9 => (h9 a (by omega) b (by omega)).2 ho he⟩, ht9⟩) (fun _ h => nomatch h) dX4_pairsTrue_80
      · refine lv_aload_n hx hb dX4_pairsTrue_39 rfl (lv_at hl 3 rfl) ?_
        refine va_get (D := D) (ci := 4) (v := .ref y7) (C := RX4) (T := TX4) (N := 22) hx hb htg hi_X4 hown hK hP 0 rfl rfl 7 (by decide) (htg _ hm_503) (fun _ h9 => h9) rfl dX4_pairsTrue_40 ?_
        refine lv_iload_n hx hb dX4_pairsTrue_43 rfl (lv_at hl 2 rfl) ?_
        refine hw_iald hx hb hK hP 3 0 rfl rfl (j := a) (by omega) (by first | decide | omega) (v := nI (v a)) (hG a (by first | omega | assumption)) dX4_pairsTrue_44 ?_
        refine lv_aload_n hx hb dX4_pairsTrue_45 rfl (lv_at hl 3 rfl) ?_
        refine va_get (D := D) (ci := 4) (v := .ref y7) (C := RX4) (T := TX4) (N := 22) hx hb htg hi_X4 hown hK hP 0 rfl rfl 7 (by decide) (htg _ hm_503) (fun _ h9 => h9) rfl dX4_pairsTrue_46 ?_
        refine lv_iload_n hx hb dX4_pairsTrue_49 rfl (lv_at hl 1 rfl) ?_
        refine hw_iald hx hb hK hP 3 0 rfl rfl (j := b) (by omega) (by first | decide | omega) (v := nI (v b)) (hG b (by first | omega | assumption)) dX4_pairsTrue_50 ?_
        refine hw_icmp_ne hx hb (by omega) (by omega) dX4_pairsTrue_51 rfl (fun he1 => ?_) (fun he1 => ?_)
        · refine lv_iconst (v := nI 0) hx hb dX4_pairsTrue_79 (by decide) ?_
          exact W.zret (v := nI 0) hx hb hr (by decide +kernel) (fun t9 ht9 hW9 => ⟨_, rfl, Or.inr ⟨rfl, fun h9 => he1 ((h9 a (by omega) b (by omega)).1 hs)⟩, ht9⟩) (fun _ h => nomatch h) dX4_pairsTrue_80
        · refine lv_aload_n hx hb dX4_pairsTrue_54 rfl (lv_at hl 3 rfl) ?_
          refine va_get (D := D) (ci := 4) (v := .ref y2) (C := RX4) (T := TX4) (N := 22) hx hb htg hi_X4 hown hK hP 0 rfl rfl 2 (by decide) (htg _ hm_498) (fun _ h9 => h9) rfl dX4_pairsTrue_55 ?_
          refine lv_iload hx hb dX4_pairsTrue_58 (lv_at hl 0 rfl) ?_
          refine hw_zald hx hb hK hP 2 1 rfl rfl (j := (36 * cx + 6 * a + b)) (by omega) (by first | decide | omega) (v := hc_b (OA (36 * cx + 6 * a + b))) ((hM.1 (36 * cx + 6 * a + b) (by omega)).2) dX4_pairsTrue_60 ?_
          refine hw_ifeq_b hx hb dX4_pairsTrue_61 rfl (fun ho => ?_) (fun ho => ?_)
          · refine lv_iinc (v := nI (b + 1)) (k := 1) hx hb dX4_pairsTrue_81 hl rfl (hw_inc _) (by decide) rfl (fun ls hl => ?_)
            replace hl : lv_has ls 5 [(3, .int (nI (b + 1))), (4, .int (nI (36 * cx + 6 * a + b))), (2, .int (nI a)), (0, .ref y0), (1, .int (nI cx))] := hl
            refine lv_goto hx hb dX4_pairsTrue_84 rfl ?_
            replace hl : lv_has ls 5 [(3, .int (nI (b + 1))), (2, .int (nI a)), (0, .ref y0), (1, .int (nI cx))] := lv_sub hl [0, 2, 3, 4] rfl
            refine ih2 (hl := hl) (hJ := (fun y hy => ?_)) (hb6 := (by omega)) (hk2 := (by omega))
            by_cases hyb : y = b
            · rw [hyb]; exact ⟨fun _ => he1, fun q => absurd (ho.symm.trans q) (by decide)⟩
            · exact hJ y (by omega)
          · refine lv_aload_n hx hb dX4_pairsTrue_64 rfl (lv_at hl 3 rfl) ?_
            refine va_get (D := D) (ci := 4) (v := .ref y7) (C := RX4) (T := TX4) (N := 22) hx hb htg hi_X4 hown hK hP 0 rfl rfl 7 (by decide) (htg _ hm_503) (fun _ h9 => h9) rfl dX4_pairsTrue_65 ?_
            refine lv_iload_n hx hb dX4_pairsTrue_68 rfl (lv_at hl 2 rfl) ?_
            refine hw_iald hx hb hK hP 3 0 rfl rfl (j := a) (by omega) (by first | decide | omega) (v := nI (v a)) (hG a (by first | omega | assumption)) dX4_pairsTrue_69 ?_
            refine lv_aload_n hx hb dX4_pairsTrue_70 rfl (lv_at hl 3 rfl) ?_
            refine va_get (D := D) (ci := 4) (v := .ref y7) (C := RX4) (T := TX4) (N := 22) hx hb htg hi_X4 hown hK hP 0 rfl rfl 7 (by decide) (htg _ hm_503) (fun _ h9 => h9) rfl dX4_pairsTrue_71 ?_
            refine lv_iload_n hx hb dX4_pairsTrue_74 rfl (lv_at hl 1 rfl) ?_
            refine hw_iald hx hb hK hP 3 0 rfl rfl (j := b) (by omega) (by first | decide | omega) (v := nI (v b)) (hG b (by first | omega | assumption)) dX4_pairsTrue_75 ?_
            refine hw_icmp_ne hx hb (by omega) (by omega) dX4_pairsTrue_76 rfl (fun he => ?_) (fun he => ?_)
            · refine lv_iinc (v := nI (b + 1)) (k := 1) hx hb dX4_pairsTrue_81 hl rfl (hw_inc _) (by decide) rfl (fun ls hl => ?_)
              replace hl : lv_has ls 5 [(3, .int (nI (b + 1))), (4, .int (nI (36 * cx + 6 * a + b))), (2, .int (nI a)), (0, .ref y0), (1, .int (nI cx))] := hl
              refine lv_goto hx hb dX4_pairsTrue_84 rfl ?_
              replace hl : lv_has ls 5 [(3, .int (nI (b + 1))), (2, .int (nI a)), (0, .ref y0), (1, .int (nI cx))] := lv_sub hl [0, 2, 3, 4] rfl
              refine ih2 (hl := hl) (hJ := (fun y hy => ?_)) (hb6 := (by omega)) (hk2 := (by omega))
              by_cases hyb : y = b
              · rw [hyb]; exact ⟨fun _ => he1, fun _ => he⟩
              · exact hJ y (by omega)
            · refine lv_iconst (v := nI 0) hx hb dX4_pairsTrue_79 (by decide) ?_
              exact W.zret (v := nI 0) hx hb hr (by decide +kernel) (fun t9 ht9 hW9 => ⟨_, rfl, Or.inr ⟨rfl, fun h9 => (h9 a (by omega) b (by omega)).2 ho he⟩, ht9⟩) (fun _ h => nomatch h) dX4_pairsTrue_80

set_option maxHeartbeats 4000000 in
set_option maxRecDepth 100000 in
/-- a list without cells -/
theorem k_X4_isEmpty (l : Launch) (D : va_G) (cI cZ cJ : ClassId) (Sa Oa My Fa Ta La : Nat → Int32) (SA OA : Nat → Bool) (MA FA TA : Nat → Nat) (LA : Nat → Bool) (v : Nat → Nat) (Ga : Nat → Int32) (px : Nat) (cd md o1 o2 mo : Int32) (y0 y1 y2 y3 y4 y5 y6 y7 y8 y9 ya yb yc yd ye yf yg yh : Nat) (hM : hr_m Sa Oa My Fa Ta La SA OA MA FA TA LA) (hG : ∀ j, j < 6 → Ga j = nI (v j)) (hv : ∀ j, j < 6 → v j < 6) (hp : px < 10) : Met l yX4_isEmpty (Cond.code yX4_isEmpty cX4_isEmpty 2 (some .boolean) :: hwG) { frames := 0, cells := 0, slots := 0, locals := 0 } (hp_R [.ref y0, .int (nI px)] D cI cZ cJ [(y0, .inr (4, [.int cd, .ref y1, .ref y2, .ref y3, .ref y4, .ref y5, .ref y6, .ref y7, .ref y8, .ref y9, .ref ya, .ref yb, .ref yc, .ref yd, .ref ye, .int md, .int o1, .int o2, .int mo, .ref yf, .ref yg, .ref yh])), (y4, .inl (cI, 10, .inl Fa)), (y5, .inl (cI, 10, .inl Ta)), (y6, .inl (cZ, 10, .inl La)), (y7, .inl (cI, 6, .inl Ga))]) (vp_Si (fun r => hc_r r (LA px = true ∧ v (FA px) = v (TA px)))) 0 0 (fun _ => False) := by
  refine Met.ofW (cc := cX4_isEmpty) (maxL := 2) (ret := (some .boolean)) (by decide) rfl ?_
  intro p e s m args below meth c s₁ B hml hv
  obtain ⟨rfl, hP, hz⟩ := hv
  have hx := B.exec
  have hb := B.bytes
  have hr := B.returns
  have hts := atoms_spec (ws := (Cond.code yX4_isEmpty cX4_isEmpty 2 (some .boolean) :: hwG)) B.pre
  have htg := fun w h => hts w (List.mem_cons_of_mem _ h)
  have hown : s.vm.findClass RX4 = some m.cls := findClass_of_methodNamed B.named
  have hlocks := B.notSynchronized
  have hK := hz.1
  have hl := lv_entry ([.ref y0, .int (nI px)]) (n := 2) (Nat.le_of_ble_eq_true rfl)
  rw [lg_entry_eq]
  generalize (lg_sl ([.ref y0, .int (nI px)]) ++ List.replicate (2 - (lg_sl ([.ref y0, .int (nI px)])).length) Slot.unset).toArray = ls at hl ⊢
  replace hl : lv_has ls 2 [(0, .ref y0), (1, .int (nI px))] := hl
  obtain ⟨f1, f2, f3, f4, f5⟩ := hM.2.2 px hp
  have hvf := hv _ f2
  have hvt := hv _ f4
  refine lv_aload_n hx hb dX4_isEmpty_0 rfl (lv_at hl 0 rfl) ?_
  refine va_get (D := D) (ci := 4) (v := .ref y6) (C := RX4) (T := TX4) (N := 22) hx hb htg hi_X4 hown hK hP 0 rfl rfl 6 (by decide) (htg _ hm_502) (fun _ h9 => h9) rfl dX4_isEmpty_1 ?_
  refine lv_iload_n hx hb dX4_isEmpty_4 rfl (lv_at hl 1 rfl) ?_
  refine hw_zald hx hb hK hP 3 1 rfl rfl (j := px) (by omega) (by first | decide | omega) (v := hc_b (LA px)) ((hM.2.2 px (by omega)).2.2.2.2) dX4_isEmpty_5 ?_
  refine hw_ifeq_b hx hb dX4_isEmpty_6 rfl (fun h1 => ?_) (fun h1 => ?_)
  · refine lv_iconst (v := nI 0) hx hb dX4_isEmpty_38 (by decide) ?_
    exact W.zret (v := nI 0) hx hb hr (by decide +kernel) (fun t9 ht9 hW9 => ⟨_, rfl, Or.inr ⟨rfl, fun h9 => by rw [h9.1] at h1; cases h1⟩, ht9⟩) (fun _ h => nomatch h) dX4_isEmpty_39
  · refine lv_aload_n hx hb dX4_isEmpty_9 rfl (lv_at hl 0 rfl) ?_
    refine va_get (D := D) (ci := 4) (v := .ref y7) (C := RX4) (T := TX4) (N := 22) hx hb htg hi_X4 hown hK hP 0 rfl rfl 7 (by decide) (htg _ hm_503) (fun _ h9 => h9) rfl dX4_isEmpty_10 ?_
    refine lv_aload_n hx hb dX4_isEmpty_13 rfl (lv_at hl 0 rfl) ?_
    refine va_get (D := D) (ci := 4) (v := .ref y4) (C := RX4) (T := TX4) (N := 22) hx hb htg hi_X4 hown hK hP 0 rfl rfl 4 (by decide) (htg _ hm_500) (fun _ h9 => h9) rfl dX4_isEmpty_14 ?_
    refine lv_iload_n hx hb dX4_isEmpty_17 rfl (lv_at hl 1 rfl) ?_
    refine hw_iald hx hb hK hP 1 0 rfl rfl (j := px) (by omega) (by first | decide | omega) (v := nI (FA px)) ((hM.2.2 px (by omega)).1) dX4_isEmpty_18 ?_
    refine hw_iald hx hb hK hP 4 0 rfl rfl (j := (FA px)) (by omega) (by first | decide | omega) (v := nI (v (FA px))) (hG (FA px) (by first | omega | assumption)) dX4_isEmpty_19 ?_
    refine lv_aload_n hx hb dX4_isEmpty_20 rfl (lv_at hl 0 rfl) ?_
    refine va_get (D := D) (ci := 4) (v := .ref y7) (C := RX4) (T := TX4) (N := 22) hx hb htg hi_X4 hown hK hP 0 rfl rfl 7 (by decide) (htg _ hm_503) (fun _ h9 => h9) rfl dX4_isEmpty_21 ?_
    refine lv_aload_n hx hb dX4_isEmpty_24 rfl (lv_at hl 0 rfl) ?_
    refine va_get (D := D) (ci := 4) (v := .ref y5) (C := RX4) (T := TX4) (N := 22) hx hb htg hi_X4 hown hK hP 0 rfl rfl 5 (by decide) (htg _ hm_501) (fun _ h9 => h9) rfl dX4_isEmpty_25 ?_
    refine lv_iload_n hx hb dX4_isEmpty_28 rfl (lv_at hl 1 rfl) ?_
    refine hw_iald hx hb hK hP 2 0 rfl rfl (j := px) (by omega) (by first | decide | omega) (v := nI (TA px)) ((hM.2.2 px (by omega)).2.2.1) dX4_isEmpty_29 ?_
    refine hw_iald hx hb hK hP 4 0 rfl rfl (j := (TA px)) (by omega) (by first | decide | omega) (v := nI (v (TA px))) (hG (TA px) (by first | omega | assumption)) dX4_isEmpty_30 ?_
    refine hw_icmp_ne hx hb (by omega) (by omega) dX4_isEmpty_31 rfl (fun h2 => ?_) (fun h2 => ?_)
    · refine lv_iconst (v := nI 0) hx hb dX4_isEmpty_38 (by decide) ?_
      exact W.zret (v := nI 0) hx hb hr (by decide +kernel) (fun t9 ht9 hW9 => ⟨_, rfl, Or.inr ⟨rfl, fun h9 => h2 h9.2⟩, ht9⟩) (fun _ h => nomatch h) dX4_isEmpty_39
    · refine lv_iconst (v := nI 1) hx hb dX4_isEmpty_34 (by decide) ?_
      refine lv_goto hx hb dX4_isEmpty_35 rfl ?_
      exact W.zret (v := nI 1) hx hb hr (by decide +kernel) (fun t9 ht9 hW9 => ⟨_, rfl, Or.inl ⟨rfl, h1, h2⟩, ht9⟩) (fun _ h => nomatch h) dX4_isEmpty_39

set_option maxHeartbeats 4000000 in
set_option maxRecDepth 100000 in
/-- the next list with cells -/
theorem k_X4_nextList (l : Launch) (D : va_G) (cI cZ cJ : ClassId) (Sa Oa My Fa Ta La : Nat → Int32) (SA OA : Nat → Bool) (MA FA TA : Nat → Nat) (LA : Nat → Bool) (v : Nat → Nat) (Ga : Nat → Int32) (cx px : Nat) (cd md o1 o2 mo : Int32) (y0 y1 y2 y3 y4 y5 y6 y7 y8 y9 ya yb yc yd ye yf yg yh : Nat) (hM : hr_m Sa Oa My Fa Ta La SA OA MA FA TA LA) (hG : ∀ j, j < 6 → Ga j = nI (v j)) (hv : ∀ j, j < 6 → v j < 6) (hc0 : cx < 2) (hp : px ≤ 5 * cx + MA cx) : Met l yX4_nextList (Cond.code yX4_nextList cX4_nextList 4 (some .int) :: hwG) { frames := 1, cells := 0, slots := 0, locals := 21 } (hp_R [.ref y0, .int (nI cx), .int (nI px)] D cI cZ cJ [(y0, .inr (4, [.int cd, .ref y1, .ref y2, .ref y3, .ref y4, .ref y5, .ref y6, .ref y7, .ref y8, .ref y9, .ref ya, .ref yb, .ref yc, .ref yd, .ref ye, .int md, .int o1, .int o2, .int mo, .ref yf, .ref yg, .ref yh])), (y3, .inl (cI, 2, .inl My)), (y4, .inl (cI, 10, .inl Fa)), (y5, .inl (cI, 10, .inl Ta)), (y6, .inl (cZ, 10, .inl La)), (y7, .inl (cI, 6, .inl Ga))]) (vp_Si (fun r => (∃ q, r = nI q ∧ px ≤ q ∧ q < 5 * cx + MA cx ∧ LA q = true ∧ v (FA q) ≠ v (TA q) ∧ ∀ x, px ≤ x → x < q → ¬ (LA x = true ∧ v (FA x) ≠ v (TA x))) ∨ (r = -1 ∧ ∀ x, px ≤ x → x < 5 * cx + MA cx → ¬ (LA x = true ∧ v (FA x) ≠ v (TA x))))) 0 0 (fun _ => False) := by
  refine Met.ofW (cc := cX4_nextList) (maxL := 4) (ret := (some .int)) (by decide) rfl ?_
  intro p e s m args below meth c s₁ B hml hv
  obtain ⟨rfl, hP, hz⟩ := hv
  have hx := B.exec
  have hb := B.bytes
  have hr := B.returns
  have hts := atoms_spec (ws := (Cond.code yX4_nextList cX4_nextList 4 (some .int) :: hwG)) B.pre
  have htg := fun w h => hts w (List.mem_cons_of_mem _ h)
  have hown : s.vm.findClass RX4 = some m.cls := findClass_of_methodNamed B.named
  have hlocks := B.notSynchronized
  have hK := hz.1
  have hl := lv_entry ([.ref y0, .int (nI cx), .int (nI px)]) (n := 4) (Nat.le_of_ble_eq_true rfl)
  rw [lg_entry_eq]
  generalize (lg_sl ([.ref y0, .int (nI cx), .int (nI px)]) ++ List.replicate (4 - (lg_sl ([.ref y0, .int (nI cx), .int (nI px)])).length) Slot.unset).toArray = ls at hl ⊢
  replace hl : lv_has ls 4 [(0, .ref y0), (1, .int (nI cx)), (2, .int (nI px))] := hl
  have hm5 := (hM.2.1 cx hc0).2
  refine lv_iload_n hx hb dX4_nextList_0 rfl (lv_at hl 2 rfl) ?_
  refine lv_istore_n hx hb dX4_nextList_1 rfl hl (by decide) rfl (fun ls hl => ?_)
  replace hl : lv_has ls 4 [(3, .int (nI px)), (0, .ref y0), (1, .int (nI cx)), (2, .int (nI px))] := hl
  obtain ⟨q, e_q⟩ : ∃ z : Nat, z = px := ⟨_, rfl⟩
  replace hl : lv_has ls 4 [(3, .int (nI q)), (0, .ref y0), (1, .int (nI cx)), (2, .int (nI px))] := by subst e_q; exact hl
  have hI : ∀ x, px ≤ x → x < q → ¬ (LA x = true ∧ v (FA x) ≠ v (TA x)) := by subst e_q; exact fun x h1 h2 => absurd h1 (by omega)
  have hpq : px ≤ q ∧ q ≤ 5 * cx + MA cx := by subst e_q; omega
  clear e_q
  obtain ⟨k, hk⟩ : ∃ k : Nat, k = 5 * cx + MA cx - q := ⟨_, rfl⟩
  induction k generalizing q ls  with
  | zero =>
    refine lv_iload_n hx hb dX4_nextList_2 rfl (lv_at hl 0 rfl) ?_
    refine lv_iconst (v := nI 5) hx hb dX4_nextList_3 (by decide) ?_
    refine lv_iload_n hx hb dX4_nextList_4 rfl (lv_at hl 2 rfl) ?_
    refine hw_imul hx hb dX4_nextList_5 ?_
    refine lv_aload_n hx hb dX4_nextList_6 rfl (lv_at hl 1 rfl) ?_
    refine va_get (D := D) (ci := 4) (v := .ref y3) (C := RX4) (T := TX4) (N := 22) hx hb htg hi_X4 hown hK hP 0 rfl rfl 3 (by decide) (htg _ hm_499) (fun _ h9 => h9) rfl dX4_nextList_7 ?_
    refine lv_iload_n hx hb dX4_nextList_10 rfl (lv_at hl 2 rfl) ?_
    refine hw_iald hx hb hK hP 1 0 rfl rfl (j := cx) (by omega) (by first | decide | omega) (v := nI (MA cx)) ((hM.2.1 cx (by omega)).1) dX4_nextList_11 ?_
    refine hw_iadd hx hb dX4_nextList_12 ?_
    refine hw_icmp_ge hx hb (by omega) (by omega) dX4_nextList_13 rfl (fun hc => ?_) (fun hc => absurd hc (by omega))
    refine lv_iconst (v := (-1)) hx hb dX4_nextList_41 (by decide) ?_
    exact W.iret (v := -1) hx hb hr (fun t9 ht9 hW9 => ⟨_, rfl, Or.inr ⟨rfl, fun x h1 h2 => hI x h1 (by omega)⟩, ht9⟩) (fun _ h => nomatch h) dX4_nextList_42
  | succ k ih =>
    refine lv_iload_n hx hb dX4_nextList_2 rfl (lv_at hl 0 rfl) ?_
    refine lv_iconst (v := nI 5) hx hb dX4_nextList_3 (by decide) ?_
    refine lv_iload_n hx hb dX4_nextList_4 rfl (lv_at hl 2 rfl) ?_
    refine hw_imul hx hb dX4_nextList_5 ?_
    refine lv_aload_n hx hb dX4_nextList_6 rfl (lv_at hl 1 rfl) ?_
    refine va_get (D := D) (ci := 4) (v := .ref y3) (C := RX4) (T := TX4) (N := 22) hx hb htg hi_X4 hown hK hP 0 rfl rfl 3 (by decide) (htg _ hm_499) (fun _ h9 => h9) rfl dX4_nextList_7 ?_
    refine lv_iload_n hx hb dX4_nextList_10 rfl (lv_at hl 2 rfl) ?_
    refine hw_iald hx hb hK hP 1 0 rfl rfl (j := cx) (by omega) (by first | decide | omega) (v := nI (MA cx)) ((hM.2.1 cx (by omega)).1) dX4_nextList_11 ?_
    refine hw_iadd hx hb dX4_nextList_12 ?_
    refine hw_icmp_ge hx hb (by omega) (by omega) dX4_nextList_13 rfl (fun hc => absurd hc (by omega)) (fun hc => ?_)
    refine lv_aload_n hx hb dX4_nextList_16 rfl (lv_at hl 1 rfl) ?_
    refine va_get (D := D) (ci := 4) (v := .ref y6) (C := RX4) (T := TX4) (N := 22) hx hb htg hi_X4 hown hK hP 0 rfl rfl 6 (by decide) (htg _ hm_502) (fun _ h9 => h9) rfl dX4_nextList_17 ?_
    refine lv_iload_n hx hb dX4_nextList_20 rfl (lv_at hl 0 rfl) ?_
    refine hw_zald hx hb hK hP 4 1 rfl rfl (j := q) (by omega) (by first | decide | omega) (v := hc_b (LA q)) ((hM.2.2 q (by omega)).2.2.2.2) dX4_nextList_21 ?_
    refine hw_ifeq_b hx hb dX4_nextList_22 rfl (fun hli => ?_) (fun hli => ?_)
    · refine lv_iinc (v := nI (q + 1)) (k := 0) hx hb dX4_nextList_35 hl rfl (hw_inc _) (by decide) rfl (fun ls hl => ?_)
      replace hl : lv_has ls 4 [(3, .int (nI (q + 1))), (0, .ref y0), (1, .int (nI cx)), (2, .int (nI px))] := hl
      refine lv_goto hx hb dX4_nextList_38 rfl ?_
      refine ih (hl := hl) (hI := (fun x h1 h2 => ?_)) (hpq := (by omega)) (hk := (by omega))
      by_cases hxq : x = q
      · rw [hxq]; exact fun q => by rw [q.1] at hli; cases hli
      · exact hI x h1 (by omega)
    · refine lv_aload_n hx hb dX4_nextList_25 rfl (lv_at hl 1 rfl) ?_
      refine lv_iload_n hx hb dX4_nextList_26 rfl (lv_at hl 0 rfl) ?_
      refine hw_csi (va_runV (C := RX4) (b := y0) (As := [.int (nI q)]) (rest := []) ⟨hx, hb, hml, hown, htg⟩ (k_X4_isEmpty l D cI cZ cJ Sa Oa My Fa Ta La SA OA MA FA TA LA v Ga q cd md o1 o2 mo y0 y1 y2 y3 y4 y5 y6 y7 y8 y9 ya yb yc yd ye yf yg yh hM hG hv (by omega)) (cwV 1 htg (hg_V hm_609 hm_611 hs_yX4_isEmpty hm_6 hm_612) rfl rfl rfl (by decide +kernel) ⟨Nat.le_of_ble_eq_true rfl, Nat.le_of_ble_eq_true rfl⟩) ⟨hp_R_blind, va_recv (q := (RX4, TX4, 22)) (q0 := 0) (ci := 4) hK hP rfl rfl, hp_R_pre (hP.sub (ws' := [(y0, .inr (4, [.int cd, .ref y1, .ref y2, .ref y3, .ref y4, .ref y5, .ref y6, .ref y7, .ref y8, .ref y9, .ref ya, .ref yb, .ref yc, .ref yd, .ref ye, .int md, .int o1, .int o2, .int mo, .ref yf, .ref yg, .ref yh])), (y4, .inl (cI, 10, .inl Fa)), (y5, .inl (cI, 10, .inl Ta)), (y6, .inl (cZ, 10, .inl La)), (y7, .inl (cI, 6, .inl Ga))]) [0, 2, 3, 4, 5] rfl) hz⟩ rfl rfl hl.1 rfl (lv_room (Nat.le_of_ble_eq_true rfl)) dX4_nextList_27 ⟨Nat.zero_le _, Nat.zero_le _⟩) (fun r hq => ?_)
      rcases hq with ⟨rfl, hq⟩ | ⟨rfl, hq⟩
      · refine lv_if_ne hx hb dX4_nextList_30 rfl (fun hc => ?_) (fun hc => absurd hc (by decide))
        refine lv_iinc (v := nI (q + 1)) (k := 0) hx hb dX4_nextList_35 hl rfl (hw_inc _) (by decide) rfl (fun ls hl => ?_)
        replace hl : lv_has ls 4 [(3, .int (nI (q + 1))), (0, .ref y0), (1, .int (nI cx)), (2, .int (nI px))] := hl
        refine lv_goto hx hb dX4_nextList_38 rfl ?_
        refine ih (hl := hl) (hI := (fun x h1 h2 => ?_)) (hpq := (by omega)) (hk := (by omega))
        by_cases hxq : x = q
        · rw [hxq]; exact fun r => r.2 hq.2
        · exact hI x h1 (by omega)
      · refine lv_if_ne hx hb dX4_nextList_30 rfl (fun hc => absurd rfl hc) (fun hc => ?_)
        refine lv_iload_n hx hb dX4_nextList_33 rfl (lv_at hl 0 rfl) ?_
        exact W.iret (v := nI q) hx hb hr (fun t9 ht9 hW9 => ⟨_, rfl, Or.inl ⟨q, rfl, hpq.1, by omega, hli, fun r => hq ⟨hli, r⟩, hI⟩, ht9⟩) (fun _ h => nomatch h) dX4_nextList_34

set_option maxHeartbeats 4000000 in
set_option maxRecDepth 100000 in
/-- some term has the group -/
theorem k_X4_isGroup (l : Launch) (D : va_G) (cI cZ cJ : ClassId) (v : Nat → Nat) (Ga : Nat → Int32) (g : Nat) (cd md o1 o2 mo : Int32) (y0 y1 y2 y3 y4 y5 y6 y7 y8 y9 ya yb yc yd ye yf yg yh : Nat) (hG : ∀ j, j < 6 → Ga j = nI (v j)) (hv : ∀ j, j < 6 → v j < 6) (hg : g < 6) : Met l yX4_isGroup (Cond.code yX4_isGroup cX4_isGroup 4 (some .boolean) :: hwG) { frames := 0, cells := 0, slots := 0, locals := 0 } (hp_R [.ref y0, .int (nI g)] D cI cZ cJ [(y0, .inr (4, [.int cd, .ref y1, .ref y2, .ref y3, .ref y4, .ref y5, .ref y6, .ref y7, .ref y8, .ref y9, .ref ya, .ref yb, .ref yc, .ref yd, .ref ye, .int md, .int o1, .int o2, .int mo, .ref yf, .ref yg, .ref yh])), (y7, .inl (cI, 6, .inl Ga))]) (vp_Si (fun r => hc_r r (∃ x, x < 6 ∧ v x = g))) 0 0 (fun _ => False) := by
  refine Met.ofW (cc := cX4_isGroup) (maxL := 4) (ret := (some .boolean)) (by decide) rfl ?_
  intro p e s m args below meth c s₁ B hml hv
  obtain ⟨rfl, hP, hz⟩ := hv
  have hx := B.exec
  have hb := B.bytes
  have hr := B.returns
  have hts := atoms_spec (ws := (Cond.code yX4_isGroup cX4_isGroup 4 (some .boolean) :: hwG)) B.pre
  have htg := fun w h => hts w (List.mem_cons_of_mem _ h)
  have hown : s.vm.findClass RX4 = some m.cls := findClass_of_methodNamed B.named
  have hlocks := B.notSynchronized
  have hK := hz.1
  have hl := lv_entry ([.ref y0, .int (nI g)]) (n := 4) (Nat.le_of_ble_eq_true rfl)
  rw [lg_entry_eq]
  generalize (lg_sl ([.ref y0, .int (nI g)]) ++ List.replicate (4 - (lg_sl ([.ref y0, .int (nI g)])).length) Slot.unset).toArray = ls at hl ⊢
  replace hl : lv_has ls 4 [(0, .ref y0), (1, .int (nI g))] := hl
  refine lv_iconst (v := nI 0) hx hb dX4_isGroup_0 (by decide) ?_
  refine lv_istore_n hx hb dX4_isGroup_1 rfl hl (by decide) rfl (fun ls hl => ?_)
  replace hl : lv_has ls 4 [(2, .int (nI 0)), (0, .ref y0), (1, .int (nI g))] := hl
  refine lv_iconst (v := nI 0) hx hb dX4_isGroup_2 (by decide) ?_
  refine lv_istore_n hx hb dX4_isGroup_3 rfl hl (by decide) rfl (fun ls hl => ?_)
  replace hl : lv_has ls 4 [(3, .int (nI 0)), (2, .int (nI 0)), (0, .ref y0), (1, .int (nI g))] := hl
  obtain ⟨t, e_t⟩ : ∃ z : Nat, z = 0 := ⟨_, rfl⟩
  obtain ⟨z, e_z⟩ : ∃ z : Int32, z = nI 0 := ⟨_, rfl⟩
  replace hl : lv_has ls 4 [(3, .int (nI t)), (2, .int z), (0, .ref y0), (1, .int (nI g))] := by subst e_t e_z; exact hl
  have hI : hc_r z (∃ x, x < t ∧ v x = g) := by subst e_t e_z; exact Or.inr ⟨rfl, fun ⟨x, h, _⟩ => absurd h (Nat.not_lt_zero _)⟩
  have ht6 : t ≤ 6 := by subst e_t e_z; omega
  clear e_t e_z
  obtain ⟨k, hk⟩ : ∃ k : Nat, k = 6 - t := ⟨_, rfl⟩
  induction k generalizing t z ls  with
  | zero =>
    refine lv_iload_n hx hb dX4_isGroup_4 rfl (lv_at hl 0 rfl) ?_
    refine lv_bipush (v := nI 6) hx hb dX4_isGroup_5 (by decide) ?_
    refine hw_icmp_ge hx hb (by omega) (by omega) dX4_isGroup_7 rfl (fun hc => ?_) (fun hc => absurd hc (by omega))
    refine lv_iload_n hx hb dX4_isGroup_36 rfl (lv_at hl 1 rfl) ?_
    have htt : t = 6 := by omega
    rcases hI with ⟨rfl, hI⟩ | ⟨rfl, hI⟩
    · exact W.zret (v := nI 1) hx hb hr (by decide +kernel) (fun t9 ht9 hW9 => ⟨_, rfl, Or.inl ⟨rfl, by rw [htt] at hI; exact hI⟩, ht9⟩) (fun _ h => nomatch h) dX4_isGroup_37
    · exact W.zret (v := nI 0) hx hb hr (by decide +kernel) (fun t9 ht9 hW9 => ⟨_, rfl, Or.inr ⟨rfl, by rw [htt] at hI; exact hI⟩, ht9⟩) (fun _ h => nomatch h) dX4_isGroup_37
  | succ k ih =>
    refine lv_iload_n hx hb dX4_isGroup_4 rfl (lv_at hl 0 rfl) ?_
    refine lv_bipush (v := nI 6) hx hb dX4_isGroup_5 (by decide) ?_
    refine hw_icmp_ge hx hb (by omega) (by omega) dX4_isGroup_7 rfl (fun hc => absurd hc (by omega)) (fun hc => ?_)
    have hvt := hv t (by omega)
    refine lv_iload_n hx hb dX4_isGroup_10 rfl (lv_at hl 1 rfl) ?_
    rcases hI with ⟨rfl, hI⟩ | ⟨rfl, hI⟩
    · refine lv_if_ne hx hb dX4_isGroup_11 rfl (fun hc => ?_) (fun hc => absurd hc (by decide))
      refine lv_iconst (v := nI 1) hx hb dX4_isGroup_24 (by decide) ?_
      refine lv_goto hx hb dX4_isGroup_25 rfl ?_
      refine lv_istore_n hx hb dX4_isGroup_29 rfl hl (by decide) rfl (fun ls hl => ?_)
      replace hl : lv_has ls 4 [(2, .int (nI 1)), (3, .int (nI t)), (0, .ref y0), (1, .int (nI g))] := hl
      refine lv_iinc (v := nI (t + 1)) (k := 1) hx hb dX4_isGroup_30 hl rfl (hw_inc _) (by decide) rfl (fun ls hl => ?_)
      replace hl : lv_has ls 4 [(3, .int (nI (t + 1))), (2, .int (nI 1)), (0, .ref y0), (1, .int (nI g))] := hl
      refine lv_goto hx hb dX4_isGroup_33 rfl ?_
      refine ih (hl := hl) (hI := (Or.inl ⟨rfl, (by obtain ⟨x, h1, h2⟩ := hI; exact ⟨x, by omega, h2⟩)⟩)) (ht6 := (by omega)) (hk := (by omega))
    · refine lv_if_ne hx hb dX4_isGroup_11 rfl (fun hc => absurd rfl hc) (fun hc => ?_)
      refine lv_aload_n hx hb dX4_isGroup_14 rfl (lv_at hl 2 rfl) ?_
      refine va_get (D := D) (ci := 4) (v := .ref y7) (C := RX4) (T := TX4) (N := 22) hx hb htg hi_X4 hown hK hP 0 rfl rfl 7 (by decide) (htg _ hm_503) (fun _ h9 => h9) rfl dX4_isGroup_15 ?_
      refine lv_iload_n hx hb dX4_isGroup_18 rfl (lv_at hl 0 rfl) ?_
      refine hw_iald hx hb hK hP 1 0 rfl rfl (j := t) (by omega) (by first | decide | omega) (v := nI (v t)) (hG t (by first | omega | assumption)) dX4_isGroup_19 ?_
      refine lv_iload_n hx hb dX4_isGroup_20 rfl (lv_at hl 3 rfl) ?_
      refine hw_icmp_ne hx hb (by omega) (by omega) dX4_isGroup_21 rfl (fun he => ?_) (fun he => ?_)
      · refine lv_iconst (v := nI 0) hx hb dX4_isGroup_28 (by decide) ?_
        refine lv_istore_n hx hb dX4_isGroup_29 rfl hl (by decide) rfl (fun ls hl => ?_)
        replace hl : lv_has ls 4 [(2, .int (nI 0)), (3, .int (nI t)), (0, .ref y0), (1, .int (nI g))] := hl
        refine lv_iinc (v := nI (t + 1)) (k := 1) hx hb dX4_isGroup_30 hl rfl (hw_inc _) (by decide) rfl (fun ls hl => ?_)
        replace hl : lv_has ls 4 [(3, .int (nI (t + 1))), (2, .int (nI 0)), (0, .ref y0), (1, .int (nI g))] := hl
        refine lv_goto hx hb dX4_isGroup_33 rfl ?_
        refine ih (hl := hl) (hI := (Or.inr ⟨rfl, fun ⟨x, h1, h2⟩ => ?_⟩)) (ht6 := (by omega)) (hk := (by omega))
        by_cases hxt : x = t
        · rw [hxt] at h2; exact he h2
        · exact hI ⟨x, by omega, h2⟩
      · refine lv_iconst (v := nI 1) hx hb dX4_isGroup_24 (by decide) ?_
        refine lv_goto hx hb dX4_isGroup_25 rfl ?_
        refine lv_istore_n hx hb dX4_isGroup_29 rfl hl (by decide) rfl (fun ls hl => ?_)
        replace hl : lv_has ls 4 [(2, .int (nI 1)), (3, .int (nI t)), (0, .ref y0), (1, .int (nI g))] := hl
        refine lv_iinc (v := nI (t + 1)) (k := 1) hx hb dX4_isGroup_30 hl rfl (hw_inc _) (by decide) rfl (fun ls hl => ?_)
        replace hl : lv_has ls 4 [(3, .int (nI (t + 1))), (2, .int (nI 1)), (0, .ref y0), (1, .int (nI g))] := hl
        refine lv_goto hx hb dX4_isGroup_33 rfl ?_
        refine ih (hl := hl) (hI := (Or.inl ⟨rfl, t, by omega, he⟩)) (ht6 := (by omega)) (hk := (by omega))

set_option maxHeartbeats 4000000 in
set_option maxRecDepth 100000 in
/-- an address to choose -/
theorem k_X4_isFree (l : Launch) (D : va_G) (cI cZ cJ : ClassId) (v : Nat → Nat) (Ga : Nat → Int32) (Ca : Nat → Int32) (CA : Nat → Bool) (g en : Nat) (cd md o1 o2 mo : Int32) (y0 y1 y2 y3 y4 y5 y6 y7 y8 y9 ya yb yc yd ye yf yg yh : Nat) (hG : ∀ j, j < 6 → Ga j = nI (v j)) (hv : ∀ j, j < 6 → v j < 6) (hCa : ∀ j, j < 6 → Ca j = hc_b (CA j)) (hg : g < 6) (hen : en < 6) : Met l yX4_isFree (Cond.code yX4_isFree cX4_isFree 3 (some .boolean) :: hwG) { frames := 1, cells := 0, slots := 0, locals := 23 } (hp_R [.ref y0, .int (nI g), .int (nI en)] D cI cZ cJ [(y0, .inr (4, [.int cd, .ref y1, .ref y2, .ref y3, .ref y4, .ref y5, .ref y6, .ref y7, .ref y8, .ref y9, .ref ya, .ref yb, .ref yc, .ref yd, .ref ye, .int md, .int o1, .int o2, .int mo, .ref yf, .ref yg, .ref yh])), (y7, .inl (cI, 6, .inl Ga)), (y8, .inl (cZ, 6, .inl Ca))]) (vp_Si (fun r => hc_r r ((∃ x, x < 6 ∧ v x = g) ∧ g ≠ en ∧ g ≠ v 5 ∧ CA g = false))) 0 0 (fun _ => False) := by
  refine Met.ofW (cc := cX4_isFree) (maxL := 3) (ret := (some .boolean)) (by decide) rfl ?_
  intro p e s m args below meth c s₁ B hml hv
  obtain ⟨rfl, hP, hz⟩ := hv
  have hx := B.exec
  have hb := B.bytes
  have hr := B.returns
  have hts := atoms_spec (ws := (Cond.code yX4_isFree cX4_isFree 3 (some .boolean) :: hwG)) B.pre
  have htg := fun w h => hts w (List.mem_cons_of_mem _ h)
  have hown : s.vm.findClass RX4 = some m.cls := findClass_of_methodNamed B.named
  have hlocks := B.notSynchronized
  have hK := hz.1
  have hl := lv_entry ([.ref y0, .int (nI g), .int (nI en)]) (n := 3) (Nat.le_of_ble_eq_true rfl)
  rw [lg_entry_eq]
  generalize (lg_sl ([.ref y0, .int (nI g), .int (nI en)]) ++ List.replicate (3 - (lg_sl ([.ref y0, .int (nI g), .int (nI en)])).length) Slot.unset).toArray = ls at hl ⊢
  replace hl : lv_has ls 3 [(0, .ref y0), (1, .int (nI g)), (2, .int (nI en))] := hl
  have hv5 := hv 5 (by omega)
  refine lv_aload_n hx hb dX4_isFree_0 rfl (lv_at hl 0 rfl) ?_
  refine lv_iload_n hx hb dX4_isFree_1 rfl (lv_at hl 1 rfl) ?_
  refine hw_csi (va_runV (C := RX4) (b := y0) (As := [.int (nI g)]) (rest := []) ⟨hx, hb, hml, hown, htg⟩ (k_X4_isGroup l D cI cZ cJ v Ga g cd md o1 o2 mo y0 y1 y2 y3 y4 y5 y6 y7 y8 y9 ya yb yc yd ye yf yg yh hG hv hg) (cwV 1 htg (hg_V hm_637 hm_639 hs_yX4_isGroup hm_6 hm_640) rfl rfl rfl (by decide +kernel) ⟨Nat.le_of_ble_eq_true rfl, Nat.le_of_ble_eq_true rfl⟩) ⟨hp_R_blind, va_recv (q := (RX4, TX4, 22)) (q0 := 0) (ci := 4) hK hP rfl rfl, hp_R_pre (hP.sub (ws' := [(y0, .inr (4, [.int cd, .ref y1, .ref y2, .ref y3, .ref y4, .ref y5, .ref y6, .ref y7, .ref y8, .ref y9, .ref ya, .ref yb, .ref yc, .ref yd, .ref ye, .int md, .int o1, .int o2, .int mo, .ref yf, .ref yg, .ref yh])), (y7, .inl (cI, 6, .inl Ga))]) [0, 1] rfl) hz⟩ rfl rfl hl.1 rfl (lv_room (Nat.le_of_ble_eq_true rfl)) dX4_isFree_2 ⟨Nat.zero_le _, Nat.zero_le _⟩) (fun r hq => ?_)
  rcases hq with ⟨rfl, hq⟩ | ⟨rfl, hq⟩
  · refine lv_if_eq hx hb dX4_isFree_5 rfl (fun hc => absurd hc (by decide)) (fun hc => ?_)
    refine lv_iload_n hx hb dX4_isFree_8 rfl (lv_at hl 1 rfl) ?_
    refine lv_iload_n hx hb dX4_isFree_9 rfl (lv_at hl 2 rfl) ?_
    refine hw_icmp_eq hx hb (by omega) (by omega) dX4_isFree_10 rfl (fun h1 => ?_) (fun h1 => ?_)
    · refine lv_iconst (v := nI 0) hx hb dX4_isFree_36 (by decide) ?_
      exact W.zret (v := nI 0) hx hb hr (by decide +kernel) (fun t9 ht9 hW9 => ⟨_, rfl, Or.inr ⟨rfl, fun h9 => h9.2.1 h1⟩, ht9⟩) (fun _ h => nomatch h) dX4_isFree_37
    · refine lv_iload_n hx hb dX4_isFree_13 rfl (lv_at hl 1 rfl) ?_
      refine lv_aload_n hx hb dX4_isFree_14 rfl (lv_at hl 0 rfl) ?_
      refine va_get (D := D) (ci := 4) (v := .ref y7) (C := RX4) (T := TX4) (N := 22) hx hb htg hi_X4 hown hK hP 0 rfl rfl 7 (by decide) (htg _ hm_503) (fun _ h9 => h9) rfl dX4_isFree_15 ?_
      refine lv_iconst (v := nI 5) hx hb dX4_isFree_18 (by decide) ?_
      refine hw_iald hx hb hK hP 1 0 rfl rfl (j := 5) (by omega) (by first | decide | omega) (v := nI (v 5)) (hG 5 (by first | omega | assumption)) dX4_isFree_19 ?_
      refine hw_icmp_eq hx hb (by omega) (by omega) dX4_isFree_20 rfl (fun h2 => ?_) (fun h2 => ?_)
      · refine lv_iconst (v := nI 0) hx hb dX4_isFree_36 (by decide) ?_
        exact W.zret (v := nI 0) hx hb hr (by decide +kernel) (fun t9 ht9 hW9 => ⟨_, rfl, Or.inr ⟨rfl, fun h9 => h9.2.2.1 h2⟩, ht9⟩) (fun _ h => nomatch h) dX4_isFree_37
      · refine lv_aload_n hx hb dX4_isFree_23 rfl (lv_at hl 0 rfl) ?_
        refine va_get (D := D) (ci := 4) (v := .ref y8) (C := RX4) (T := TX4) (N := 22) hx hb htg hi_X4 hown hK hP 0 rfl rfl 8 (by decide) (htg _ hm_504) (fun _ h9 => h9) rfl dX4_isFree_24 ?_
        refine lv_iload_n hx hb dX4_isFree_27 rfl (lv_at hl 1 rfl) ?_
        refine hw_zald hx hb hK hP 2 1 rfl rfl (j := g) (by omega) (by first | decide | omega) (v := hc_b (CA g)) (hCa g (by omega)) dX4_isFree_28 ?_
        refine hw_ifne_b hx hb dX4_isFree_29 rfl (fun h3 => ?_) (fun h3 => ?_)
        · refine lv_iconst (v := nI 0) hx hb dX4_isFree_36 (by decide) ?_
          exact W.zret (v := nI 0) hx hb hr (by decide +kernel) (fun t9 ht9 hW9 => ⟨_, rfl, Or.inr ⟨rfl, fun h9 => (by have := h9.2.2.2; rw [h3] at this; cases this)⟩, ht9⟩) (fun _ h => nomatch h) dX4_isFree_37
        · refine lv_iconst (v := nI 1) hx hb dX4_isFree_32 (by decide) ?_
          refine lv_goto hx hb dX4_isFree_33 rfl ?_
          exact W.zret (v := nI 1) hx hb hr (by decide +kernel) (fun t9 ht9 hW9 => ⟨_, rfl, Or.inl ⟨rfl, hq, h1, h2, h3⟩, ht9⟩) (fun _ h => nomatch h) dX4_isFree_37
  · refine lv_if_eq hx hb dX4_isFree_5 rfl (fun hc => ?_) (fun hc => absurd rfl hc)
    refine lv_iconst (v := nI 0) hx hb dX4_isFree_36 (by decide) ?_
    exact W.zret (v := nI 0) hx hb hr (by decide +kernel) (fun t9 ht9 hW9 => ⟨_, rfl, Or.inr ⟨rfl, fun h9 => hq h9.1⟩, ht9⟩) (fun _ h => nomatch h) dX4_isFree_37
