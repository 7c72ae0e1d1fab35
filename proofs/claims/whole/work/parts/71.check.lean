set_option maxHeartbeats 4000000 in
set_option maxRecDepth 100000 in
/-- a claim -/
theorem k_X3_claimAt0 (l : Launch) (D : va_G) (cI cZ cJ : ClassId) (x0 h hh w k0 : Nat) : Met l yX3_claimAt (Cond.code yX3_claimAt cX3_claimAt 2 (some (.object "HeapClaims$Claim")) :: hwG) { frames := 0, cells := 0, slots := 0, locals := 0 } (hp_R [.ref x0, .int (nI 0)] D cI cZ cJ [(x0, .inr (3, [.ref h, .ref hh, .ref w, .ref k0]))]) (va_Sr (fun _ => True) (fun _ => .ref h)) 0 0 (fun _ => False) := by
  refine Met.ofW (cc := cX3_claimAt) (maxL := 2) (ret := (some (.object "HeapClaims$Claim"))) (by decide) rfl ?_
  intro p e s m args below meth c s₁ B hml hv
  obtain ⟨rfl, hP, hz⟩ := hv
  have hx := B.exec
  have hb := B.bytes
  have hr := B.returns
  have hts := atoms_spec (ws := (Cond.code yX3_claimAt cX3_claimAt 2 (some (.object "HeapClaims$Claim")) :: hwG)) B.pre
  have htg := fun w h => hts w (List.mem_cons_of_mem _ h)
  have hown : s.vm.findClass RX3 = some m.cls := findClass_of_methodNamed B.named
  have hlocks := B.notSynchronized
  have hK := hz.1
  have hl := lv_entry ([.ref x0, .int (nI 0)]) (n := 2) (Nat.le_of_ble_eq_true rfl)
  rw [lg_entry_eq]
  generalize (lg_sl ([.ref x0, .int (nI 0)]) ++ List.replicate (2 - (lg_sl ([.ref x0, .int (nI 0)])).length) Slot.unset).toArray = ls at hl ⊢
  replace hl : lv_has ls 2 [(0, .ref x0), (1, .int (nI 0))] := hl
  refine lv_iload_n hx hb dX3_claimAt_0 rfl (lv_at hl 1 rfl) ?_
  refine lv_if_eq hx hb dX3_claimAt_1 rfl (fun hc => ?_) (fun hc => absurd rfl hc)
  refine lv_iload_n hx hb dX3_claimAt_19 rfl (lv_at hl 1 rfl) ?_
  refine lv_if_ne hx hb dX3_claimAt_20 rfl (fun hc => absurd rfl hc) (fun hc => ?_)
  refine lv_aload_n hx hb dX3_claimAt_23 rfl (lv_at hl 0 rfl) ?_
  refine va_get (D := D) (ci := 3) (v := .ref h) (C := RX3) (T := TX3) (N := 4) hx hb htg hi_X3 hown hK hP 0 rfl rfl 0 (by decide) (htg _ hm_112) (fun _ h9 => h9) rfl dX3_claimAt_24 ?_
  refine lv_goto hx hb dX3_claimAt_27 rfl ?_
  exact W.aret hx hb hr (Or.inl ⟨_, rfl⟩) (Or.inr ⟨_, rfl⟩) (fun t9 ht9 hW9 => ⟨0, rfl, trivial, ht9⟩) (fun _ h => nomatch h) dX3_claimAt_34

set_option maxHeartbeats 4000000 in
set_option maxRecDepth 100000 in
/-- a claim -/
theorem k_X3_claimAt1 (l : Launch) (D : va_G) (cI cZ cJ : ClassId) (x0 h hh w k0 : Nat) : Met l yX3_claimAt (Cond.code yX3_claimAt cX3_claimAt 2 (some (.object "HeapClaims$Claim")) :: hwG) { frames := 0, cells := 0, slots := 0, locals := 0 } (hp_R [.ref x0, .int (nI 1)] D cI cZ cJ [(x0, .inr (3, [.ref h, .ref hh, .ref w, .ref k0]))]) (va_Sr (fun _ => True) (fun _ => .ref hh)) 0 0 (fun _ => False) := by
  refine Met.ofW (cc := cX3_claimAt) (maxL := 2) (ret := (some (.object "HeapClaims$Claim"))) (by decide) rfl ?_
  intro p e s m args below meth c s₁ B hml hv
  obtain ⟨rfl, hP, hz⟩ := hv
  have hx := B.exec
  have hb := B.bytes
  have hr := B.returns
  have hts := atoms_spec (ws := (Cond.code yX3_claimAt cX3_claimAt 2 (some (.object "HeapClaims$Claim")) :: hwG)) B.pre
  have htg := fun w h => hts w (List.mem_cons_of_mem _ h)
  have hown : s.vm.findClass RX3 = some m.cls := findClass_of_methodNamed B.named
  have hlocks := B.notSynchronized
  have hK := hz.1
  have hl := lv_entry ([.ref x0, .int (nI 1)]) (n := 2) (Nat.le_of_ble_eq_true rfl)
  rw [lg_entry_eq]
  generalize (lg_sl ([.ref x0, .int (nI 1)]) ++ List.replicate (2 - (lg_sl ([.ref x0, .int (nI 1)])).length) Slot.unset).toArray = ls at hl ⊢
  replace hl : lv_has ls 2 [(0, .ref x0), (1, .int (nI 1))] := hl
  refine lv_iload_n hx hb dX3_claimAt_0 rfl (lv_at hl 1 rfl) ?_
  refine lv_if_eq hx hb dX3_claimAt_1 rfl (fun hc => absurd hc (by decide)) (fun hc => ?_)
  refine lv_iload_n hx hb dX3_claimAt_4 rfl (lv_at hl 1 rfl) ?_
  refine lv_iconst (v := nI 1) hx hb dX3_claimAt_5 (by decide) ?_
  refine hw_icmp_eq hx hb (by omega) (by omega) dX3_claimAt_6 rfl (fun hc => ?_) (fun hc => absurd rfl hc)
  refine lv_iload_n hx hb dX3_claimAt_19 rfl (lv_at hl 1 rfl) ?_
  refine lv_if_ne hx hb dX3_claimAt_20 rfl (fun hc => ?_) (fun hc => absurd hc (by decide))
  refine lv_aload_n hx hb dX3_claimAt_30 rfl (lv_at hl 0 rfl) ?_
  refine va_get (D := D) (ci := 3) (v := .ref hh) (C := RX3) (T := TX3) (N := 4) hx hb htg hi_X3 hown hK hP 0 rfl rfl 1 (by decide) (htg _ hm_113) (fun _ h9 => h9) rfl dX3_claimAt_31 ?_
  exact W.aret hx hb hr (Or.inl ⟨_, rfl⟩) (Or.inr ⟨_, rfl⟩) (fun t9 ht9 hW9 => ⟨0, rfl, trivial, ht9⟩) (fun _ h => nomatch h) dX3_claimAt_34

set_option maxHeartbeats 4000000 in
set_option maxRecDepth 100000 in
/-- no such claim -/
theorem kx_X3_claimAt (l : Launch) (hst : l.stackTraces = false) (D : va_G) (cI cZ cJ : ClassId) (sa : Nat → Nat) (cx : Nat) (x0 h hh w k0 : Nat) (hcx : cx < 2 ^ 32) (hc2 : ¬ cx < 2) : hx_Met l yX3_claimAt (Cond.code yX3_claimAt cX3_claimAt 2 (some (.object "HeapClaims$Claim")) :: hwG) { frames := 6, cells := 1, slots := 6, locals := 82 } (hp_X [.ref x0, .int (nI cx)] D cI cZ cJ [(x0, .inr (3, [.ref h, .ref hh, .ref w, .ref k0]))] sa) hxI := by
  refine hx_ofW (cc := cX3_claimAt) (maxL := 2) (ret := (some (.object "HeapClaims$Claim"))) (by decide) rfl ?_
  intro p e s m args below meth c s₁ B hml hout hv
  obtain ⟨rfl, hP, hz, hE⟩ := hv
  have hx := B.exec
  have hb := B.bytes
  have hts := atoms_spec (ws := (Cond.code yX3_claimAt cX3_claimAt 2 (some (.object "HeapClaims$Claim")) :: hwG)) B.pre
  have htg := fun w h => hts w (List.mem_cons_of_mem _ h)
  have hown : s.vm.findClass RX3 = some m.cls := findClass_of_methodNamed B.named
  have hlocks := B.notSynchronized
  have hK := hz.1
  have hl := lv_entry ([.ref x0, .int (nI cx)]) (n := 2) (Nat.le_of_ble_eq_true rfl)
  rw [lg_entry_eq]
  generalize (lg_sl ([.ref x0, .int (nI cx)]) ++ List.replicate (2 - (lg_sl ([.ref x0, .int (nI cx)])).length) Slot.unset).toArray = ls at hl ⊢
  replace hl : lv_has ls 2 [(0, .ref x0), (1, .int (nI cx))] := hl
  refine lv_iload_n hx hb dX3_claimAt_0 rfl (lv_at hl 1 rfl) ?_
  refine lv_if_eq hx hb dX3_claimAt_1 rfl (fun hc => absurd ((hm_eq (b := 0) hcx (by omega)).mp hc) (by omega)) (fun hc => ?_)
  refine lv_iload_n hx hb dX3_claimAt_4 rfl (lv_at hl 1 rfl) ?_
  refine lv_iconst (v := nI 1) hx hb dX3_claimAt_5 (by decide) ?_
  refine lv_icmp_eq hx hb dX3_claimAt_6 rfl (fun hc => absurd ((hm_eq (b := 1) hcx (by omega)).mp hc) (by omega)) (fun hc => ?_)
  exact hx_throw hx hb hst (own := RX3) (cls := hxI) (names := hxN) (ik := 140) (is := 142) (ic := 144) hown (by decide) (by decide) (htg _ hm_221) (htg _ hm_10) (hE.2 (142, "claims are 0 and 1") (by decide)) (hx_own hx_oI htg hE.1) (hl.1.trans hml.symm) dX3_claimAt_9 dX3_claimAt_12 dX3_claimAt_13 dX3_claimAt_15 dX3_claimAt_18 hout (Nat.le_of_ble_eq_true rfl) (Nat.le_of_ble_eq_true rfl) (Nat.le_of_ble_eq_true rfl) (Nat.le_of_ble_eq_true rfl) hlocks

set_option maxHeartbeats 4000000 in
set_option maxRecDepth 100000 in
/-- there is such a number -/
theorem k_X3_checkTerm (l : Launch) (D : va_G) (cI cZ cJ : ClassId) (t : Nat) (x0 h hh w k0 : Nat) (ht : t < 6) : Met l yX3_checkTerm (Cond.code yX3_checkTerm cX3_checkTerm 2 none :: hwG) { frames := 0, cells := 0, slots := 0, locals := 0 } (hp_R [.ref x0, .int (nI t)] D cI cZ cJ [(x0, .inr (3, [.ref h, .ref hh, .ref w, .ref k0]))]) (va_Sv (fun _ => True)) 0 0 (fun _ => False) := by
  refine Met.ofW (cc := cX3_checkTerm) (maxL := 2) (ret := none) (by decide) rfl ?_
  intro p e s m args below meth c s₁ B hml hv
  obtain ⟨rfl, hP, hz⟩ := hv
  have hx := B.exec
  have hb := B.bytes
  have hr := B.returns
  have hts := atoms_spec (ws := (Cond.code yX3_checkTerm cX3_checkTerm 2 none :: hwG)) B.pre
  have htg := fun w h => hts w (List.mem_cons_of_mem _ h)
  have hown : s.vm.findClass RX3 = some m.cls := findClass_of_methodNamed B.named
  have hlocks := B.notSynchronized
  have hK := hz.1
  have hl := lv_entry ([.ref x0, .int (nI t)]) (n := 2) (Nat.le_of_ble_eq_true rfl)
  rw [lg_entry_eq]
  generalize (lg_sl ([.ref x0, .int (nI t)]) ++ List.replicate (2 - (lg_sl ([.ref x0, .int (nI t)])).length) Slot.unset).toArray = ls at hl ⊢
  replace hl : lv_has ls 2 [(0, .ref x0), (1, .int (nI t))] := hl
  refine lv_iload_n hx hb dX3_checkTerm_0 rfl (lv_at hl 1 rfl) ?_
  refine lv_if_lt hx hb dX3_checkTerm_1 rfl (fun hc => absurd hc (nI_pos (by omega))) (fun hc => ?_)
  refine lv_iload_n hx hb dX3_checkTerm_4 rfl (lv_at hl 1 rfl) ?_
  refine lv_bipush (v := nI 6) hx hb dX3_checkTerm_5 (by decide) ?_
  refine hw_icmp_lt hx hb (by omega) (by omega) dX3_checkTerm_7 rfl (fun hc => ?_) (fun hc => absurd hc (by omega))
  exact W.vret hx hb hr (fun t9 ht9 hW9 => ⟨rfl, trivial, ht9⟩) (fun _ h => nomatch h) dX3_checkTerm_20

set_option maxHeartbeats 4000000 in
set_option maxRecDepth 100000 in
/-- no such number -/
theorem kx_X3_checkTerm (l : Launch) (hst : l.stackTraces = false) (D : va_G) (cI cZ cJ : ClassId) (sa : Nat → Nat) (t : Nat) (x0 h hh w k0 : Nat) (ht : t < 2 ^ 32) (ht2 : ¬ t < 6) : hx_Met l yX3_checkTerm (Cond.code yX3_checkTerm cX3_checkTerm 2 none :: hwG) { frames := 6, cells := 1, slots := 6, locals := 82 } (hp_X [.ref x0, .int (nI t)] D cI cZ cJ [(x0, .inr (3, [.ref h, .ref hh, .ref w, .ref k0]))] sa) hxI := by
  refine hx_ofW (cc := cX3_checkTerm) (maxL := 2) (ret := none) (by decide) rfl ?_
  intro p e s m args below meth c s₁ B hml hout hv
  obtain ⟨rfl, hP, hz, hE⟩ := hv
  have hx := B.exec
  have hb := B.bytes
  have hts := atoms_spec (ws := (Cond.code yX3_checkTerm cX3_checkTerm 2 none :: hwG)) B.pre
  have htg := fun w h => hts w (List.mem_cons_of_mem _ h)
  have hown : s.vm.findClass RX3 = some m.cls := findClass_of_methodNamed B.named
  have hlocks := B.notSynchronized
  have hK := hz.1
  have hl := lv_entry ([.ref x0, .int (nI t)]) (n := 2) (Nat.le_of_ble_eq_true rfl)
  rw [lg_entry_eq]
  generalize (lg_sl ([.ref x0, .int (nI t)]) ++ List.replicate (2 - (lg_sl ([.ref x0, .int (nI t)])).length) Slot.unset).toArray = ls at hl ⊢
  replace hl : lv_has ls 2 [(0, .ref x0), (1, .int (nI t))] := hl
  refine lv_iload_n hx hb dX3_checkTerm_0 rfl (lv_at hl 1 rfl) ?_
  refine lv_if_lt hx hb dX3_checkTerm_1 rfl (fun h1 => ?_) (fun h1 => ?_)
  · exact hx_throw hx hb hst (own := RX3) (cls := hxI) (names := hxN) (ik := 140) (is := 145) (ic := 144) hown (by decide) (by decide) (htg _ hm_221) (htg _ hm_10) (hE.2 (145, "terms are 0 .. 5") (by decide)) (hx_own hx_oI htg hE.1) (hl.1.trans hml.symm) dX3_checkTerm_10 dX3_checkTerm_13 dX3_checkTerm_14 dX3_checkTerm_16 dX3_checkTerm_19 hout (Nat.le_of_ble_eq_true rfl) (Nat.le_of_ble_eq_true rfl) (Nat.le_of_ble_eq_true rfl) (Nat.le_of_ble_eq_true rfl) hlocks
  · have h1 : t < 2 ^ 31 := Nat.lt_of_not_le (fun q => h1 ((hm_neg ht).mpr q))
    refine lv_iload_n hx hb dX3_checkTerm_4 rfl (lv_at hl 1 rfl) ?_
    refine lv_bipush (v := nI 6) hx hb dX3_checkTerm_5 (by decide) ?_
    refine hw_icmp_lt hx hb (by omega) (by omega) dX3_checkTerm_7 rfl (fun hc => absurd hc (by omega)) (fun hc => ?_)
    exact hx_throw hx hb hst (own := RX3) (cls := hxI) (names := hxN) (ik := 140) (is := 145) (ic := 144) hown (by decide) (by decide) (htg _ hm_221) (htg _ hm_10) (hE.2 (145, "terms are 0 .. 5") (by decide)) (hx_own hx_oI htg hE.1) (hl.1.trans hml.symm) dX3_checkTerm_10 dX3_checkTerm_13 dX3_checkTerm_14 dX3_checkTerm_16 dX3_checkTerm_19 hout (Nat.le_of_ble_eq_true rfl) (Nat.le_of_ble_eq_true rfl) (Nat.le_of_ble_eq_true rfl) (Nat.le_of_ble_eq_true rfl) hlocks

set_option maxHeartbeats 4000000 in
set_option maxRecDepth 100000 in
/-- there is such a number -/
theorem k_X3_checkVariable (l : Launch) (D : va_G) (cI cZ cJ : ClassId) (t : Nat) (x0 h hh w k0 : Nat) (ht : t < 5) : Met l yX3_checkVariable (Cond.code yX3_checkVariable cX3_checkVariable 2 none :: hwG) { frames := 0, cells := 0, slots := 0, locals := 0 } (hp_R [.ref x0, .int (nI t)] D cI cZ cJ [(x0, .inr (3, [.ref h, .ref hh, .ref w, .ref k0]))]) (va_Sv (fun _ => True)) 0 0 (fun _ => False) := by
  refine Met.ofW (cc := cX3_checkVariable) (maxL := 2) (ret := none) (by decide) rfl ?_
  intro p e s m args below meth c s₁ B hml hv
  obtain ⟨rfl, hP, hz⟩ := hv
  have hx := B.exec
  have hb := B.bytes
  have hr := B.returns
  have hts := atoms_spec (ws := (Cond.code yX3_checkVariable cX3_checkVariable 2 none :: hwG)) B.pre
  have htg := fun w h => hts w (List.mem_cons_of_mem _ h)
  have hown : s.vm.findClass RX3 = some m.cls := findClass_of_methodNamed B.named
  have hlocks := B.notSynchronized
  have hK := hz.1
  have hl := lv_entry ([.ref x0, .int (nI t)]) (n := 2) (Nat.le_of_ble_eq_true rfl)
  rw [lg_entry_eq]
  generalize (lg_sl ([.ref x0, .int (nI t)]) ++ List.replicate (2 - (lg_sl ([.ref x0, .int (nI t)])).length) Slot.unset).toArray = ls at hl ⊢
  replace hl : lv_has ls 2 [(0, .ref x0), (1, .int (nI t))] := hl
  refine lv_iload_n hx hb dX3_checkVariable_0 rfl (lv_at hl 1 rfl) ?_
  refine lv_if_lt hx hb dX3_checkVariable_1 rfl (fun hc => absurd hc (nI_pos (by omega))) (fun hc => ?_)
  refine lv_iload_n hx hb dX3_checkVariable_4 rfl (lv_at hl 1 rfl) ?_
  refine lv_iconst (v := nI 5) hx hb dX3_checkVariable_5 (by decide) ?_
  refine hw_icmp_lt hx hb (by omega) (by omega) dX3_checkVariable_6 rfl (fun hc => ?_) (fun hc => absurd hc (by omega))
  exact W.vret hx hb hr (fun t9 ht9 hW9 => ⟨rfl, trivial, ht9⟩) (fun _ h => nomatch h) dX3_checkVariable_19

set_option maxHeartbeats 4000000 in
set_option maxRecDepth 100000 in
/-- no such number -/
theorem kx_X3_checkVariable (l : Launch) (hst : l.stackTraces = false) (D : va_G) (cI cZ cJ : ClassId) (sa : Nat → Nat) (t : Nat) (x0 h hh w k0 : Nat) (ht : t < 2 ^ 32) (ht2 : ¬ t < 5) : hx_Met l yX3_checkVariable (Cond.code yX3_checkVariable cX3_checkVariable 2 none :: hwG) { frames := 6, cells := 1, slots := 6, locals := 82 } (hp_X [.ref x0, .int (nI t)] D cI cZ cJ [(x0, .inr (3, [.ref h, .ref hh, .ref w, .ref k0]))] sa) hxI := by
  refine hx_ofW (cc := cX3_checkVariable) (maxL := 2) (ret := none) (by decide) rfl ?_
  intro p e s m args below meth c s₁ B hml hout hv
  obtain ⟨rfl, hP, hz, hE⟩ := hv
  have hx := B.exec
  have hb := B.bytes
  have hts := atoms_spec (ws := (Cond.code yX3_checkVariable cX3_checkVariable 2 none :: hwG)) B.pre
  have htg := fun w h => hts w (List.mem_cons_of_mem _ h)
  have hown : s.vm.findClass RX3 = some m.cls := findClass_of_methodNamed B.named
  have hlocks := B.notSynchronized
  have hK := hz.1
  have hl := lv_entry ([.ref x0, .int (nI t)]) (n := 2) (Nat.le_of_ble_eq_true rfl)
  rw [lg_entry_eq]
  generalize (lg_sl ([.ref x0, .int (nI t)]) ++ List.replicate (2 - (lg_sl ([.ref x0, .int (nI t)])).length) Slot.unset).toArray = ls at hl ⊢
  replace hl : lv_has ls 2 [(0, .ref x0), (1, .int (nI t))] := hl
  refine lv_iload_n hx hb dX3_checkVariable_0 rfl (lv_at hl 1 rfl) ?_
  refine lv_if_lt hx hb dX3_checkVariable_1 rfl (fun h1 => ?_) (fun h1 => ?_)
  · exact hx_throw hx hb hst (own := RX3) (cls := hxI) (names := hxN) (ik := 140) (is := 147) (ic := 144) hown (by decide) (by decide) (htg _ hm_221) (htg _ hm_10) (hE.2 (147, "variables are 0 .. 4") (by decide)) (hx_own hx_oI htg hE.1) (hl.1.trans hml.symm) dX3_checkVariable_9 dX3_checkVariable_12 dX3_checkVariable_13 dX3_checkVariable_15 dX3_checkVariable_18 hout (Nat.le_of_ble_eq_true rfl) (Nat.le_of_ble_eq_true rfl) (Nat.le_of_ble_eq_true rfl) (Nat.le_of_ble_eq_true rfl) hlocks
  · have h1 : t < 2 ^ 31 := Nat.lt_of_not_le (fun q => h1 ((hm_neg ht).mpr q))
    refine lv_iload_n hx hb dX3_checkVariable_4 rfl (lv_at hl 1 rfl) ?_
    refine lv_iconst (v := nI 5) hx hb dX3_checkVariable_5 (by decide) ?_
    refine hw_icmp_lt hx hb (by omega) (by omega) dX3_checkVariable_6 rfl (fun hc => absurd hc (by omega)) (fun hc => ?_)
    exact hx_throw hx hb hst (own := RX3) (cls := hxI) (names := hxN) (ik := 140) (is := 147) (ic := 144) hown (by decide) (by decide) (htg _ hm_221) (htg _ hm_10) (hE.2 (147, "variables are 0 .. 4") (by decide)) (hx_own hx_oI htg hE.1) (hl.1.trans hml.symm) dX3_checkVariable_9 dX3_checkVariable_12 dX3_checkVariable_13 dX3_checkVariable_15 dX3_checkVariable_18 hout (Nat.le_of_ble_eq_true rfl) (Nat.le_of_ble_eq_true rfl) (Nat.le_of_ble_eq_true rfl) (Nat.le_of_ble_eq_true rfl) hlocks

set_option maxHeartbeats 4000000 in
set_option maxRecDepth 100000 in
/-- there is such a number -/
theorem k_X3_checkValue (l : Launch) (D : va_G) (cI cZ cJ : ClassId) (t : Nat) (x0 h hh w k0 : Nat) (ht : t < 10) : Met l yX3_checkValue (Cond.code yX3_checkValue cX3_checkValue 2 none :: hwG) { frames := 0, cells := 0, slots := 0, locals := 0 } (hp_R [.ref x0, .int (nI t)] D cI cZ cJ [(x0, .inr (3, [.ref h, .ref hh, .ref w, .ref k0]))]) (va_Sv (fun _ => True)) 0 0 (fun _ => False) := by
  refine Met.ofW (cc := cX3_checkValue) (maxL := 2) (ret := none) (by decide) rfl ?_
  intro p e s m args below meth c s₁ B hml hv
  obtain ⟨rfl, hP, hz⟩ := hv
  have hx := B.exec
  have hb := B.bytes
  have hr := B.returns
  have hts := atoms_spec (ws := (Cond.code yX3_checkValue cX3_checkValue 2 none :: hwG)) B.pre
  have htg := fun w h => hts w (List.mem_cons_of_mem _ h)
  have hown : s.vm.findClass RX3 = some m.cls := findClass_of_methodNamed B.named
  have hlocks := B.notSynchronized
  have hK := hz.1
  have hl := lv_entry ([.ref x0, .int (nI t)]) (n := 2) (Nat.le_of_ble_eq_true rfl)
  rw [lg_entry_eq]
  generalize (lg_sl ([.ref x0, .int (nI t)]) ++ List.replicate (2 - (lg_sl ([.ref x0, .int (nI t)])).length) Slot.unset).toArray = ls at hl ⊢
  replace hl : lv_has ls 2 [(0, .ref x0), (1, .int (nI t))] := hl
  refine lv_iload_n hx hb dX3_checkValue_0 rfl (lv_at hl 1 rfl) ?_
  refine lv_if_lt hx hb dX3_checkValue_1 rfl (fun hc => absurd hc (nI_pos (by omega))) (fun hc => ?_)
  refine lv_iload_n hx hb dX3_checkValue_4 rfl (lv_at hl 1 rfl) ?_
  refine lv_bipush (v := nI 9) hx hb dX3_checkValue_5 (by decide) ?_
  refine hw_icmp_le hx hb (by omega) (by omega) dX3_checkValue_7 rfl (fun hc => ?_) (fun hc => absurd hc (by omega))
  exact W.vret hx hb hr (fun t9 ht9 hW9 => ⟨rfl, trivial, ht9⟩) (fun _ h => nomatch h) dX3_checkValue_20

set_option maxHeartbeats 4000000 in
set_option maxRecDepth 100000 in
/-- no such number -/
theorem kx_X3_checkValue (l : Launch) (hst : l.stackTraces = false) (D : va_G) (cI cZ cJ : ClassId) (sa : Nat → Nat) (t : Nat) (x0 h hh w k0 : Nat) (ht : t < 2 ^ 32) (ht2 : ¬ t < 10) : hx_Met l yX3_checkValue (Cond.code yX3_checkValue cX3_checkValue 2 none :: hwG) { frames := 6, cells := 1, slots := 6, locals := 82 } (hp_X [.ref x0, .int (nI t)] D cI cZ cJ [(x0, .inr (3, [.ref h, .ref hh, .ref w, .ref k0]))] sa) hxA := by
  refine hx_ofW (cc := cX3_checkValue) (maxL := 2) (ret := none) (by decide) rfl ?_
  intro p e s m args below meth c s₁ B hml hout hv
  obtain ⟨rfl, hP, hz, hE⟩ := hv
  have hx := B.exec
  have hb := B.bytes
  have hts := atoms_spec (ws := (Cond.code yX3_checkValue cX3_checkValue 2 none :: hwG)) B.pre
  have htg := fun w h => hts w (List.mem_cons_of_mem _ h)
  have hown : s.vm.findClass RX3 = some m.cls := findClass_of_methodNamed B.named
  have hlocks := B.notSynchronized
  have hK := hz.1
  have hl := lv_entry ([.ref x0, .int (nI t)]) (n := 2) (Nat.le_of_ble_eq_true rfl)
  rw [lg_entry_eq]
  generalize (lg_sl ([.ref x0, .int (nI t)]) ++ List.replicate (2 - (lg_sl ([.ref x0, .int (nI t)])).length) Slot.unset).toArray = ls at hl ⊢
  replace hl : lv_has ls 2 [(0, .ref x0), (1, .int (nI t))] := hl
  refine lv_iload_n hx hb dX3_checkValue_0 rfl (lv_at hl 1 rfl) ?_
  refine lv_if_lt hx hb dX3_checkValue_1 rfl (fun h1 => ?_) (fun h1 => ?_)
  · exact hx_throw hx hb hst (own := RX3) (cls := hxA) (names := hxN) (ik := 81) (is := 149) (ic := 85) hown (by decide) (by decide) (htg _ hm_361) (htg _ hm_13) (hE.2 (149, "values are 0 .. 9") (by decide)) (hx_own hx_oA htg hE.1) (hl.1.trans hml.symm) dX3_checkValue_10 dX3_checkValue_13 dX3_checkValue_14 dX3_checkValue_16 dX3_checkValue_19 hout (Nat.le_of_ble_eq_true rfl) (Nat.le_of_ble_eq_true rfl) (Nat.le_of_ble_eq_true rfl) (Nat.le_of_ble_eq_true rfl) hlocks
  · have h1 : t < 2 ^ 31 := Nat.lt_of_not_le (fun q => h1 ((hm_neg ht).mpr q))
    refine lv_iload_n hx hb dX3_checkValue_4 rfl (lv_at hl 1 rfl) ?_
    refine lv_bipush (v := nI 9) hx hb dX3_checkValue_5 (by decide) ?_
    refine hw_icmp_le hx hb (by omega) (by omega) dX3_checkValue_7 rfl (fun hc => absurd hc (by omega)) (fun hc => ?_)
    exact hx_throw hx hb hst (own := RX3) (cls := hxA) (names := hxN) (ik := 81) (is := 149) (ic := 85) hown (by decide) (by decide) (htg _ hm_361) (htg _ hm_13) (hE.2 (149, "values are 0 .. 9") (by decide)) (hx_own hx_oA htg hE.1) (hl.1.trans hml.symm) dX3_checkValue_10 dX3_checkValue_13 dX3_checkValue_14 dX3_checkValue_16 dX3_checkValue_19 hout (Nat.le_of_ble_eq_true rfl) (Nat.le_of_ble_eq_true rfl) (Nat.le_of_ble_eq_true rfl) (Nat.le_of_ble_eq_true rfl) hlocks

set_option maxHeartbeats 4000000 in
set_option maxRecDepth 100000 in
/-- there is a cell -/
theorem k_X3_checkCell (l : Launch) (D : va_G) (cI cZ cJ : ClassId) (a : Nat) (EW LW BW : Nat → Int32) (flw : Int32) (HA : Nat → Option Nat) (x0 h hh w k0 : Nat) (w0 w1 w2 w3 : Nat) (hW : hs_hp 9 EW LW BW HA (fun _ => false) (fun a => a)) (ha : a ≤ 9) (hn : HA a ≠ none) : Met l yX3_checkCell (Cond.code yX3_checkCell cX3_checkCell 2 none :: hwG) { frames := 1, cells := 0, slots := 0, locals := 21 } (hp_R [.ref x0, .int (nI a)] D cI cZ cJ [(x0, .inr (3, [.ref h, .ref hh, .ref w, .ref k0])), (w, .inr (2, [.ref w0, .int (nI 9), .ref w1, .ref w2, .ref w3, .int flw])), (w1, .inl (cI, 9 + 1, .inl EW))]) (va_Sv (fun _ => True)) 0 0 (fun _ => False) := by
  refine Met.ofW (cc := cX3_checkCell) (maxL := 2) (ret := none) (by decide) rfl ?_
  intro p e s m args below meth c s₁ B hml hv
  obtain ⟨rfl, hP, hz⟩ := hv
  have hx := B.exec
  have hb := B.bytes
  have hr := B.returns
  have hts := atoms_spec (ws := (Cond.code yX3_checkCell cX3_checkCell 2 none :: hwG)) B.pre
  have htg := fun w h => hts w (List.mem_cons_of_mem _ h)
  have hown : s.vm.findClass RX3 = some m.cls := findClass_of_methodNamed B.named
  have hlocks := B.notSynchronized
  have hK := hz.1
  have hl := lv_entry ([.ref x0, .int (nI a)]) (n := 2) (Nat.le_of_ble_eq_true rfl)
  rw [lg_entry_eq]
  generalize (lg_sl ([.ref x0, .int (nI a)]) ++ List.replicate (2 - (lg_sl ([.ref x0, .int (nI a)])).length) Slot.unset).toArray = ls at hl ⊢
  replace hl : lv_has ls 2 [(0, .ref x0), (1, .int (nI a))] := hl
  refine lv_aload_n hx hb dX3_checkCell_0 rfl (lv_at hl 0 rfl) ?_
  refine va_get (D := D) (ci := 3) (v := .ref w) (C := RX3) (T := TX3) (N := 4) hx hb htg hi_X3 hown hK hP 0 rfl rfl 2 (by decide) (htg _ hm_114) (fun _ h9 => h9) rfl dX3_checkCell_1 ?_
  refine lv_iload_n hx hb dX3_checkCell_4 rfl (lv_at hl 1 rfl) ?_
  refine hw_csi (va_runV (C := RX2) (b := w) (As := [.int (nI a)]) (rest := []) ⟨hx, hb, hml, hown, htg⟩ (k_X2_hasCell l D cI cZ cJ a 9 EW LW BW HA (fun _ => false) (fun a => a) flw w w0 w1 w2 w3 (by omega) (by decide) hW) (cwV 1 htg (hg_V hm_198 hm_158 hm_159 hm_3 hm_160) rfl rfl rfl (by decide +kernel) ⟨Nat.le_of_ble_eq_true rfl, Nat.le_of_ble_eq_true rfl⟩) ⟨hp_R_blind, va_recv (q := (RX2, TX2, 6)) (q0 := 1) (ci := 2) hK hP rfl rfl, hp_R_pre (hP.sub (ws' := [(w, .inr (2, [.ref w0, .int (nI 9), .ref w1, .ref w2, .ref w3, .int flw])), (w1, .inl (cI, 9 + 1, .inl EW))]) [1, 2] rfl) hz⟩ rfl rfl hl.1 rfl (lv_room (Nat.le_of_ble_eq_true rfl)) dX3_checkCell_5 ⟨Nat.zero_le _, Nat.zero_le _⟩) (fun r hq => ?_)
  rcases hq with ⟨rfl, hq⟩ | ⟨rfl, hq⟩
  · refine lv_if_ne hx hb dX3_checkCell_8 rfl (fun hc => ?_) (fun hc => absurd hc (by decide))
    exact W.vret hx hb hr (fun t9 ht9 hW9 => ⟨rfl, trivial, ht9⟩) (fun _ h => nomatch h) dX3_checkCell_21
  · exact absurd hn hq

set_option maxHeartbeats 4000000 in
set_option maxRecDepth 100000 in
/-- there is no cell -/
theorem kx_X3_checkCell (l : Launch) (hst : l.stackTraces = false) (D : va_G) (cI cZ cJ : ClassId) (sa : Nat → Nat) (a : Nat) (EW LW BW : Nat → Int32) (flw : Int32) (HA : Nat → Option Nat) (x0 h hh w k0 : Nat) (w0 w1 w2 w3 : Nat) (hW : hs_hp 9 EW LW BW HA (fun _ => false) (fun a => a)) (ha : a ≤ 9) (hn : HA a = none) : hx_Met l yX3_checkCell (Cond.code yX3_checkCell cX3_checkCell 2 none :: hwG) { frames := 6, cells := 1, slots := 6, locals := 82 } (hp_X [.ref x0, .int (nI a)] D cI cZ cJ [(x0, .inr (3, [.ref h, .ref hh, .ref w, .ref k0])), (w, .inr (2, [.ref w0, .int (nI 9), .ref w1, .ref w2, .ref w3, .int flw])), (w1, .inl (cI, 9 + 1, .inl EW))] sa) hxG := by
  refine hx_ofW (cc := cX3_checkCell) (maxL := 2) (ret := none) (by decide) rfl ?_
  intro p e s m args below meth c s₁ B hml hout hv
  obtain ⟨rfl, hP, hz, hE⟩ := hv
  have hx := B.exec
  have hb := B.bytes
  have hts := atoms_spec (ws := (Cond.code yX3_checkCell cX3_checkCell 2 none :: hwG)) B.pre
  have htg := fun w h => hts w (List.mem_cons_of_mem _ h)
  have hown : s.vm.findClass RX3 = some m.cls := findClass_of_methodNamed B.named
  have hlocks := B.notSynchronized
  have hK := hz.1
  have hl := lv_entry ([.ref x0, .int (nI a)]) (n := 2) (Nat.le_of_ble_eq_true rfl)
  rw [lg_entry_eq]
  generalize (lg_sl ([.ref x0, .int (nI a)]) ++ List.replicate (2 - (lg_sl ([.ref x0, .int (nI a)])).length) Slot.unset).toArray = ls at hl ⊢
  replace hl : lv_has ls 2 [(0, .ref x0), (1, .int (nI a))] := hl
  refine lv_aload_n hx hb dX3_checkCell_0 rfl (lv_at hl 0 rfl) ?_
  refine va_get (D := D) (ci := 3) (v := .ref w) (C := RX3) (T := TX3) (N := 4) hx hb htg hi_X3 hown hK hP 0 rfl rfl 2 (by decide) (htg _ hm_114) (fun _ h9 => h9) rfl dX3_checkCell_1 ?_
  refine lv_iload_n hx hb dX3_checkCell_4 rfl (lv_at hl 1 rfl) ?_
  refine hw_csi (va_runV (C := RX2) (b := w) (As := [.int (nI a)]) (rest := []) ⟨hx, hb, hml, hown, htg⟩ (k_X2_hasCell l D cI cZ cJ a 9 EW LW BW HA (fun _ => false) (fun a => a) flw w w0 w1 w2 w3 (by omega) (by decide) hW) (cwV 1 htg (hg_V hm_198 hm_158 hm_159 hm_3 hm_160) rfl rfl rfl (by decide +kernel) ⟨Nat.le_of_ble_eq_true rfl, Nat.le_of_ble_eq_true rfl⟩) ⟨hp_R_blind, va_recv (q := (RX2, TX2, 6)) (q0 := 1) (ci := 2) hK hP rfl rfl, hp_R_pre (hP.sub (ws' := [(w, .inr (2, [.ref w0, .int (nI 9), .ref w1, .ref w2, .ref w3, .int flw])), (w1, .inl (cI, 9 + 1, .inl EW))]) [1, 2] rfl) hz⟩ rfl rfl hl.1 rfl (lv_room (Nat.le_of_ble_eq_true rfl)) dX3_checkCell_5 ⟨Nat.zero_le _, Nat.zero_le _⟩) (fun r hq => ?_)
  rcases hq with ⟨rfl, hq⟩ | ⟨rfl, hq⟩
  · exact absurd hn hq
  · refine lv_if_ne hx hb dX3_checkCell_8 rfl (fun hc => absurd rfl hc) (fun hc => ?_)
    exact hx_throw hx hb hst (own := RX3) (cls := hxG) (names := hxN) (ik := 50) (is := 151) (ic := 54) hown (by decide) (by decide) (htg _ hm_307) (htg _ hm_11) (hE.2 (151, "there is no such cell") (by decide)) (hx_own hx_oG htg hE.1) (hl.1.trans hml.symm) dX3_checkCell_11 dX3_checkCell_14 dX3_checkCell_15 dX3_checkCell_17 dX3_checkCell_20 hout (Nat.le_of_ble_eq_true rfl) (Nat.le_of_ble_eq_true rfl) (Nat.le_of_ble_eq_true rfl) (Nat.le_of_ble_eq_true rfl) hlocks
