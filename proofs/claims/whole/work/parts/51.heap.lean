set_option maxHeartbeats 4000000 in
set_option maxRecDepth 100000 in
/-- is there a cell at a -/
theorem k_X2_hasCell (l : Launch) (D : va_G) (cI cZ cJ : ClassId) (a : Nat) (G : Nat) (EN LG BI : Nat → Int32) (nx : Nat → Option Nat) (lg : Nat → Bool) (bi : Nat → Nat) (fl : Int32) (g q0 q1 q2 q3 : Nat) (ha : a < 2 ^ 31) (hG : G < 2 ^ 30) (hH : hs_hp G EN LG BI nx lg bi) : Met l yX2_hasCell (Cond.code yX2_hasCell cX2_hasCell 2 (some .boolean) :: hwG) { frames := 0, cells := 0, slots := 0, locals := 0 } (hp_R [.ref g, .int (nI a)] D cI cZ cJ [(g, .inr (2, [.ref q0, .int (nI G), .ref q1, .ref q2, .ref q3, .int fl])), (q1, .inl (cI, G + 1, .inl EN))]) (vp_Si (fun r => hc_r r (nx a ≠ none))) 0 0 (fun _ => False) := by
  refine Met.ofW (cc := cX2_hasCell) (maxL := 2) (ret := (some .boolean)) (by decide) rfl ?_
  intro p e s m args below meth c s₁ B hml hv
  obtain ⟨rfl, hP, hz⟩ := hv
  have hx := B.exec
  have hb := B.bytes
  have hr := B.returns
  have hts := atoms_spec (ws := (Cond.code yX2_hasCell cX2_hasCell 2 (some .boolean) :: hwG)) B.pre
  have htg := fun w h => hts w (List.mem_cons_of_mem _ h)
  have hown : s.vm.findClass RX2 = some m.cls := findClass_of_methodNamed B.named
  have hlocks := B.notSynchronized
  have hK := hz.1
  have hl := lv_entry ([.ref g, .int (nI a)]) (n := 2) (Nat.le_of_ble_eq_true rfl)
  rw [lg_entry_eq]
  generalize (lg_sl ([.ref g, .int (nI a)]) ++ List.replicate (2 - (lg_sl ([.ref g, .int (nI a)])).length) Slot.unset).toArray = ls at hl ⊢
  replace hl : lv_has ls 2 [(0, .ref g), (1, .int (nI a))] := hl
  refine lv_iload_n hx hb dX2_hasCell_0 rfl (lv_at hl 1 rfl) ?_
  refine lv_iconst (v := nI 1) hx hb dX2_hasCell_1 (by decide) ?_
  refine hw_icmp_lt hx hb (by omega) (by omega) dX2_hasCell_2 rfl (fun hc => ?_) (fun hc => ?_)
  · refine lv_iconst (v := nI 0) hx hb dX2_hasCell_27 (by decide) ?_
    exact W.zret (v := nI 0) hx hb hr (by decide +kernel) (fun t9 ht9 hW9 => ⟨_, rfl, Or.inr ⟨rfl, fun h9 => absurd (hH.1 a h9).1 (by omega)⟩, ht9⟩) (fun _ h => nomatch h) dX2_hasCell_28
  · refine lv_iload_n hx hb dX2_hasCell_5 rfl (lv_at hl 1 rfl) ?_
    refine lv_aload_n hx hb dX2_hasCell_6 rfl (lv_at hl 0 rfl) ?_
    refine va_get (D := D) (ci := 2) (v := .int (nI G)) (C := RX2) (T := TX2) (N := 6) hx hb htg hi_X2 hown hK hP 0 rfl rfl 1 (by decide) (htg _ hm_76) (fun _ h9 => h9) rfl dX2_hasCell_7 ?_
    refine hw_icmp_gt hx hb (by omega) (by omega) dX2_hasCell_10 rfl (fun hc2 => ?_) (fun hc2 => ?_)
    · refine lv_iconst (v := nI 0) hx hb dX2_hasCell_27 (by decide) ?_
      exact W.zret (v := nI 0) hx hb hr (by decide +kernel) (fun t9 ht9 hW9 => ⟨_, rfl, Or.inr ⟨rfl, fun h9 => absurd (hH.1 a h9).2 (by omega)⟩, ht9⟩) (fun _ h => nomatch h) dX2_hasCell_28
    · refine lv_aload_n hx hb dX2_hasCell_13 rfl (lv_at hl 0 rfl) ?_
      refine va_get (D := D) (ci := 2) (v := .ref q1) (C := RX2) (T := TX2) (N := 6) hx hb htg hi_X2 hown hK hP 0 rfl rfl 2 (by decide) (htg _ hm_77) (fun _ h9 => h9) rfl dX2_hasCell_14 ?_
      refine lv_iload_n hx hb dX2_hasCell_17 rfl (lv_at hl 1 rfl) ?_
      refine hw_iald hx hb hK hP 1 0 rfl rfl (j := a) (by omega) (by first | decide | omega) (v := EN a) (rfl) dX2_hasCell_18 ?_
      refine lv_iconst (v := (-1)) hx hb dX2_hasCell_19 (by decide) ?_
      refine lv_icmp_eq hx hb dX2_hasCell_20 rfl (fun hc3 => ?_) (fun hc3 => ?_)
      · refine lv_iconst (v := nI 0) hx hb dX2_hasCell_27 (by decide) ?_
        exact W.zret (v := nI 0) hx hb hr (by decide +kernel) (fun t9 ht9 hW9 => ⟨_, rfl, Or.inr ⟨rfl, fun h9 => by cases hn : nx a with | none => exact h9 hn | some z => (have h8 := (hH.2 a hc hc2).2 z hn; exact hs_nm1 z (by omega) (h8.2.1.symm.trans hc3))⟩, ht9⟩) (fun _ h => nomatch h) dX2_hasCell_28
      · refine lv_iconst (v := nI 1) hx hb dX2_hasCell_23 (by decide) ?_
        refine lv_goto hx hb dX2_hasCell_24 rfl ?_
        exact W.zret (v := nI 1) hx hb hr (by decide +kernel) (fun t9 ht9 hW9 => ⟨_, rfl, Or.inl ⟨rfl, fun h9 => hc3 ((hH.2 a hc hc2).1 h9)⟩, ht9⟩) (fun _ h => nomatch h) dX2_hasCell_28

set_option maxHeartbeats 4000000 in
set_option maxRecDepth 100000 in
/-- no address below 0 -/
theorem k_X2_hasCell_neg (l : Launch) (D : va_G) (cI cZ cJ : ClassId) (x : Int32) (G : Nat) (EN LG BI : Nat → Int32) (nx : Nat → Option Nat) (lg : Nat → Bool) (bi : Nat → Nat) (fl : Int32) (g q0 q1 q2 q3 : Nat) (hn : x < 0) : Met l yX2_hasCell (Cond.code yX2_hasCell cX2_hasCell 2 (some .boolean) :: hwG) { frames := 0, cells := 0, slots := 0, locals := 0 } (hp_R [.ref g, .int x] D cI cZ cJ [(g, .inr (2, [.ref q0, .int (nI G), .ref q1, .ref q2, .ref q3, .int fl])), (q1, .inl (cI, G + 1, .inl EN))]) (vp_Si (fun r => r = nI 0)) 0 0 (fun _ => False) := by
  refine Met.ofW (cc := cX2_hasCell) (maxL := 2) (ret := (some .boolean)) (by decide) rfl ?_
  intro p e s m args below meth c s₁ B hml hv
  obtain ⟨rfl, hP, hz⟩ := hv
  have hx := B.exec
  have hb := B.bytes
  have hr := B.returns
  have hts := atoms_spec (ws := (Cond.code yX2_hasCell cX2_hasCell 2 (some .boolean) :: hwG)) B.pre
  have htg := fun w h => hts w (List.mem_cons_of_mem _ h)
  have hown : s.vm.findClass RX2 = some m.cls := findClass_of_methodNamed B.named
  have hlocks := B.notSynchronized
  have hK := hz.1
  have hl := lv_entry ([.ref g, .int x]) (n := 2) (Nat.le_of_ble_eq_true rfl)
  rw [lg_entry_eq]
  generalize (lg_sl ([.ref g, .int x]) ++ List.replicate (2 - (lg_sl ([.ref g, .int x])).length) Slot.unset).toArray = ls at hl ⊢
  replace hl : lv_has ls 2 [(0, .ref g), (1, .int x)] := hl
  refine lv_iload_n hx hb dX2_hasCell_0 rfl (lv_at hl 1 rfl) ?_
  refine lv_iconst (v := nI 1) hx hb dX2_hasCell_1 (by decide) ?_
  refine lv_icmp_lt hx hb dX2_hasCell_2 rfl (fun hc => ?_) (fun hc => absurd (Int32.lt_trans hn (by decide)) hc)
  refine lv_iconst (v := nI 0) hx hb dX2_hasCell_27 (by decide) ?_
  exact W.zret (v := nI 0) hx hb hr (by decide +kernel) (fun t9 ht9 hW9 => ⟨_, rfl, rfl, ht9⟩) (fun _ h => nomatch h) dX2_hasCell_28

set_option maxHeartbeats 4000000 in
set_option maxRecDepth 100000 in
/-- a stretch -/
theorem k_X2_setStretch (l : Launch) (D : va_G) (cI cZ cJ : ClassId) (sz : Nat) (a : Nat) (x bit : Int32) (o : Bool) (G : Nat) (EN LG BI : Nat → Int32) (fl : Int32) (g q0 q1 q2 q3 : Nat) (hG : G < 2 ^ 30) (ha : a ≤ G) : Met l yX2_setStretch (Cond.code yX2_setStretch cX2_setStretch 5 none :: hwG) { frames := 0, cells := 0, slots := 0, locals := 0 } (hp_M [.ref g, .int (nI a), .int x, .int (hc_b o), .int bit] D cI cZ cJ [(g, .inr (2, [.ref q0, .int (nI G), .ref q1, .ref q2, .ref q3, .int fl])), (q1, .inl (cI, G + 1, .inl EN)), (q2, .inl (cZ, G + 1, .inl LG)), (q3, .inl (cI, G + 1, .inl BI))] sz) (va_Qv (S := (Nat → Int32) × (Nat → Int32) × (Nat → Int32) × Int32) (fun u => u.1 = upd EN a x ∧ u.2.1 = upd LG a (hc_b o) ∧ u.2.2.1 = upd BI a bit ∧ u.2.2.2 = fl ||| bit) (fun u t => va_P D vwCl ([(g, .inr (2, [.ref q0, .int (nI G), .ref q1, .ref q2, .ref q3, .int u.2.2.2])), (q1, .inl (cI, G + 1, .inl u.1)), (q2, .inl (cZ, G + 1, .inl u.2.1)), (q3, .inl (cI, G + 1, .inl u.2.2.1))]) t.heap) (va_A [(g, .inr (2, [.ref q0, .int (nI G), .ref q1, .ref q2, .ref q3, .int fl])), (q1, .inl (cI, G + 1, .inl EN)), (q2, .inl (cZ, G + 1, .inl LG)), (q3, .inl (cI, G + 1, .inl BI))] sz)) 0 0 (va_A [(g, .inr (2, [.ref q0, .int (nI G), .ref q1, .ref q2, .ref q3, .int fl])), (q1, .inl (cI, G + 1, .inl EN)), (q2, .inl (cZ, G + 1, .inl LG)), (q3, .inl (cI, G + 1, .inl BI))] sz) := by
  refine Met.ofW (cc := cX2_setStretch) (maxL := 5) (ret := none) (by decide) rfl ?_
  intro p e s m args below meth c s₁ B hml hv
  obtain ⟨rfl, hsz, hP, hz, hD0⟩ := hv
  have hx := B.exec
  have hb := B.bytes
  have hr := B.returns
  have hts := atoms_spec (ws := (Cond.code yX2_setStretch cX2_setStretch 5 none :: hwG)) B.pre
  have htg := fun w h => hts w (List.mem_cons_of_mem _ h)
  have hown : s.vm.findClass RX2 = some m.cls := findClass_of_methodNamed B.named
  have hlocks := B.notSynchronized
  have hK := hz.1
  subst hsz
  have hD := hD0.self (sz := s.heap.size)
  generalize hAe : va_A [(g, .inr (2, [.ref q0, .int (nI G), .ref q1, .ref q2, .ref q3, .int fl])), (q1, .inl (cI, G + 1, .inl EN)), (q2, .inl (cZ, G + 1, .inl LG)), (q3, .inl (cI, G + 1, .inl BI))] s.heap.size = A at hD ⊢
  have hA : ∀ q : Nat, s.heap.size ≤ q → A q := fun q h => by rw [← hAe]; exact Or.inr h
  have hS : va_S A s.heap s.heap [] := va_S.rf
  have hl := lv_entry ([.ref g, .int (nI a), .int x, .int (hc_b o), .int bit]) (n := 5) (Nat.le_of_ble_eq_true rfl)
  rw [lg_entry_eq]
  generalize (lg_sl ([.ref g, .int (nI a), .int x, .int (hc_b o), .int bit]) ++ List.replicate (5 - (lg_sl ([.ref g, .int (nI a), .int x, .int (hc_b o), .int bit])).length) Slot.unset).toArray = ls at hl ⊢
  replace hl : lv_has ls 5 [(0, .ref g), (1, .int (nI a)), (2, .int x), (3, .int (hc_b o)), (4, .int bit)] := hl
  replace hP : va_P D vwCl [(g, .inr (2, [.ref q0, .int (nI G), .ref q1, .ref q2, .ref q3, .int fl])), (q1, .inl (cI, G + 1, .inl EN)), (q2, .inl (cZ, G + 1, .inl LG)), (q3, .inl (cI, G + 1, .inl BI))] s.heap := hP
  refine lv_aload_n hx hb dX2_setStretch_0 rfl (lv_at hl 0 rfl) ?_
  refine va_get (D := D) (ci := 2) (v := .ref q1) (C := RX2) (T := TX2) (N := 6) hx hb htg hi_X2 hown hK hP 0 rfl rfl 2 (by decide) (htg _ hm_77) (fun _ h9 => h9) rfl dX2_setStretch_1 ?_
  refine lv_iload_n hx hb dX2_setStretch_4 rfl (lv_at hl 1 rfl) ?_
  refine lv_iload_n hx hb dX2_setStretch_5 rfl (lv_at hl 2 rfl) ?_
  refine hw_iast hx hb hK hP hD hS 1 0 rfl rfl (j := a) (by omega) (by first | decide | omega) dX2_setStretch_6 (fun H locs hP hD hS => ?_)
  replace hP : va_P D vwCl [(g, .inr (2, [.ref q0, .int (nI G), .ref q1, .ref q2, .ref q3, .int fl])), (q1, .inl (cI, G + 1, .inl (upd EN a x))), (q2, .inl (cZ, G + 1, .inl LG)), (q3, .inl (cI, G + 1, .inl BI))] H := hP
  replace hD : va_D A [(g, .inr (2, [.ref q0, .int (nI G), .ref q1, .ref q2, .ref q3, .int fl])), (q1, .inl (cI, G + 1, .inl (upd EN a x))), (q2, .inl (cZ, G + 1, .inl LG)), (q3, .inl (cI, G + 1, .inl BI))] := hD
  refine lv_aload_n hx hb dX2_setStretch_7 rfl (lv_at hl 0 rfl) ?_
  refine va_get (D := D) (ci := 2) (v := .ref q2) (C := RX2) (T := TX2) (N := 6) hx hb htg hi_X2 hown hK hP 0 rfl rfl 3 (by decide) (htg _ hm_79) (fun _ h9 => h9) rfl dX2_setStretch_8 ?_
  refine lv_iload_n hx hb dX2_setStretch_11 rfl (lv_at hl 1 rfl) ?_
  refine lv_iload_n hx hb dX2_setStretch_12 rfl (lv_at hl 3 rfl) ?_
  refine hw_zast hx hb hK hP hD hS 2 1 rfl rfl (j := a) (by omega) (by first | decide | omega) dX2_setStretch_13 (fun H locs hP hD hS => ?_)
  replace hP : va_P D vwCl [(g, .inr (2, [.ref q0, .int (nI G), .ref q1, .ref q2, .ref q3, .int fl])), (q1, .inl (cI, G + 1, .inl (upd EN a x))), (q2, .inl (cZ, G + 1, .inl (upd LG a (vp_nar .boolean (hc_b o))))), (q3, .inl (cI, G + 1, .inl BI))] H := hP
  replace hD : va_D A [(g, .inr (2, [.ref q0, .int (nI G), .ref q1, .ref q2, .ref q3, .int fl])), (q1, .inl (cI, G + 1, .inl (upd EN a x))), (q2, .inl (cZ, G + 1, .inl (upd LG a (vp_nar .boolean (hc_b o))))), (q3, .inl (cI, G + 1, .inl BI))] := hD
  refine lv_aload_n hx hb dX2_setStretch_14 rfl (lv_at hl 0 rfl) ?_
  refine va_get (D := D) (ci := 2) (v := .ref q3) (C := RX2) (T := TX2) (N := 6) hx hb htg hi_X2 hown hK hP 0 rfl rfl 4 (by decide) (htg _ hm_80) (fun _ h9 => h9) rfl dX2_setStretch_15 ?_
  refine lv_iload_n hx hb dX2_setStretch_18 rfl (lv_at hl 1 rfl) ?_
  refine lv_iload hx hb dX2_setStretch_19 (lv_at hl 4 rfl) ?_
  refine hw_iast hx hb hK hP hD hS 3 0 rfl rfl (j := a) (by omega) (by first | decide | omega) dX2_setStretch_21 (fun H locs hP hD hS => ?_)
  replace hP : va_P D vwCl [(g, .inr (2, [.ref q0, .int (nI G), .ref q1, .ref q2, .ref q3, .int fl])), (q1, .inl (cI, G + 1, .inl (upd EN a x))), (q2, .inl (cZ, G + 1, .inl (upd LG a (vp_nar .boolean (hc_b o))))), (q3, .inl (cI, G + 1, .inl (upd BI a bit)))] H := hP
  replace hD : va_D A [(g, .inr (2, [.ref q0, .int (nI G), .ref q1, .ref q2, .ref q3, .int fl])), (q1, .inl (cI, G + 1, .inl (upd EN a x))), (q2, .inl (cZ, G + 1, .inl (upd LG a (vp_nar .boolean (hc_b o))))), (q3, .inl (cI, G + 1, .inl (upd BI a bit)))] := hD
  refine lv_aload_n hx hb dX2_setStretch_22 rfl (lv_at hl 0 rfl) ?_
  refine lv_dup hx hb dX2_setStretch_23 rfl ?_
  refine va_get (D := D) (ci := 2) (v := .int fl) (C := RX2) (T := TX2) (N := 6) hx hb htg hi_X2 hown hK hP 0 rfl rfl 5 (by decide) (htg _ hm_81) (fun _ h9 => h9) rfl dX2_setStretch_24 ?_
  refine lv_iload hx hb dX2_setStretch_27 (lv_at hl 4 rfl) ?_
  refine lv_ior hx hb dX2_setStretch_29 ?_
  refine va_put (D := D) (ci := 2) (v := .int (fl ||| bit)) (ty := .int) (C := RX2) (T := TX2) (N := 6) hx hb htg hi_X2 tyX2 tyX2_ok nmX2 hown hK hP hD hS 0 rfl rfl 5 (by decide) (htg _ hm_81) (fun _ h9 => h9) rfl (by decide +kernel) rfl rfl (Nat.le_of_ble_eq_true rfl) dX2_setStretch_30 (fun H locs hP hD hS => ?_)
  replace hP : va_P D vwCl [(g, .inr (2, [.ref q0, .int (nI G), .ref q1, .ref q2, .ref q3, .int (fl ||| bit)])), (q1, .inl (cI, G + 1, .inl (upd EN a x))), (q2, .inl (cZ, G + 1, .inl (upd LG a (vp_nar .boolean (hc_b o))))), (q3, .inl (cI, G + 1, .inl (upd BI a bit)))] H := hP
  replace hD : va_D A [(g, .inr (2, [.ref q0, .int (nI G), .ref q1, .ref q2, .ref q3, .int (fl ||| bit)])), (q1, .inl (cI, G + 1, .inl (upd EN a x))), (q2, .inl (cZ, G + 1, .inl (upd LG a (vp_nar .boolean (hc_b o))))), (q3, .inl (cI, G + 1, .inl (upd BI a bit)))] := hD
  exact W.vret hx hb hr (fun t9 ht9 hW9 => ⟨⟨(upd EN a x, upd LG a (vp_nar .boolean (hc_b o)), upd BI a bit, fl ||| bit), rfl, ⟨rfl, by rw [hw_narb], rfl, rfl⟩, by show va_P D vwCl [(g, .inr (2, [.ref q0, .int (nI G), .ref q1, .ref q2, .ref q3, .int (fl ||| bit)])), (q1, .inl (cI, G + 1, .inl (upd EN a x))), (q2, .inl (cZ, G + 1, .inl (upd LG a (vp_nar .boolean (hc_b o))))), (q3, .inl (cI, G + 1, .inl (upd BI a bit)))] t9.heap; rw [ht9]; exact hP⟩, hS.F ht9⟩) hS.2.2 dX2_setStretch_33

set_option maxHeartbeats 4000000 in
set_option maxRecDepth 100000 in
/-- a cell -/
theorem k_X2_setCell (l : Launch) (D : va_G) (cI cZ cJ : ClassId) (sz : Nat) (a : Nat) (x : Int32) (G : Nat) (EN LG BI : Nat → Int32) (fl : Int32) (g q0 q1 q2 q3 : Nat) (hG : G < 2 ^ 30) (ha : a ≤ G) : Met l yX2_setCell (Cond.code yX2_setCell cX2_setCell 3 none :: hwG) { frames := 1, cells := 0, slots := 0, locals := 24 } (hp_M [.ref g, .int (nI a), .int x] D cI cZ cJ [(g, .inr (2, [.ref q0, .int (nI G), .ref q1, .ref q2, .ref q3, .int fl])), (q1, .inl (cI, G + 1, .inl EN)), (q2, .inl (cZ, G + 1, .inl LG)), (q3, .inl (cI, G + 1, .inl BI))] sz) (va_Qv (S := (Nat → Int32) × (Nat → Int32) × (Nat → Int32) × Int32) (fun u => u.1 = upd EN a x ∧ u.2.1 = upd LG a (hc_b false) ∧ u.2.2.1 = upd BI a (nI 1 <<< (nI a &&& 31)) ∧ u.2.2.2 = fl ||| (nI 1 <<< (nI a &&& 31))) (fun u t => va_P D vwCl ([(g, .inr (2, [.ref q0, .int (nI G), .ref q1, .ref q2, .ref q3, .int u.2.2.2])), (q1, .inl (cI, G + 1, .inl u.1)), (q2, .inl (cZ, G + 1, .inl u.2.1)), (q3, .inl (cI, G + 1, .inl u.2.2.1))]) t.heap) (va_A [(g, .inr (2, [.ref q0, .int (nI G), .ref q1, .ref q2, .ref q3, .int fl])), (q1, .inl (cI, G + 1, .inl EN)), (q2, .inl (cZ, G + 1, .inl LG)), (q3, .inl (cI, G + 1, .inl BI))] sz)) 0 0 (va_A [(g, .inr (2, [.ref q0, .int (nI G), .ref q1, .ref q2, .ref q3, .int fl])), (q1, .inl (cI, G + 1, .inl EN)), (q2, .inl (cZ, G + 1, .inl LG)), (q3, .inl (cI, G + 1, .inl BI))] sz) := by
  refine Met.ofW (cc := cX2_setCell) (maxL := 3) (ret := none) (by decide) rfl ?_
  intro p e s m args below meth c s₁ B hml hv
  obtain ⟨rfl, hsz, hP, hz, hD0⟩ := hv
  have hx := B.exec
  have hb := B.bytes
  have hr := B.returns
  have hts := atoms_spec (ws := (Cond.code yX2_setCell cX2_setCell 3 none :: hwG)) B.pre
  have htg := fun w h => hts w (List.mem_cons_of_mem _ h)
  have hown : s.vm.findClass RX2 = some m.cls := findClass_of_methodNamed B.named
  have hlocks := B.notSynchronized
  have hK := hz.1
  subst hsz
  have hD := hD0.self (sz := s.heap.size)
  generalize hAe : va_A [(g, .inr (2, [.ref q0, .int (nI G), .ref q1, .ref q2, .ref q3, .int fl])), (q1, .inl (cI, G + 1, .inl EN)), (q2, .inl (cZ, G + 1, .inl LG)), (q3, .inl (cI, G + 1, .inl BI))] s.heap.size = A at hD ⊢
  have hA : ∀ q : Nat, s.heap.size ≤ q → A q := fun q h => by rw [← hAe]; exact Or.inr h
  have hS : va_S A s.heap s.heap [] := va_S.rf
  have hl := lv_entry ([.ref g, .int (nI a), .int x]) (n := 3) (Nat.le_of_ble_eq_true rfl)
  rw [lg_entry_eq]
  generalize (lg_sl ([.ref g, .int (nI a), .int x]) ++ List.replicate (3 - (lg_sl ([.ref g, .int (nI a), .int x])).length) Slot.unset).toArray = ls at hl ⊢
  replace hl : lv_has ls 3 [(0, .ref g), (1, .int (nI a)), (2, .int x)] := hl
  replace hP : va_P D vwCl [(g, .inr (2, [.ref q0, .int (nI G), .ref q1, .ref q2, .ref q3, .int fl])), (q1, .inl (cI, G + 1, .inl EN)), (q2, .inl (cZ, G + 1, .inl LG)), (q3, .inl (cI, G + 1, .inl BI))] s.heap := hP
  refine lv_aload_n hx hb dX2_setCell_0 rfl (lv_at hl 0 rfl) ?_
  refine lv_iload_n hx hb dX2_setCell_1 rfl (lv_at hl 1 rfl) ?_
  refine lv_iload_n hx hb dX2_setCell_2 rfl (lv_at hl 2 rfl) ?_
  refine lv_iconst (v := nI 0) hx hb dX2_setCell_3 (by decide) ?_
  refine lv_iconst (v := nI 1) hx hb dX2_setCell_4 (by decide) ?_
  refine lv_iload_n hx hb dX2_setCell_5 rfl (lv_at hl 1 rfl) ?_
  refine lv_ishl hx hb dX2_setCell_6 ?_
  refine hv_callv (w1 := fun u : (Nat → Int32) × (Nat → Int32) × (Nat → Int32) × Int32 => [(g, .inr (2, [.ref q0, .int (nI G), .ref q1, .ref q2, .ref q3, .int u.2.2.2])), (q1, .inl (cI, G + 1, .inl u.1)), (q2, .inl (cZ, G + 1, .inl u.2.1)), (q3, .inl (cI, G + 1, .inl u.2.2.1))]) (va_runV (C := RX2) (b := g) (As := [.int (nI a), .int x, .int (nI 0), .int ((nI 1) <<< ((nI a) &&& 31))]) (rest := []) ⟨hx, hb, hml, hown, htg⟩ (k_X2_setStretch l D cI cZ cJ _ a x (nI 1 <<< (nI a &&& 31)) false G EN LG BI fl g q0 q1 q2 q3 hG ha) (cwV 4 htg (hg_V hm_410 hm_162 hm_163 hm_3 hm_164) rfl rfl rfl (by decide +kernel) ⟨Nat.le_of_ble_eq_true rfl, Nat.le_of_ble_eq_true rfl⟩) ⟨hp_M_blind, va_recv (q := (RX2, TX2, 6)) (q0 := 0) (ci := 2) hK hP rfl rfl, hp_M_pre (hP.sub (ws' := [(g, .inr (2, [.ref q0, .int (nI G), .ref q1, .ref q2, .ref q3, .int fl])), (q1, .inl (cI, G + 1, .inl EN)), (q2, .inl (cZ, G + 1, .inl LG)), (q3, .inl (cI, G + 1, .inl BI))]) [0, 1, 2, 3] rfl) (hD.sub (ws' := [(g, .inr (2, [.ref q0, .int (nI G), .ref q1, .ref q2, .ref q3, .int fl])), (q1, .inl (cI, G + 1, .inl EN)), (q2, .inl (cZ, G + 1, .inl LG)), (q3, .inl (cI, G + 1, .inl BI))]) [0, 1, 2, 3] (by decide) rfl) hz⟩ rfl rfl hl.1 rfl (lv_room (Nat.le_of_ble_eq_true rfl)) dX2_setCell_7 ⟨Nat.zero_le _, Nat.zero_le _⟩) hP hD hS hA [0, 1, 2, 3] rfl (fun _ => rfl) (fun u H locs hu hP hD hS => ?_)
  replace hP : va_P D vwCl [(g, .inr (2, [.ref q0, .int (nI G), .ref q1, .ref q2, .ref q3, .int u.2.2.2])), (q1, .inl (cI, G + 1, .inl u.1)), (q2, .inl (cZ, G + 1, .inl u.2.1)), (q3, .inl (cI, G + 1, .inl u.2.2.1))] H := hP
  replace hD : va_D A [(g, .inr (2, [.ref q0, .int (nI G), .ref q1, .ref q2, .ref q3, .int u.2.2.2])), (q1, .inl (cI, G + 1, .inl u.1)), (q2, .inl (cZ, G + 1, .inl u.2.1)), (q3, .inl (cI, G + 1, .inl u.2.2.1))] := hD
  exact W.vret hx hb hr (fun t9 ht9 hW9 => ⟨⟨u, rfl, hu, by show va_P D vwCl [(g, .inr (2, [.ref q0, .int (nI G), .ref q1, .ref q2, .ref q3, .int u.2.2.2])), (q1, .inl (cI, G + 1, .inl u.1)), (q2, .inl (cZ, G + 1, .inl u.2.1)), (q3, .inl (cI, G + 1, .inl u.2.2.1))] t9.heap; rw [ht9]; exact hP⟩, hS.F ht9⟩) hS.2.2 dX2_setCell_10

set_option maxHeartbeats 4000000 in
set_option maxRecDepth 100000 in
/-- the cell at a goes -/
theorem k_X2_removeCell (l : Launch) (D : va_G) (cI cZ cJ : ClassId) (sz : Nat) (a : Nat) (G : Nat) (EN BI : Nat → Int32) (fl : Int32) (g q0 q1 q2 q3 : Nat) (hG : G < 2 ^ 30) (ha : a ≤ G) : Met l yX2_removeCell (Cond.code yX2_removeCell cX2_removeCell 2 none :: hwG) { frames := 0, cells := 0, slots := 0, locals := 0 } (hp_M [.ref g, .int (nI a)] D cI cZ cJ [(g, .inr (2, [.ref q0, .int (nI G), .ref q1, .ref q2, .ref q3, .int fl])), (q1, .inl (cI, G + 1, .inl EN)), (q3, .inl (cI, G + 1, .inl BI))] sz) (va_Qv (S := (Nat → Int32) × Int32) (fun u => u.1 = upd EN a (-1) ∧ u.2 = fl &&& (BI a ^^^ (-1))) (fun u t => va_P D vwCl ([(g, .inr (2, [.ref q0, .int (nI G), .ref q1, .ref q2, .ref q3, .int u.2])), (q1, .inl (cI, G + 1, .inl u.1)), (q3, .inl (cI, G + 1, .inl BI))]) t.heap) (va_A [(g, .inr (2, [.ref q0, .int (nI G), .ref q1, .ref q2, .ref q3, .int fl])), (q1, .inl (cI, G + 1, .inl EN)), (q3, .inl (cI, G + 1, .inl BI))] sz)) 0 0 (va_A [(g, .inr (2, [.ref q0, .int (nI G), .ref q1, .ref q2, .ref q3, .int fl])), (q1, .inl (cI, G + 1, .inl EN)), (q3, .inl (cI, G + 1, .inl BI))] sz) := by
  refine Met.ofW (cc := cX2_removeCell) (maxL := 2) (ret := none) (by decide) rfl ?_
  intro p e s m args below meth c s₁ B hml hv
  obtain ⟨rfl, hsz, hP, hz, hD0⟩ := hv
  have hx := B.exec
  have hb := B.bytes
  have hr := B.returns
  have hts := atoms_spec (ws := (Cond.code yX2_removeCell cX2_removeCell 2 none :: hwG)) B.pre
  have htg := fun w h => hts w (List.mem_cons_of_mem _ h)
  have hown : s.vm.findClass RX2 = some m.cls := findClass_of_methodNamed B.named
  have hlocks := B.notSynchronized
  have hK := hz.1
  subst hsz
  have hD := hD0.self (sz := s.heap.size)
  generalize hAe : va_A [(g, .inr (2, [.ref q0, .int (nI G), .ref q1, .ref q2, .ref q3, .int fl])), (q1, .inl (cI, G + 1, .inl EN)), (q3, .inl (cI, G + 1, .inl BI))] s.heap.size = A at hD ⊢
  have hA : ∀ q : Nat, s.heap.size ≤ q → A q := fun q h => by rw [← hAe]; exact Or.inr h
  have hS : va_S A s.heap s.heap [] := va_S.rf
  have hl := lv_entry ([.ref g, .int (nI a)]) (n := 2) (Nat.le_of_ble_eq_true rfl)
  rw [lg_entry_eq]
  generalize (lg_sl ([.ref g, .int (nI a)]) ++ List.replicate (2 - (lg_sl ([.ref g, .int (nI a)])).length) Slot.unset).toArray = ls at hl ⊢
  replace hl : lv_has ls 2 [(0, .ref g), (1, .int (nI a))] := hl
  replace hP : va_P D vwCl [(g, .inr (2, [.ref q0, .int (nI G), .ref q1, .ref q2, .ref q3, .int fl])), (q1, .inl (cI, G + 1, .inl EN)), (q3, .inl (cI, G + 1, .inl BI))] s.heap := hP
  refine lv_aload_n hx hb dX2_removeCell_0 rfl (lv_at hl 0 rfl) ?_
  refine va_get (D := D) (ci := 2) (v := .ref q1) (C := RX2) (T := TX2) (N := 6) hx hb htg hi_X2 hown hK hP 0 rfl rfl 2 (by decide) (htg _ hm_77) (fun _ h9 => h9) rfl dX2_removeCell_1 ?_
  refine lv_iload_n hx hb dX2_removeCell_4 rfl (lv_at hl 1 rfl) ?_
  refine lv_iconst (v := (-1)) hx hb dX2_removeCell_5 (by decide) ?_
  refine hw_iast hx hb hK hP hD hS 1 0 rfl rfl (j := a) (by omega) (by first | decide | omega) dX2_removeCell_6 (fun H locs hP hD hS => ?_)
  replace hP : va_P D vwCl [(g, .inr (2, [.ref q0, .int (nI G), .ref q1, .ref q2, .ref q3, .int fl])), (q1, .inl (cI, G + 1, .inl (upd EN a (-1)))), (q3, .inl (cI, G + 1, .inl BI))] H := hP
  replace hD : va_D A [(g, .inr (2, [.ref q0, .int (nI G), .ref q1, .ref q2, .ref q3, .int fl])), (q1, .inl (cI, G + 1, .inl (upd EN a (-1)))), (q3, .inl (cI, G + 1, .inl BI))] := hD
  refine lv_aload_n hx hb dX2_removeCell_7 rfl (lv_at hl 0 rfl) ?_
  refine lv_dup hx hb dX2_removeCell_8 rfl ?_
  refine va_get (D := D) (ci := 2) (v := .int fl) (C := RX2) (T := TX2) (N := 6) hx hb htg hi_X2 hown hK hP 0 rfl rfl 5 (by decide) (htg _ hm_81) (fun _ h9 => h9) rfl dX2_removeCell_9 ?_
  refine lv_aload_n hx hb dX2_removeCell_12 rfl (lv_at hl 0 rfl) ?_
  refine va_get (D := D) (ci := 2) (v := .ref q3) (C := RX2) (T := TX2) (N := 6) hx hb htg hi_X2 hown hK hP 0 rfl rfl 4 (by decide) (htg _ hm_80) (fun _ h9 => h9) rfl dX2_removeCell_13 ?_
  refine lv_iload_n hx hb dX2_removeCell_16 rfl (lv_at hl 1 rfl) ?_
  refine hw_iald hx hb hK hP 2 0 rfl rfl (j := a) (by omega) (by first | decide | omega) (v := BI a) (rfl) dX2_removeCell_17 ?_
  refine lv_iconst (v := (-1)) hx hb dX2_removeCell_18 (by decide) ?_
  refine lv_ixor hx hb dX2_removeCell_19 ?_
  refine lv_iand hx hb dX2_removeCell_20 ?_
  refine va_put (D := D) (ci := 2) (v := .int (fl &&& ((BI a) ^^^ (-1)))) (ty := .int) (C := RX2) (T := TX2) (N := 6) hx hb htg hi_X2 tyX2 tyX2_ok nmX2 hown hK hP hD hS 0 rfl rfl 5 (by decide) (htg _ hm_81) (fun _ h9 => h9) rfl (by decide +kernel) rfl rfl (Nat.le_of_ble_eq_true rfl) dX2_removeCell_21 (fun H locs hP hD hS => ?_)
  replace hP : va_P D vwCl [(g, .inr (2, [.ref q0, .int (nI G), .ref q1, .ref q2, .ref q3, .int (fl &&& ((BI a) ^^^ (-1)))])), (q1, .inl (cI, G + 1, .inl (upd EN a (-1)))), (q3, .inl (cI, G + 1, .inl BI))] H := hP
  replace hD : va_D A [(g, .inr (2, [.ref q0, .int (nI G), .ref q1, .ref q2, .ref q3, .int (fl &&& ((BI a) ^^^ (-1)))])), (q1, .inl (cI, G + 1, .inl (upd EN a (-1)))), (q3, .inl (cI, G + 1, .inl BI))] := hD
  exact W.vret hx hb hr (fun t9 ht9 hW9 => ⟨⟨(upd EN a (-1), fl &&& ((BI a) ^^^ (-1))), rfl, ⟨rfl, rfl⟩, by show va_P D vwCl [(g, .inr (2, [.ref q0, .int (nI G), .ref q1, .ref q2, .ref q3, .int (fl &&& ((BI a) ^^^ (-1)))])), (q1, .inl (cI, G + 1, .inl (upd EN a (-1)))), (q3, .inl (cI, G + 1, .inl BI))] t9.heap; rw [ht9]; exact hP⟩, hS.F ht9⟩) hS.2.2 dX2_removeCell_24

set_option maxHeartbeats 4000000 in
set_option maxRecDepth 100000 in
/-- no cells -/
theorem k_X2_removeAll (l : Launch) (D : va_G) (cI cZ cJ : ClassId) (sz : Nat) (G : Nat) (EN : Nat → Int32) (fl : Int32) (g q0 q1 q2 q3 : Nat) (hG : G < 2 ^ 30) : Met l yX2_removeAll (Cond.code yX2_removeAll cX2_removeAll 1 none :: hwG) { frames := 1, cells := 0, slots := 0, locals := 23 } (hp_M [.ref g] D cI cZ cJ [(g, .inr (2, [.ref q0, .int (nI G), .ref q1, .ref q2, .ref q3, .int fl])), (q1, .inl (cI, G + 1, .inl EN))] sz) (va_Qv (S := Nat → Int32) (fun u => ∀ j, j ≤ G → u j = -1) (fun u t => va_P D vwCl ([(g, .inr (2, [.ref q0, .int (nI G), .ref q1, .ref q2, .ref q3, .int (nI 0)])), (q1, .inl (cI, G + 1, .inl u))]) t.heap) (va_A [(g, .inr (2, [.ref q0, .int (nI G), .ref q1, .ref q2, .ref q3, .int fl])), (q1, .inl (cI, G + 1, .inl EN))] sz)) 0 0 (va_A [(g, .inr (2, [.ref q0, .int (nI G), .ref q1, .ref q2, .ref q3, .int fl])), (q1, .inl (cI, G + 1, .inl EN))] sz) := by
  refine Met.ofW (cc := cX2_removeAll) (maxL := 1) (ret := none) (by decide) rfl ?_
  intro p e s m args below meth c s₁ B hml hv
  obtain ⟨rfl, hsz, hP, hz, hD0⟩ := hv
  have hx := B.exec
  have hb := B.bytes
  have hr := B.returns
  have hts := atoms_spec (ws := (Cond.code yX2_removeAll cX2_removeAll 1 none :: hwG)) B.pre
  have htg := fun w h => hts w (List.mem_cons_of_mem _ h)
  have hown : s.vm.findClass RX2 = some m.cls := findClass_of_methodNamed B.named
  have hlocks := B.notSynchronized
  have hK := hz.1
  subst hsz
  have hD := hD0.self (sz := s.heap.size)
  generalize hAe : va_A [(g, .inr (2, [.ref q0, .int (nI G), .ref q1, .ref q2, .ref q3, .int fl])), (q1, .inl (cI, G + 1, .inl EN))] s.heap.size = A at hD ⊢
  have hA : ∀ q : Nat, s.heap.size ≤ q → A q := fun q h => by rw [← hAe]; exact Or.inr h
  have hS : va_S A s.heap s.heap [] := va_S.rf
  have hl := lv_entry ([.ref g]) (n := 1) (Nat.le_of_ble_eq_true rfl)
  rw [lg_entry_eq]
  generalize (lg_sl ([.ref g]) ++ List.replicate (1 - (lg_sl ([.ref g])).length) Slot.unset).toArray = ls at hl ⊢
  replace hl : lv_has ls 1 [(0, .ref g)] := hl
  replace hP : va_P D vwCl [(g, .inr (2, [.ref q0, .int (nI G), .ref q1, .ref q2, .ref q3, .int fl])), (q1, .inl (cI, G + 1, .inl EN))] s.heap := hP
  refine lv_aload_n hx hb dX2_removeAll_0 rfl (lv_at hl 0 rfl) ?_
  refine va_get (D := D) (ci := 2) (v := .ref q1) (C := RX2) (T := TX2) (N := 6) hx hb htg hi_X2 hown hK hP 0 rfl rfl 2 (by decide) (htg _ hm_77) (fun _ h9 => h9) rfl dX2_removeAll_1 ?_
  refine lv_iconst (v := (-1)) hx hb dX2_removeAll_4 (by decide) ?_
  refine hv_callv (w1 := fun u => [(q1, .inl (cI, G + 1, .inl u))]) (va_runS (As := [.ref q1, .int (-1)]) (rest := []) ⟨hx, hb, hml, hown, htg⟩ (k_J7_fill l D cI cZ cJ _ EN (G + 1) q1 (-1) (by omega)) (va_cwS 2 htg (hg_S hm_70 hm_71 hm_4 hm_72) rfl rfl rfl (by decide +kernel) ⟨Nat.le_of_ble_eq_true rfl, Nat.le_of_ble_eq_true rfl⟩) ⟨hp_M_blind, hp_M_pre (hP.sub (ws' := [(q1, .inl (cI, G + 1, .inl EN))]) [1] rfl) (hD.sub (ws' := [(q1, .inl (cI, G + 1, .inl EN))]) [1] (by decide) rfl) hz⟩ rfl rfl hl.1 rfl (lv_room (Nat.le_of_ble_eq_true rfl)) dX2_removeAll_5 ⟨Nat.zero_le _, Nat.zero_le _⟩) hP hD hS hA [1] rfl (fun _ => rfl) (fun E1 H locs h1 hP hD hS => ?_)
  replace hP : va_P D vwCl [(g, .inr (2, [.ref q0, .int (nI G), .ref q1, .ref q2, .ref q3, .int fl])), (q1, .inl (cI, G + 1, .inl E1))] H := hP
  replace hD : va_D A [(g, .inr (2, [.ref q0, .int (nI G), .ref q1, .ref q2, .ref q3, .int fl])), (q1, .inl (cI, G + 1, .inl E1))] := hD
  refine lv_aload_n hx hb dX2_removeAll_8 rfl (lv_at hl 0 rfl) ?_
  refine lv_iconst (v := nI 0) hx hb dX2_removeAll_9 (by decide) ?_
  refine va_put (D := D) (ci := 2) (v := .int (nI 0)) (ty := .int) (C := RX2) (T := TX2) (N := 6) hx hb htg hi_X2 tyX2 tyX2_ok nmX2 hown hK hP hD hS 0 rfl rfl 5 (by decide) (htg _ hm_81) (fun _ h9 => h9) rfl (by decide +kernel) rfl rfl (Nat.le_of_ble_eq_true rfl) dX2_removeAll_10 (fun H locs hP hD hS => ?_)
  replace hP : va_P D vwCl [(g, .inr (2, [.ref q0, .int (nI G), .ref q1, .ref q2, .ref q3, .int (nI 0)])), (q1, .inl (cI, G + 1, .inl E1))] H := hP
  replace hD : va_D A [(g, .inr (2, [.ref q0, .int (nI G), .ref q1, .ref q2, .ref q3, .int (nI 0)])), (q1, .inl (cI, G + 1, .inl E1))] := hD
  exact W.vret hx hb hr (fun t9 ht9 hW9 => ⟨⟨E1, rfl, fun j hj => h1 j (by omega), by show va_P D vwCl [(g, .inr (2, [.ref q0, .int (nI G), .ref q1, .ref q2, .ref q3, .int (nI 0)])), (q1, .inl (cI, G + 1, .inl E1))] t9.heap; rw [ht9]; exact hP⟩, hS.F ht9⟩) hS.2.2 dX2_removeAll_13

set_option maxHeartbeats 4000000 in
set_option maxRecDepth 100000 in
/-- the least address without a cell -/
theorem k_X2_leastFreeAddress (l : Launch) (D : va_G) (cI cZ cJ : ClassId) (G : Nat) (EN LG BI : Nat → Int32) (nx : Nat → Option Nat) (lg : Nat → Bool) (bi : Nat → Nat) (fl : Int32) (g q0 q1 q2 q3 : Nat) (hG0 : 0 < G) (hG : G < 2 ^ 30) (hH : hs_hp G EN LG BI nx lg bi) : Met l yX2_leastFreeAddress (Cond.code yX2_leastFreeAddress cX2_leastFreeAddress 2 (some .int) :: hwG) { frames := 0, cells := 0, slots := 0, locals := 0 } (hp_R [.ref g] D cI cZ cJ [(g, .inr (2, [.ref q0, .int (nI G), .ref q1, .ref q2, .ref q3, .int fl])), (q1, .inl (cI, G + 1, .inl EN))]) (vp_Si (fun r => (r = -1 ∧ ∀ x, 1 ≤ x → x ≤ G → nx x ≠ none) ∨ ∃ a, r = nI a ∧ 1 ≤ a ∧ a ≤ G ∧ nx a = none ∧ ∀ x, 1 ≤ x → x < a → nx x ≠ none)) 0 0 (fun _ => False) := by
  refine Met.ofW (cc := cX2_leastFreeAddress) (maxL := 2) (ret := (some .int)) (by decide) rfl ?_
  intro p e s m args below meth c s₁ B hml hv
  obtain ⟨rfl, hP, hz⟩ := hv
  have hx := B.exec
  have hb := B.bytes
  have hr := B.returns
  have hts := atoms_spec (ws := (Cond.code yX2_leastFreeAddress cX2_leastFreeAddress 2 (some .int) :: hwG)) B.pre
  have htg := fun w h => hts w (List.mem_cons_of_mem _ h)
  have hown : s.vm.findClass RX2 = some m.cls := findClass_of_methodNamed B.named
  have hlocks := B.notSynchronized
  have hK := hz.1
  have hl := lv_entry ([.ref g]) (n := 2) (Nat.le_of_ble_eq_true rfl)
  rw [lg_entry_eq]
  generalize (lg_sl ([.ref g]) ++ List.replicate (2 - (lg_sl ([.ref g])).length) Slot.unset).toArray = ls at hl ⊢
  replace hl : lv_has ls 2 [(0, .ref g)] := hl
  refine lv_iconst (v := nI 1) hx hb dX2_leastFreeAddress_0 (by decide) ?_
  refine lv_istore_n hx hb dX2_leastFreeAddress_1 rfl hl (by decide) rfl (fun ls hl => ?_)
  replace hl : lv_has ls 2 [(1, .int (nI 1)), (0, .ref g)] := hl
  obtain ⟨b, e_b⟩ : ∃ z : Nat, z = 1 := ⟨_, rfl⟩
  replace hl : lv_has ls 2 [(1, .int (nI b)), (0, .ref g)] := by subst e_b; exact hl
  have hI : ∀ x, 1 ≤ x → x < b → nx x ≠ none := by subst e_b; exact fun x h1 h2 => absurd h2 (by omega)
  have hb1 : 1 ≤ b ∧ b ≤ G + 1 := by subst e_b; omega
  clear e_b
  obtain ⟨k, hk⟩ : ∃ k : Nat, k = G + 1 - b := ⟨_, rfl⟩
  induction k generalizing b ls  with
  | zero =>
    refine lv_iload_n hx hb dX2_leastFreeAddress_2 rfl (lv_at hl 0 rfl) ?_
    refine lv_aload_n hx hb dX2_leastFreeAddress_3 rfl (lv_at hl 1 rfl) ?_
    refine va_get (D := D) (ci := 2) (v := .int (nI G)) (C := RX2) (T := TX2) (N := 6) hx hb htg hi_X2 hown hK hP 0 rfl rfl 1 (by decide) (htg _ hm_76) (fun _ h9 => h9) rfl dX2_leastFreeAddress_4 ?_
    refine hw_icmp_gt hx hb (by omega) (by omega) dX2_leastFreeAddress_7 rfl (fun hc => ?_) (fun hc => absurd hc (by omega))
    refine lv_iconst (v := (-1)) hx hb dX2_leastFreeAddress_28 (by decide) ?_
    exact W.iret (v := -1) hx hb hr (fun t9 ht9 hW9 => ⟨_, rfl, Or.inl ⟨rfl, fun x h1 h2 => hI x h1 (by omega)⟩, ht9⟩) (fun _ h => nomatch h) dX2_leastFreeAddress_29
  | succ k ih =>
    refine lv_iload_n hx hb dX2_leastFreeAddress_2 rfl (lv_at hl 0 rfl) ?_
    refine lv_aload_n hx hb dX2_leastFreeAddress_3 rfl (lv_at hl 1 rfl) ?_
    refine va_get (D := D) (ci := 2) (v := .int (nI G)) (C := RX2) (T := TX2) (N := 6) hx hb htg hi_X2 hown hK hP 0 rfl rfl 1 (by decide) (htg _ hm_76) (fun _ h9 => h9) rfl dX2_leastFreeAddress_4 ?_
    refine hw_icmp_gt hx hb (by omega) (by omega) dX2_leastFreeAddress_7 rfl (fun hc => absurd hc (by omega)) (fun hc => ?_)
    refine lv_aload_n hx hb dX2_leastFreeAddress_10 rfl (lv_at hl 1 rfl) ?_
    refine va_get (D := D) (ci := 2) (v := .ref q1) (C := RX2) (T := TX2) (N := 6) hx hb htg hi_X2 hown hK hP 0 rfl rfl 2 (by decide) (htg _ hm_77) (fun _ h9 => h9) rfl dX2_leastFreeAddress_11 ?_
    refine lv_iload_n hx hb dX2_leastFreeAddress_14 rfl (lv_at hl 0 rfl) ?_
    refine hw_iald hx hb hK hP 1 0 rfl rfl (j := b) (by omega) (by first | decide | omega) (v := EN b) (rfl) dX2_leastFreeAddress_15 ?_
    refine lv_iconst (v := (-1)) hx hb dX2_leastFreeAddress_16 (by decide) ?_
    refine lv_icmp_ne hx hb dX2_leastFreeAddress_17 rfl (fun h1 => ?_) (fun h1 => ?_)
    · refine lv_iinc (v := nI (b + 1)) (k := 0) hx hb dX2_leastFreeAddress_22 hl rfl (hw_inc _) (by decide) rfl (fun ls hl => ?_)
      replace hl : lv_has ls 2 [(1, .int (nI (b + 1))), (0, .ref g)] := hl
      refine lv_goto hx hb dX2_leastFreeAddress_25 rfl ?_
      refine ih (hl := hl) (hI := (fun x h2 h3 => ?_)) (hb1 := (by omega)) (hk := (by omega))
      by_cases hxb : x = b
      · rw [hxb]; exact fun q => h1 ((hH.2 b (by omega) (by omega)).1 q)
      · exact hI x h2 (by omega)
    · refine lv_iload_n hx hb dX2_leastFreeAddress_20 rfl (lv_at hl 0 rfl) ?_
      exact W.iret (v := nI b) hx hb hr (fun t9 ht9 hW9 => ⟨_, rfl, Or.inr ⟨b, rfl, by omega, by omega, by cases hn : nx b with | none => rfl | some z => (have h8 := (hH.2 b (by omega) (by omega)).2 z hn; exact absurd (h8.2.1.symm.trans h1) (hs_nm1 z (by omega))), hI⟩, ht9⟩) (fun _ h => nomatch h) dX2_leastFreeAddress_21

set_option maxHeartbeats 4000000 in
set_option maxRecDepth 100000 in
/-- a CELL piece -/
theorem k_X2_takenByCell (l : Launch) (D : va_G) (cI cZ cJ : ClassId) (st en : Nat) (G : Nat) (EN LG BI : Nat → Int32) (nx : Nat → Option Nat) (lg : Nat → Bool) (bi : Nat → Nat) (fl : Int32) (g q0 q1 q2 q3 : Nat) (hst : st ≤ G) (hen : en ≤ G) (hG : G < 2 ^ 30) (hH : hs_hp G EN LG BI nx lg bi) : Met l yX2_takenByCell (Cond.code yX2_takenByCell cX2_takenByCell 3 (some .int) :: hwG) { frames := 1, cells := 0, slots := 0, locals := 21 } (hp_R [.ref g, .int (nI st), .int (nI en)] D cI cZ cJ [(g, .inr (2, [.ref q0, .int (nI G), .ref q1, .ref q2, .ref q3, .int fl])), (q1, .inl (cI, G + 1, .inl EN)), (q2, .inl (cZ, G + 1, .inl LG)), (q3, .inl (cI, G + 1, .inl BI))]) (vp_Si (fun r => hs_tk nx lg bi st en false r)) 0 0 (fun _ => False) := by
  refine Met.ofW (cc := cX2_takenByCell) (maxL := 3) (ret := (some .int)) (by decide) rfl ?_
  intro p e s m args below meth c s₁ B hml hv
  obtain ⟨rfl, hP, hz⟩ := hv
  have hx := B.exec
  have hb := B.bytes
  have hr := B.returns
  have hts := atoms_spec (ws := (Cond.code yX2_takenByCell cX2_takenByCell 3 (some .int) :: hwG)) B.pre
  have htg := fun w h => hts w (List.mem_cons_of_mem _ h)
  have hown : s.vm.findClass RX2 = some m.cls := findClass_of_methodNamed B.named
  have hlocks := B.notSynchronized
  have hK := hz.1
  have hl := lv_entry ([.ref g, .int (nI st), .int (nI en)]) (n := 3) (Nat.le_of_ble_eq_true rfl)
  rw [lg_entry_eq]
  generalize (lg_sl ([.ref g, .int (nI st), .int (nI en)]) ++ List.replicate (3 - (lg_sl ([.ref g, .int (nI st), .int (nI en)])).length) Slot.unset).toArray = ls at hl ⊢
  replace hl : lv_has ls 3 [(0, .ref g), (1, .int (nI st)), (2, .int (nI en))] := hl
  refine lv_aload_n hx hb dX2_takenByCell_0 rfl (lv_at hl 0 rfl) ?_
  refine lv_iload_n hx hb dX2_takenByCell_1 rfl (lv_at hl 1 rfl) ?_
  refine hw_csi (va_runV (C := RX2) (b := g) (As := [.int (nI st)]) (rest := []) ⟨hx, hb, hml, hown, htg⟩ (k_X2_hasCell l D cI cZ cJ st G EN LG BI nx lg bi fl g q0 q1 q2 q3 (by omega) hG hH) (cwV 1 htg (hg_V hm_174 hm_158 hm_159 hm_3 hm_160) rfl rfl rfl (by decide +kernel) ⟨Nat.le_of_ble_eq_true rfl, Nat.le_of_ble_eq_true rfl⟩) ⟨hp_R_blind, va_recv (q := (RX2, TX2, 6)) (q0 := 0) (ci := 2) hK hP rfl rfl, hp_R_pre (hP.sub (ws' := [(g, .inr (2, [.ref q0, .int (nI G), .ref q1, .ref q2, .ref q3, .int fl])), (q1, .inl (cI, G + 1, .inl EN))]) [0, 1] rfl) hz⟩ rfl rfl hl.1 rfl (lv_room (Nat.le_of_ble_eq_true rfl)) dX2_takenByCell_2 ⟨Nat.zero_le _, Nat.zero_le _⟩) (fun r hq => ?_)
  rcases hq with ⟨rfl, hq⟩ | ⟨rfl, hq⟩
  · refine lv_if_eq hx hb dX2_takenByCell_5 rfl (fun hc => absurd hc (by decide)) (fun hc => ?_)
    obtain ⟨z, hz9⟩ : ∃ z, nx st = some z := by cases hn : nx st with | none => exact absurd hn hq | some z => exact ⟨z, rfl⟩
    have hst := hH.1 st hq
    obtain ⟨j1, j2, j3, j4, j5⟩ := (hH.2 st hst.1 hst.2).2 z hz9
    refine lv_aload_n hx hb dX2_takenByCell_8 rfl (lv_at hl 0 rfl) ?_
    refine va_get (D := D) (ci := 2) (v := .ref q2) (C := RX2) (T := TX2) (N := 6) hx hb htg hi_X2 hown hK hP 0 rfl rfl 3 (by decide) (htg _ hm_79) (fun _ h9 => h9) rfl dX2_takenByCell_9 ?_
    refine lv_iload_n hx hb dX2_takenByCell_12 rfl (lv_at hl 1 rfl) ?_
    refine hw_zald hx hb hK hP 2 1 rfl rfl (j := st) (by omega) (by first | decide | omega) (v := hc_b (lg st)) (j3) dX2_takenByCell_13 ?_
    refine hw_ifne_b hx hb dX2_takenByCell_14 rfl (fun hc1 => ?_) (fun hc1 => ?_)
    · refine lv_iconst (v := (-1)) hx hb dX2_takenByCell_27 (by decide) ?_
      exact W.iret (v := -1) hx hb hr (fun t9 ht9 hW9 => ⟨_, rfl, Or.inl ⟨rfl, fun ⟨l9, h9, _⟩ => by rw [(h9.2 rfl).2.2] at hc1; cases hc1⟩, ht9⟩) (fun _ h => nomatch h) dX2_takenByCell_28
    · refine lv_aload_n hx hb dX2_takenByCell_17 rfl (lv_at hl 0 rfl) ?_
      refine va_get (D := D) (ci := 2) (v := .ref q1) (C := RX2) (T := TX2) (N := 6) hx hb htg hi_X2 hown hK hP 0 rfl rfl 2 (by decide) (htg _ hm_77) (fun _ h9 => h9) rfl dX2_takenByCell_18 ?_
      refine lv_iload_n hx hb dX2_takenByCell_21 rfl (lv_at hl 1 rfl) ?_
      refine hw_iald hx hb hK hP 1 0 rfl rfl (j := st) (by omega) (by first | decide | omega) (v := nI z) (j2) dX2_takenByCell_22 ?_
      refine lv_iload_n hx hb dX2_takenByCell_23 rfl (lv_at hl 2 rfl) ?_
      refine hw_icmp_eq hx hb (by omega) (by omega) dX2_takenByCell_24 rfl (fun hc2 => ?_) (fun hc2 => ?_)
      · refine lv_aload_n hx hb dX2_takenByCell_29 rfl (lv_at hl 0 rfl) ?_
        refine va_get (D := D) (ci := 2) (v := .ref q3) (C := RX2) (T := TX2) (N := 6) hx hb htg hi_X2 hown hK hP 0 rfl rfl 4 (by decide) (htg _ hm_80) (fun _ h9 => h9) rfl dX2_takenByCell_30 ?_
        refine lv_iload_n hx hb dX2_takenByCell_33 rfl (lv_at hl 1 rfl) ?_
        refine hw_iald hx hb hK hP 3 0 rfl rfl (j := st) (by omega) (by first | decide | omega) (v := (1 : Int32) <<< (nI (bi st) &&& 31)) (j4) dX2_takenByCell_34 ?_
        have hbits : ∀ j, j < 32 → (bt ((1 : Int32) <<< (nI (bi st) &&& 31)) j = true ↔ ∃ a, a ∈ [st] ∧ bi a = j) := fun j hj => by
          rw [hb_1 (bi st) (by omega) j hj, decide_eq_true_eq]
          exact ⟨fun h => ⟨st, List.mem_cons_self, h.symm⟩, fun ⟨a, h1, h2⟩ => by rw [← h2, List.mem_singleton.mp h1]⟩
        exact W.iret (v := (1 : Int32) <<< (nI (bi st) &&& 31)) hx hb hr (fun t9 ht9 hW9 => ⟨_, rfl, Or.inr ⟨hb_m1 (i := 31) (by omega) (by rw [hb_1 (bi st) (by omega) 31 (by omega)]; exact decide_eq_false (by omega)), [st], ⟨⟨fun h => (by cases h), fun _ => ⟨rfl, by rw [hz9, hc2], hc1⟩⟩, fun h => (by cases h)⟩, hbits⟩, ht9⟩) (fun _ h => nomatch h) dX2_takenByCell_35
      · refine lv_iconst (v := (-1)) hx hb dX2_takenByCell_27 (by decide) ?_
        exact W.iret (v := -1) hx hb hr (fun t9 ht9 hW9 => ⟨_, rfl, Or.inl ⟨rfl, fun ⟨l9, h9, _⟩ => by have h8 := (h9.2 rfl).2.1; rw [hz9] at h8; injection h8 with h8; exact hc2 h8⟩, ht9⟩) (fun _ h => nomatch h) dX2_takenByCell_28
  · refine lv_if_eq hx hb dX2_takenByCell_5 rfl (fun hc => ?_) (fun hc => absurd rfl hc)
    refine lv_iconst (v := (-1)) hx hb dX2_takenByCell_27 (by decide) ?_
    exact W.iret (v := -1) hx hb hr (fun t9 ht9 hW9 => ⟨_, rfl, Or.inl ⟨rfl, fun ⟨l9, h9, _⟩ => hq (by rw [(h9.2 rfl).2.1]; exact fun q => nomatch q)⟩, ht9⟩) (fun _ h => nomatch h) dX2_takenByCell_28

set_option maxHeartbeats 4000000 in
set_option maxRecDepth 100000 in
/-- a LIST piece -/
theorem k_X2_takenByList (l : Launch) (D : va_G) (cI cZ cJ : ClassId) (st en : Nat) (G : Nat) (EN LG BI : Nat → Int32) (nx : Nat → Option Nat) (lg : Nat → Bool) (bi : Nat → Nat) (fl : Int32) (g q0 q1 q2 q3 : Nat) (hst : st ≤ G) (hen : en ≤ G) (hG : G < 2 ^ 30) (hH : hs_hp G EN LG BI nx lg bi) : Met l yX2_takenByList (Cond.code yX2_takenByList cX2_takenByList 7 (some .int) :: hwG) { frames := 1, cells := 0, slots := 0, locals := 21 } (hp_R [.ref g, .int (nI st), .int (nI en)] D cI cZ cJ [(g, .inr (2, [.ref q0, .int (nI G), .ref q1, .ref q2, .ref q3, .int fl])), (q1, .inl (cI, G + 1, .inl EN)), (q2, .inl (cZ, G + 1, .inl LG)), (q3, .inl (cI, G + 1, .inl BI))]) (vp_Si (fun r => hs_tk nx lg bi st en true r)) 0 0 (fun _ => False) := by
  refine Met.ofW (cc := cX2_takenByList) (maxL := 7) (ret := (some .int)) (by decide) rfl ?_
  intro p e s m args below meth c s₁ B hml hv
  obtain ⟨rfl, hP, hz⟩ := hv
  have hx := B.exec
  have hb := B.bytes
  have hr := B.returns
  have hts := atoms_spec (ws := (Cond.code yX2_takenByList cX2_takenByList 7 (some .int) :: hwG)) B.pre
  have htg := fun w h => hts w (List.mem_cons_of_mem _ h)
  have hown : s.vm.findClass RX2 = some m.cls := findClass_of_methodNamed B.named
  have hlocks := B.notSynchronized
  have hK := hz.1
  have hl := lv_entry ([.ref g, .int (nI st), .int (nI en)]) (n := 7) (Nat.le_of_ble_eq_true rfl)
  rw [lg_entry_eq]
  generalize (lg_sl ([.ref g, .int (nI st), .int (nI en)]) ++ List.replicate (7 - (lg_sl ([.ref g, .int (nI st), .int (nI en)])).length) Slot.unset).toArray = ls at hl ⊢
  replace hl : lv_has ls 7 [(0, .ref g), (1, .int (nI st)), (2, .int (nI en))] := hl
  refine lv_iload_n hx hb dX2_takenByList_0 rfl (lv_at hl 2 rfl) ?_
  refine lv_if_eq hx hb dX2_takenByList_1 rfl (fun he0 => ?_) (fun he0 => ?_)
  · have he9 : en = 0 := by have := nI_eq (a := en) (b := 0) (by omega) (by omega); rw [nI_0] at this; exact this.mp he0
    refine lv_iconst (v := nI 0) hx hb dX2_takenByList_16 (by decide) ?_
    obtain ⟨lo, hlo⟩ : ∃ lo : Bool, (lo = true ↔ hc_lo nx 0 en) ∧ lo = false := ⟨false, ⟨fun h => (by cases h), fun h => absurd he9 h.1⟩, rfl⟩
    have hflag : nI 0 = hc_b lo := by rw [hlo.2]; rfl
    rw [hflag]
    refine lv_istore_n hx hb dX2_takenByList_17 rfl hl (by decide) rfl (fun ls hl => ?_)
    replace hl : lv_has ls 7 [(3, .int (hc_b lo)), (0, .ref g), (1, .int (nI st)), (2, .int (nI en))] := hl
    refine lv_iconst (v := nI 0) hx hb dX2_takenByList_18 (by decide) ?_
    refine lv_istore hx hb dX2_takenByList_19 hl (by decide) rfl (fun ls hl => ?_)
    replace hl : lv_has ls 7 [(4, .int (nI 0)), (3, .int (hc_b lo)), (0, .ref g), (1, .int (nI st)), (2, .int (nI en))] := hl
    refine lv_iload_n hx hb dX2_takenByList_21 rfl (lv_at hl 3 rfl) ?_
    refine lv_istore hx hb dX2_takenByList_22 hl (by decide) rfl (fun ls hl => ?_)
    replace hl : lv_has ls 7 [(5, .int (nI st)), (4, .int (nI 0)), (3, .int (hc_b lo)), (0, .ref g), (1, .int (nI st)), (2, .int (nI en))] := hl
    refine lv_iconst (v := nI 0) hx hb dX2_takenByList_24 (by decide) ?_
    refine lv_istore hx hb dX2_takenByList_25 hl (by decide) rfl (fun ls hl => ?_)
    replace hl : lv_has ls 7 [(6, .int (nI 0)), (5, .int (nI st)), (4, .int (nI 0)), (3, .int (hc_b lo)), (0, .ref g), (1, .int (nI st)), (2, .int (nI en))] := hl
    obtain ⟨k9, e_k9⟩ : ∃ z : Nat, z = 0 := ⟨_, rfl⟩
    obtain ⟨x, e_x⟩ : ∃ z : Nat, z = st := ⟨_, rfl⟩
    obtain ⟨T, e_T⟩ : ∃ z : Int32, z = nI 0 := ⟨_, rfl⟩
    obtain ⟨pre, e_pre⟩ : ∃ z : List Nat, z = ([] : List Nat) := ⟨_, rfl⟩
    replace hl : lv_has ls 7 [(6, .int (nI k9)), (5, .int (nI x)), (4, .int T), (3, .int (hc_b lo)), (0, .ref g), (1, .int (nI st)), (2, .int (nI en))] := by subst e_k9 e_x e_T e_pre; exact hl
    have hx9 : x ≤ G := by subst e_k9 e_x e_T e_pre; exact hst
    have hPP : hc_PP nx en x pre st := by subst e_k9 e_x e_T e_pre; exact rfl
    have hlen : pre.length = k9 := by subst e_k9 e_x e_T e_pre; rfl
    have hT : ∀ j, j < 32 → (bt T j = true ↔ ∃ a, a ∈ pre ∧ bi a = j) := by subst e_k9 e_x e_T e_pre; exact fun j hj => by rw [hb_nI 0 hj]; simp
    have hpl : hc_lo nx 0 en → ∀ a, a ∈ pre → lg a = true → nx a = some en := by subst e_k9 e_x e_T e_pre; exact fun _ a ha => absurd ha List.not_mem_nil
    have hk9 : k9 ≤ G := by subst e_k9 e_x e_T e_pre; exact Nat.zero_le _
    clear e_k9 e_x e_T e_pre
    obtain ⟨k, hk⟩ : ∃ k : Nat, k = G - k9 := ⟨_, rfl⟩
    induction k generalizing k9 x T pre ls  with
    | zero =>
      refine lv_iload hx hb dX2_takenByList_27 (lv_at hl 0 rfl) ?_
      refine lv_aload_n hx hb dX2_takenByList_29 rfl (lv_at hl 4 rfl) ?_
      refine va_get (D := D) (ci := 2) (v := .int (nI G)) (C := RX2) (T := TX2) (N := 6) hx hb htg hi_X2 hown hK hP 0 rfl rfl 1 (by decide) (htg _ hm_76) (fun _ h9 => h9) rfl dX2_takenByList_30 ?_
      refine hw_icmp_ge hx hb (by omega) (by omega) dX2_takenByList_33 rfl (fun hc => ?_) (fun hc => absurd hc (by omega))
      refine lv_iload hx hb dX2_takenByList_107 (lv_at hl 1 rfl) ?_
      refine lv_iload_n hx hb dX2_takenByList_109 rfl (lv_at hl 6 rfl) ?_
      refine hw_icmp_ne hx hb (by omega) (by omega) dX2_takenByList_110 rfl (fun hc7 => ?_) (fun hc7 => ?_)
      · refine lv_iconst (v := (-1)) hx hb dX2_takenByList_118 (by decide) ?_
        exact W.iret (v := -1) hx hb hr (fun t9 ht9 hW9 => ⟨_, rfl, Or.inl ⟨rfl, hc_walk_long hH.1 hPP hc7 (by omega)⟩, ht9⟩) (fun _ h => nomatch h) dX2_takenByList_119
      · have hXE : hc_PP nx en en pre st := by rw [hc7] at hPP; exact hPP
        refine lv_iload hx hb dX2_takenByList_113 (lv_at hl 2 rfl) ?_
        refine lv_goto hx hb dX2_takenByList_115 rfl ?_
        exact W.iret (v := T) hx hb hr (fun t9 ht9 hW9 => ⟨_, rfl, Or.inr ⟨hs_bit31 (fun a ha => by cases hn : nx a with | none => exact absurd hn ha | some z => exact ((hH.2 a (hH.1 a ha).1 (hH.1 a ha).2).2 z hn).2.2.2.2) hT (fun a ha => hs_cell (hc_walk_done (hXE) hpl) ha), pre, hc_walk_done hXE hpl, hT⟩, ht9⟩) (fun _ h => nomatch h) dX2_takenByList_119
    | succ k ih =>
      refine lv_iload hx hb dX2_takenByList_27 (lv_at hl 0 rfl) ?_
      refine lv_aload_n hx hb dX2_takenByList_29 rfl (lv_at hl 4 rfl) ?_
      refine va_get (D := D) (ci := 2) (v := .int (nI G)) (C := RX2) (T := TX2) (N := 6) hx hb htg hi_X2 hown hK hP 0 rfl rfl 1 (by decide) (htg _ hm_76) (fun _ h9 => h9) rfl dX2_takenByList_30 ?_
      refine hw_icmp_ge hx hb (by omega) (by omega) dX2_takenByList_33 rfl (fun hc => absurd hc (by omega)) (fun hc => ?_)
      refine lv_iload hx hb dX2_takenByList_36 (lv_at hl 1 rfl) ?_
      refine lv_iload_n hx hb dX2_takenByList_38 rfl (lv_at hl 6 rfl) ?_
      refine hw_icmp_eq hx hb (by omega) (by omega) dX2_takenByList_39 rfl (fun hc7 => ?_) (fun hc7 => ?_)
      · refine lv_iload hx hb dX2_takenByList_107 (lv_at hl 1 rfl) ?_
        refine lv_iload_n hx hb dX2_takenByList_109 rfl (lv_at hl 6 rfl) ?_
        refine hw_icmp_ne hx hb (by omega) (by omega) dX2_takenByList_110 rfl (fun hc => absurd hc7 hc) (fun hc => ?_)
        have hXE : hc_PP nx en en pre st := by rw [hc7] at hPP; exact hPP
        refine lv_iload hx hb dX2_takenByList_113 (lv_at hl 2 rfl) ?_
        refine lv_goto hx hb dX2_takenByList_115 rfl ?_
        exact W.iret (v := T) hx hb hr (fun t9 ht9 hW9 => ⟨_, rfl, Or.inr ⟨hs_bit31 (fun a ha => by cases hn : nx a with | none => exact absurd hn ha | some z => exact ((hH.2 a (hH.1 a ha).1 (hH.1 a ha).2).2 z hn).2.2.2.2) hT (fun a ha => hs_cell (hc_walk_done (hXE) hpl) ha), pre, hc_walk_done hXE hpl, hT⟩, ht9⟩) (fun _ h => nomatch h) dX2_takenByList_119
      · refine lv_aload_n hx hb dX2_takenByList_42 rfl (lv_at hl 4 rfl) ?_
        refine lv_iload hx hb dX2_takenByList_43 (lv_at hl 1 rfl) ?_
        refine hw_csi (va_runV (C := RX2) (b := g) (As := [.int (nI x)]) (rest := []) ⟨hx, hb, hml, hown, htg⟩ (k_X2_hasCell l D cI cZ cJ x G EN LG BI nx lg bi fl g q0 q1 q2 q3 (by omega) hG hH) (cwV 1 htg (hg_V hm_174 hm_158 hm_159 hm_3 hm_160) rfl rfl rfl (by decide +kernel) ⟨Nat.le_of_ble_eq_true rfl, Nat.le_of_ble_eq_true rfl⟩) ⟨hp_R_blind, va_recv (q := (RX2, TX2, 6)) (q0 := 0) (ci := 2) hK hP rfl rfl, hp_R_pre (hP.sub (ws' := [(g, .inr (2, [.ref q0, .int (nI G), .ref q1, .ref q2, .ref q3, .int fl])), (q1, .inl (cI, G + 1, .inl EN))]) [0, 1] rfl) hz⟩ rfl rfl hl.1 rfl (lv_room (Nat.le_of_ble_eq_true rfl)) dX2_takenByList_45 ⟨Nat.zero_le _, Nat.zero_le _⟩) (fun r hq => ?_)
        rcases hq with ⟨rfl, hq⟩ | ⟨rfl, hq⟩
        · refine lv_if_ne hx hb dX2_takenByList_48 rfl (fun hc => ?_) (fun hc => absurd hc (by decide))
          obtain ⟨z, hz9⟩ : ∃ z, nx x = some z := by cases hn : nx x with | none => exact absurd hn hq | some z => exact ⟨z, rfl⟩
          have hxx := hH.1 x hq
          obtain ⟨j1, j2, j3, j4, j5⟩ := (hH.2 x hxx.1 hxx.2).2 z hz9
          refine lv_iload_n hx hb dX2_takenByList_53 rfl (lv_at hl 3 rfl) ?_
          refine hw_ifeq_b hx hb dX2_takenByList_54 rfl (fun hf1 => ?_) (fun hf1 => ?_)
          · refine lv_iload hx hb dX2_takenByList_80 (lv_at hl 2 rfl) ?_
            refine lv_aload_n hx hb dX2_takenByList_82 rfl (lv_at hl 4 rfl) ?_
            refine va_get (D := D) (ci := 2) (v := .ref q3) (C := RX2) (T := TX2) (N := 6) hx hb htg hi_X2 hown hK hP 0 rfl rfl 4 (by decide) (htg _ hm_80) (fun _ h9 => h9) rfl dX2_takenByList_83 ?_
            refine lv_iload hx hb dX2_takenByList_86 (lv_at hl 1 rfl) ?_
            refine hw_iald hx hb hK hP 3 0 rfl rfl (j := x) (by omega) (by first | decide | omega) (v := (1 : Int32) <<< (nI (bi x) &&& 31)) (j4) dX2_takenByList_88 ?_
            refine lv_ior hx hb dX2_takenByList_89 ?_
            refine lv_istore hx hb dX2_takenByList_90 hl (by decide) rfl (fun ls hl => ?_)
            replace hl : lv_has ls 7 [(4, .int (T ||| ((1 : Int32) <<< (nI (bi x) &&& 31)))), (6, .int (nI k9)), (5, .int (nI x)), (3, .int (hc_b lo)), (0, .ref g), (1, .int (nI st)), (2, .int (nI en))] := hl
            refine lv_aload_n hx hb dX2_takenByList_92 rfl (lv_at hl 4 rfl) ?_
            refine va_get (D := D) (ci := 2) (v := .ref q1) (C := RX2) (T := TX2) (N := 6) hx hb htg hi_X2 hown hK hP 0 rfl rfl 2 (by decide) (htg _ hm_77) (fun _ h9 => h9) rfl dX2_takenByList_93 ?_
            refine lv_iload hx hb dX2_takenByList_96 (lv_at hl 2 rfl) ?_
            refine hw_iald hx hb hK hP 1 0 rfl rfl (j := x) (by omega) (by first | decide | omega) (v := nI z) (j2) dX2_takenByList_98 ?_
            refine lv_istore hx hb dX2_takenByList_99 hl (by decide) rfl (fun ls hl => ?_)
            replace hl : lv_has ls 7 [(5, .int (nI z)), (4, .int (T ||| ((1 : Int32) <<< (nI (bi x) &&& 31)))), (6, .int (nI k9)), (3, .int (hc_b lo)), (0, .ref g), (1, .int (nI st)), (2, .int (nI en))] := hl
            refine lv_iinc (v := nI (k9 + 1)) (k := 2) hx hb dX2_takenByList_101 hl rfl (hw_inc _) (by decide) rfl (fun ls hl => ?_)
            replace hl : lv_has ls 7 [(6, .int (nI (k9 + 1))), (5, .int (nI z)), (4, .int (T ||| ((1 : Int32) <<< (nI (bi x) &&& 31)))), (3, .int (hc_b lo)), (0, .ref g), (1, .int (nI st)), (2, .int (nI en))] := hl
            refine lv_goto hx hb dX2_takenByList_104 rfl ?_
            refine ih (hl := hl) (hx9 := j1) (hPP := (hc_PP_snoc hc7 hz9 _ _ hPP)) (hlen := (by rw [List.length_append, hlen]; rfl)) (hT := (fun j hj => ?_)) (hpl := (fun hlo9 a ha hla => ?_)) (hk9 := (by omega)) (hk := (by omega))
            · rw [b_or, Bool.or_eq_true, hT j hj, hb_1 (bi x) (by omega) j hj, decide_eq_true_eq]
              constructor
              · rintro (⟨a, h1, h2⟩ | h1)
                · exact ⟨a, List.mem_append.mpr (Or.inl h1), h2⟩
                · exact ⟨x, List.mem_append.mpr (Or.inr List.mem_cons_self), h1.symm⟩
              · rintro ⟨a, h1, h2⟩
                rcases List.mem_append.mp h1 with h1 | h1
                · exact Or.inl ⟨a, h1, h2⟩
                · exact Or.inr (by rw [← h2, List.mem_singleton.mp h1])
            · rcases List.mem_append.mp ha with ha | ha
              · exact hpl hlo9 a ha hla
              · rw [List.mem_singleton.mp ha] at hla ⊢
                exact absurd (hlo.1.mpr hlo9) (by rw [hf1]; decide)
          · refine lv_aload_n hx hb dX2_takenByList_57 rfl (lv_at hl 4 rfl) ?_
            refine va_get (D := D) (ci := 2) (v := .ref q2) (C := RX2) (T := TX2) (N := 6) hx hb htg hi_X2 hown hK hP 0 rfl rfl 3 (by decide) (htg _ hm_79) (fun _ h9 => h9) rfl dX2_takenByList_58 ?_
            refine lv_iload hx hb dX2_takenByList_61 (lv_at hl 1 rfl) ?_
            refine hw_zald hx hb hK hP 2 1 rfl rfl (j := x) (by omega) (by first | decide | omega) (v := hc_b (lg x)) (j3) dX2_takenByList_63 ?_
            refine hw_ifeq_b hx hb dX2_takenByList_64 rfl (fun hf2 => ?_) (fun hf2 => ?_)
            · refine lv_iload hx hb dX2_takenByList_80 (lv_at hl 2 rfl) ?_
              refine lv_aload_n hx hb dX2_takenByList_82 rfl (lv_at hl 4 rfl) ?_
              refine va_get (D := D) (ci := 2) (v := .ref q3) (C := RX2) (T := TX2) (N := 6) hx hb htg hi_X2 hown hK hP 0 rfl rfl 4 (by decide) (htg _ hm_80) (fun _ h9 => h9) rfl dX2_takenByList_83 ?_
              refine lv_iload hx hb dX2_takenByList_86 (lv_at hl 1 rfl) ?_
              refine hw_iald hx hb hK hP 3 0 rfl rfl (j := x) (by omega) (by first | decide | omega) (v := (1 : Int32) <<< (nI (bi x) &&& 31)) (j4) dX2_takenByList_88 ?_
              refine lv_ior hx hb dX2_takenByList_89 ?_
              refine lv_istore hx hb dX2_takenByList_90 hl (by decide) rfl (fun ls hl => ?_)
              replace hl : lv_has ls 7 [(4, .int (T ||| ((1 : Int32) <<< (nI (bi x) &&& 31)))), (6, .int (nI k9)), (5, .int (nI x)), (3, .int (hc_b lo)), (0, .ref g), (1, .int (nI st)), (2, .int (nI en))] := hl
              refine lv_aload_n hx hb dX2_takenByList_92 rfl (lv_at hl 4 rfl) ?_
              refine va_get (D := D) (ci := 2) (v := .ref q1) (C := RX2) (T := TX2) (N := 6) hx hb htg hi_X2 hown hK hP 0 rfl rfl 2 (by decide) (htg _ hm_77) (fun _ h9 => h9) rfl dX2_takenByList_93 ?_
              refine lv_iload hx hb dX2_takenByList_96 (lv_at hl 2 rfl) ?_
              refine hw_iald hx hb hK hP 1 0 rfl rfl (j := x) (by omega) (by first | decide | omega) (v := nI z) (j2) dX2_takenByList_98 ?_
              refine lv_istore hx hb dX2_takenByList_99 hl (by decide) rfl (fun ls hl => ?_)
              replace hl : lv_has ls 7 [(5, .int (nI z)), (4, .int (T ||| ((1 : Int32) <<< (nI (bi x) &&& 31)))), (6, .int (nI k9)), (3, .int (hc_b lo)), (0, .ref g), (1, .int (nI st)), (2, .int (nI en))] := hl
              refine lv_iinc (v := nI (k9 + 1)) (k := 2) hx hb dX2_takenByList_101 hl rfl (hw_inc _) (by decide) rfl (fun ls hl => ?_)
              replace hl : lv_has ls 7 [(6, .int (nI (k9 + 1))), (5, .int (nI z)), (4, .int (T ||| ((1 : Int32) <<< (nI (bi x) &&& 31)))), (3, .int (hc_b lo)), (0, .ref g), (1, .int (nI st)), (2, .int (nI en))] := hl
              refine lv_goto hx hb dX2_takenByList_104 rfl ?_
              refine ih (hl := hl) (hx9 := j1) (hPP := (hc_PP_snoc hc7 hz9 _ _ hPP)) (hlen := (by rw [List.length_append, hlen]; rfl)) (hT := (fun j hj => ?_)) (hpl := (fun hlo9 a ha hla => ?_)) (hk9 := (by omega)) (hk := (by omega))
              · rw [b_or, Bool.or_eq_true, hT j hj, hb_1 (bi x) (by omega) j hj, decide_eq_true_eq]
                constructor
                · rintro (⟨a, h1, h2⟩ | h1)
                  · exact ⟨a, List.mem_append.mpr (Or.inl h1), h2⟩
                  · exact ⟨x, List.mem_append.mpr (Or.inr List.mem_cons_self), h1.symm⟩
                · rintro ⟨a, h1, h2⟩
                  rcases List.mem_append.mp h1 with h1 | h1
                  · exact Or.inl ⟨a, h1, h2⟩
                  · exact Or.inr (by rw [← h2, List.mem_singleton.mp h1])
              · rcases List.mem_append.mp ha with ha | ha
                · exact hpl hlo9 a ha hla
                · rw [List.mem_singleton.mp ha] at hla ⊢
                  rw [hf2] at hla; cases hla
            · refine lv_aload_n hx hb dX2_takenByList_67 rfl (lv_at hl 4 rfl) ?_
              refine va_get (D := D) (ci := 2) (v := .ref q1) (C := RX2) (T := TX2) (N := 6) hx hb htg hi_X2 hown hK hP 0 rfl rfl 2 (by decide) (htg _ hm_77) (fun _ h9 => h9) rfl dX2_takenByList_68 ?_
              refine lv_iload hx hb dX2_takenByList_71 (lv_at hl 1 rfl) ?_
              refine hw_iald hx hb hK hP 1 0 rfl rfl (j := x) (by omega) (by first | decide | omega) (v := nI z) (j2) dX2_takenByList_73 ?_
              refine lv_iload_n hx hb dX2_takenByList_74 rfl (lv_at hl 6 rfl) ?_
              refine hw_icmp_eq hx hb (by omega) (by omega) dX2_takenByList_75 rfl (fun hf3 => ?_) (fun hf3 => ?_)
              · refine lv_iload hx hb dX2_takenByList_80 (lv_at hl 2 rfl) ?_
                refine lv_aload_n hx hb dX2_takenByList_82 rfl (lv_at hl 4 rfl) ?_
                refine va_get (D := D) (ci := 2) (v := .ref q3) (C := RX2) (T := TX2) (N := 6) hx hb htg hi_X2 hown hK hP 0 rfl rfl 4 (by decide) (htg _ hm_80) (fun _ h9 => h9) rfl dX2_takenByList_83 ?_
                refine lv_iload hx hb dX2_takenByList_86 (lv_at hl 1 rfl) ?_
                refine hw_iald hx hb hK hP 3 0 rfl rfl (j := x) (by omega) (by first | decide | omega) (v := (1 : Int32) <<< (nI (bi x) &&& 31)) (j4) dX2_takenByList_88 ?_
                refine lv_ior hx hb dX2_takenByList_89 ?_
                refine lv_istore hx hb dX2_takenByList_90 hl (by decide) rfl (fun ls hl => ?_)
                replace hl : lv_has ls 7 [(4, .int (T ||| ((1 : Int32) <<< (nI (bi x) &&& 31)))), (6, .int (nI k9)), (5, .int (nI x)), (3, .int (hc_b lo)), (0, .ref g), (1, .int (nI st)), (2, .int (nI en))] := hl
                refine lv_aload_n hx hb dX2_takenByList_92 rfl (lv_at hl 4 rfl) ?_
                refine va_get (D := D) (ci := 2) (v := .ref q1) (C := RX2) (T := TX2) (N := 6) hx hb htg hi_X2 hown hK hP 0 rfl rfl 2 (by decide) (htg _ hm_77) (fun _ h9 => h9) rfl dX2_takenByList_93 ?_
                refine lv_iload hx hb dX2_takenByList_96 (lv_at hl 2 rfl) ?_
                refine hw_iald hx hb hK hP 1 0 rfl rfl (j := x) (by omega) (by first | decide | omega) (v := nI z) (j2) dX2_takenByList_98 ?_
                refine lv_istore hx hb dX2_takenByList_99 hl (by decide) rfl (fun ls hl => ?_)
                replace hl : lv_has ls 7 [(5, .int (nI z)), (4, .int (T ||| ((1 : Int32) <<< (nI (bi x) &&& 31)))), (6, .int (nI k9)), (3, .int (hc_b lo)), (0, .ref g), (1, .int (nI st)), (2, .int (nI en))] := hl
                refine lv_iinc (v := nI (k9 + 1)) (k := 2) hx hb dX2_takenByList_101 hl rfl (hw_inc _) (by decide) rfl (fun ls hl => ?_)
                replace hl : lv_has ls 7 [(6, .int (nI (k9 + 1))), (5, .int (nI z)), (4, .int (T ||| ((1 : Int32) <<< (nI (bi x) &&& 31)))), (3, .int (hc_b lo)), (0, .ref g), (1, .int (nI st)), (2, .int (nI en))] := hl
                refine lv_goto hx hb dX2_takenByList_104 rfl ?_
                refine ih (hl := hl) (hx9 := j1) (hPP := (hc_PP_snoc hc7 hz9 _ _ hPP)) (hlen := (by rw [List.length_append, hlen]; rfl)) (hT := (fun j hj => ?_)) (hpl := (fun hlo9 a ha hla => ?_)) (hk9 := (by omega)) (hk := (by omega))
                · rw [b_or, Bool.or_eq_true, hT j hj, hb_1 (bi x) (by omega) j hj, decide_eq_true_eq]
                  constructor
                  · rintro (⟨a, h1, h2⟩ | h1)
                    · exact ⟨a, List.mem_append.mpr (Or.inl h1), h2⟩
                    · exact ⟨x, List.mem_append.mpr (Or.inr List.mem_cons_self), h1.symm⟩
                  · rintro ⟨a, h1, h2⟩
                    rcases List.mem_append.mp h1 with h1 | h1
                    · exact Or.inl ⟨a, h1, h2⟩
                    · exact Or.inr (by rw [← h2, List.mem_singleton.mp h1])
                · rcases List.mem_append.mp ha with ha | ha
                  · exact hpl hlo9 a ha hla
                  · rw [List.mem_singleton.mp ha] at hla ⊢
                    rw [hz9, hf3]
              · refine lv_iconst (v := (-1)) hx hb dX2_takenByList_78 (by decide) ?_
                exact W.iret (v := -1) hx hb hr (fun t9 ht9 hW9 => ⟨_, rfl, Or.inl ⟨rfl, hc_walk_loose hPP hc7 (hlo.1.mp hf1) hf2 (fun q => hf3 (by rw [hz9] at q; injection q))⟩, ht9⟩) (fun _ h => nomatch h) dX2_takenByList_79
        · refine lv_if_ne hx hb dX2_takenByList_48 rfl (fun hc => absurd rfl hc) (fun hc => ?_)
          refine lv_iconst (v := (-1)) hx hb dX2_takenByList_51 (by decide) ?_
          have hq9 : nx x = none := Classical.not_not.mp hq
          exact W.iret (v := -1) hx hb hr (fun t9 ht9 hW9 => ⟨_, rfl, Or.inl ⟨rfl, hc_walk_none hPP hc7 hq9⟩, ht9⟩) (fun _ h => nomatch h) dX2_takenByList_52
  · have he9 : en ≠ 0 := fun q => he0 (by rw [q]; rfl)
    refine lv_aload_n hx hb dX2_takenByList_4 rfl (lv_at hl 0 rfl) ?_
    refine lv_iload_n hx hb dX2_takenByList_5 rfl (lv_at hl 2 rfl) ?_
    refine hw_csi (va_runV (C := RX2) (b := g) (As := [.int (nI en)]) (rest := []) ⟨hx, hb, hml, hown, htg⟩ (k_X2_hasCell l D cI cZ cJ en G EN LG BI nx lg bi fl g q0 q1 q2 q3 (by omega) hG hH) (cwV 1 htg (hg_V hm_174 hm_158 hm_159 hm_3 hm_160) rfl rfl rfl (by decide +kernel) ⟨Nat.le_of_ble_eq_true rfl, Nat.le_of_ble_eq_true rfl⟩) ⟨hp_R_blind, va_recv (q := (RX2, TX2, 6)) (q0 := 0) (ci := 2) hK hP rfl rfl, hp_R_pre (hP.sub (ws' := [(g, .inr (2, [.ref q0, .int (nI G), .ref q1, .ref q2, .ref q3, .int fl])), (q1, .inl (cI, G + 1, .inl EN))]) [0, 1] rfl) hz⟩ rfl rfl hl.1 rfl (lv_room (Nat.le_of_ble_eq_true rfl)) dX2_takenByList_6 ⟨Nat.zero_le _, Nat.zero_le _⟩) (fun r hq => ?_)
    rcases hq with ⟨rfl, hq⟩ | ⟨rfl, hq⟩
    · refine lv_if_ne hx hb dX2_takenByList_9 rfl (fun hc => ?_) (fun hc => absurd hc (by decide))
      refine lv_iconst (v := nI 0) hx hb dX2_takenByList_16 (by decide) ?_
      obtain ⟨lo, hlo⟩ : ∃ lo : Bool, (lo = true ↔ hc_lo nx 0 en) ∧ lo = false := ⟨false, ⟨fun h => (by cases h), fun h => absurd h.2 hq⟩, rfl⟩
      have hflag : nI 0 = hc_b lo := by rw [hlo.2]; rfl
      rw [hflag]
      refine lv_istore_n hx hb dX2_takenByList_17 rfl hl (by decide) rfl (fun ls hl => ?_)
      replace hl : lv_has ls 7 [(3, .int (hc_b lo)), (0, .ref g), (1, .int (nI st)), (2, .int (nI en))] := hl
      refine lv_iconst (v := nI 0) hx hb dX2_takenByList_18 (by decide) ?_
      refine lv_istore hx hb dX2_takenByList_19 hl (by decide) rfl (fun ls hl => ?_)
      replace hl : lv_has ls 7 [(4, .int (nI 0)), (3, .int (hc_b lo)), (0, .ref g), (1, .int (nI st)), (2, .int (nI en))] := hl
      refine lv_iload_n hx hb dX2_takenByList_21 rfl (lv_at hl 3 rfl) ?_
      refine lv_istore hx hb dX2_takenByList_22 hl (by decide) rfl (fun ls hl => ?_)
      replace hl : lv_has ls 7 [(5, .int (nI st)), (4, .int (nI 0)), (3, .int (hc_b lo)), (0, .ref g), (1, .int (nI st)), (2, .int (nI en))] := hl
      refine lv_iconst (v := nI 0) hx hb dX2_takenByList_24 (by decide) ?_
      refine lv_istore hx hb dX2_takenByList_25 hl (by decide) rfl (fun ls hl => ?_)
      replace hl : lv_has ls 7 [(6, .int (nI 0)), (5, .int (nI st)), (4, .int (nI 0)), (3, .int (hc_b lo)), (0, .ref g), (1, .int (nI st)), (2, .int (nI en))] := hl
      obtain ⟨k9, e_k9⟩ : ∃ z : Nat, z = 0 := ⟨_, rfl⟩
      obtain ⟨x, e_x⟩ : ∃ z : Nat, z = st := ⟨_, rfl⟩
      obtain ⟨T, e_T⟩ : ∃ z : Int32, z = nI 0 := ⟨_, rfl⟩
      obtain ⟨pre, e_pre⟩ : ∃ z : List Nat, z = ([] : List Nat) := ⟨_, rfl⟩
      replace hl : lv_has ls 7 [(6, .int (nI k9)), (5, .int (nI x)), (4, .int T), (3, .int (hc_b lo)), (0, .ref g), (1, .int (nI st)), (2, .int (nI en))] := by subst e_k9 e_x e_T e_pre; exact hl
      have hx9 : x ≤ G := by subst e_k9 e_x e_T e_pre; exact hst
      have hPP : hc_PP nx en x pre st := by subst e_k9 e_x e_T e_pre; exact rfl
      have hlen : pre.length = k9 := by subst e_k9 e_x e_T e_pre; rfl
      have hT : ∀ j, j < 32 → (bt T j = true ↔ ∃ a, a ∈ pre ∧ bi a = j) := by subst e_k9 e_x e_T e_pre; exact fun j hj => by rw [hb_nI 0 hj]; simp
      have hpl : hc_lo nx 0 en → ∀ a, a ∈ pre → lg a = true → nx a = some en := by subst e_k9 e_x e_T e_pre; exact fun _ a ha => absurd ha List.not_mem_nil
      have hk9 : k9 ≤ G := by subst e_k9 e_x e_T e_pre; exact Nat.zero_le _
      clear e_k9 e_x e_T e_pre
      obtain ⟨k, hk⟩ : ∃ k : Nat, k = G - k9 := ⟨_, rfl⟩
      induction k generalizing k9 x T pre ls  with
      | zero =>
        refine lv_iload hx hb dX2_takenByList_27 (lv_at hl 0 rfl) ?_
        refine lv_aload_n hx hb dX2_takenByList_29 rfl (lv_at hl 4 rfl) ?_
        refine va_get (D := D) (ci := 2) (v := .int (nI G)) (C := RX2) (T := TX2) (N := 6) hx hb htg hi_X2 hown hK hP 0 rfl rfl 1 (by decide) (htg _ hm_76) (fun _ h9 => h9) rfl dX2_takenByList_30 ?_
        refine hw_icmp_ge hx hb (by omega) (by omega) dX2_takenByList_33 rfl (fun hc => ?_) (fun hc => absurd hc (by omega))
        refine lv_iload hx hb dX2_takenByList_107 (lv_at hl 1 rfl) ?_
        refine lv_iload_n hx hb dX2_takenByList_109 rfl (lv_at hl 6 rfl) ?_
        refine hw_icmp_ne hx hb (by omega) (by omega) dX2_takenByList_110 rfl (fun hc7 => ?_) (fun hc7 => ?_)
        · refine lv_iconst (v := (-1)) hx hb dX2_takenByList_118 (by decide) ?_
          exact W.iret (v := -1) hx hb hr (fun t9 ht9 hW9 => ⟨_, rfl, Or.inl ⟨rfl, hc_walk_long hH.1 hPP hc7 (by omega)⟩, ht9⟩) (fun _ h => nomatch h) dX2_takenByList_119
        · have hXE : hc_PP nx en en pre st := by rw [hc7] at hPP; exact hPP
          refine lv_iload hx hb dX2_takenByList_113 (lv_at hl 2 rfl) ?_
          refine lv_goto hx hb dX2_takenByList_115 rfl ?_
          exact W.iret (v := T) hx hb hr (fun t9 ht9 hW9 => ⟨_, rfl, Or.inr ⟨hs_bit31 (fun a ha => by cases hn : nx a with | none => exact absurd hn ha | some z => exact ((hH.2 a (hH.1 a ha).1 (hH.1 a ha).2).2 z hn).2.2.2.2) hT (fun a ha => hs_cell (hc_walk_done (hXE) hpl) ha), pre, hc_walk_done hXE hpl, hT⟩, ht9⟩) (fun _ h => nomatch h) dX2_takenByList_119
      | succ k ih =>
        refine lv_iload hx hb dX2_takenByList_27 (lv_at hl 0 rfl) ?_
        refine lv_aload_n hx hb dX2_takenByList_29 rfl (lv_at hl 4 rfl) ?_
        refine va_get (D := D) (ci := 2) (v := .int (nI G)) (C := RX2) (T := TX2) (N := 6) hx hb htg hi_X2 hown hK hP 0 rfl rfl 1 (by decide) (htg _ hm_76) (fun _ h9 => h9) rfl dX2_takenByList_30 ?_
        refine hw_icmp_ge hx hb (by omega) (by omega) dX2_takenByList_33 rfl (fun hc => absurd hc (by omega)) (fun hc => ?_)
        refine lv_iload hx hb dX2_takenByList_36 (lv_at hl 1 rfl) ?_
        refine lv_iload_n hx hb dX2_takenByList_38 rfl (lv_at hl 6 rfl) ?_
        refine hw_icmp_eq hx hb (by omega) (by omega) dX2_takenByList_39 rfl (fun hc7 => ?_) (fun hc7 => ?_)
        · refine lv_iload hx hb dX2_takenByList_107 (lv_at hl 1 rfl) ?_
          refine lv_iload_n hx hb dX2_takenByList_109 rfl (lv_at hl 6 rfl) ?_
          refine hw_icmp_ne hx hb (by omega) (by omega) dX2_takenByList_110 rfl (fun hc => absurd hc7 hc) (fun hc => ?_)
          have hXE : hc_PP nx en en pre st := by rw [hc7] at hPP; exact hPP
          refine lv_iload hx hb dX2_takenByList_113 (lv_at hl 2 rfl) ?_
          refine lv_goto hx hb dX2_takenByList_115 rfl ?_
          exact W.iret (v := T) hx hb hr (fun t9 ht9 hW9 => ⟨_, rfl, Or.inr ⟨hs_bit31 (fun a ha => by cases hn : nx a with | none => exact absurd hn ha | some z => exact ((hH.2 a (hH.1 a ha).1 (hH.1 a ha).2).2 z hn).2.2.2.2) hT (fun a ha => hs_cell (hc_walk_done (hXE) hpl) ha), pre, hc_walk_done hXE hpl, hT⟩, ht9⟩) (fun _ h => nomatch h) dX2_takenByList_119
        · refine lv_aload_n hx hb dX2_takenByList_42 rfl (lv_at hl 4 rfl) ?_
          refine lv_iload hx hb dX2_takenByList_43 (lv_at hl 1 rfl) ?_
          refine hw_csi (va_runV (C := RX2) (b := g) (As := [.int (nI x)]) (rest := []) ⟨hx, hb, hml, hown, htg⟩ (k_X2_hasCell l D cI cZ cJ x G EN LG BI nx lg bi fl g q0 q1 q2 q3 (by omega) hG hH) (cwV 1 htg (hg_V hm_174 hm_158 hm_159 hm_3 hm_160) rfl rfl rfl (by decide +kernel) ⟨Nat.le_of_ble_eq_true rfl, Nat.le_of_ble_eq_true rfl⟩) ⟨hp_R_blind, va_recv (q := (RX2, TX2, 6)) (q0 := 0) (ci := 2) hK hP rfl rfl, hp_R_pre (hP.sub (ws' := [(g, .inr (2, [.ref q0, .int (nI G), .ref q1, .ref q2, .ref q3, .int fl])), (q1, .inl (cI, G + 1, .inl EN))]) [0, 1] rfl) hz⟩ rfl rfl hl.1 rfl (lv_room (Nat.le_of_ble_eq_true rfl)) dX2_takenByList_45 ⟨Nat.zero_le _, Nat.zero_le _⟩) (fun r hq => ?_)
          rcases hq with ⟨rfl, hq⟩ | ⟨rfl, hq⟩
          · refine lv_if_ne hx hb dX2_takenByList_48 rfl (fun hc => ?_) (fun hc => absurd hc (by decide))
            obtain ⟨z, hz9⟩ : ∃ z, nx x = some z := by cases hn : nx x with | none => exact absurd hn hq | some z => exact ⟨z, rfl⟩
            have hxx := hH.1 x hq
            obtain ⟨j1, j2, j3, j4, j5⟩ := (hH.2 x hxx.1 hxx.2).2 z hz9
            refine lv_iload_n hx hb dX2_takenByList_53 rfl (lv_at hl 3 rfl) ?_
            refine hw_ifeq_b hx hb dX2_takenByList_54 rfl (fun hf1 => ?_) (fun hf1 => ?_)
            · refine lv_iload hx hb dX2_takenByList_80 (lv_at hl 2 rfl) ?_
              refine lv_aload_n hx hb dX2_takenByList_82 rfl (lv_at hl 4 rfl) ?_
              refine va_get (D := D) (ci := 2) (v := .ref q3) (C := RX2) (T := TX2) (N := 6) hx hb htg hi_X2 hown hK hP 0 rfl rfl 4 (by decide) (htg _ hm_80) (fun _ h9 => h9) rfl dX2_takenByList_83 ?_
              refine lv_iload hx hb dX2_takenByList_86 (lv_at hl 1 rfl) ?_
              refine hw_iald hx hb hK hP 3 0 rfl rfl (j := x) (by omega) (by first | decide | omega) (v := (1 : Int32) <<< (nI (bi x) &&& 31)) (j4) dX2_takenByList_88 ?_
              refine lv_ior hx hb dX2_takenByList_89 ?_
              refine lv_istore hx hb dX2_takenByList_90 hl (by decide) rfl (fun ls hl => ?_)
              replace hl : lv_has ls 7 [(4, .int (T ||| ((1 : Int32) <<< (nI (bi x) &&& 31)))), (6, .int (nI k9)), (5, .int (nI x)), (3, .int (hc_b lo)), (0, .ref g), (1, .int (nI st)), (2, .int (nI en))] := hl
              refine lv_aload_n hx hb dX2_takenByList_92 rfl (lv_at hl 4 rfl) ?_
              refine va_get (D := D) (ci := 2) (v := .ref q1) (C := RX2) (T := TX2) (N := 6) hx hb htg hi_X2 hown hK hP 0 rfl rfl 2 (by decide) (htg _ hm_77) (fun _ h9 => h9) rfl dX2_takenByList_93 ?_
              refine lv_iload hx hb dX2_takenByList_96 (lv_at hl 2 rfl) ?_
              refine hw_iald hx hb hK hP 1 0 rfl rfl (j := x) (by omega) (by first | decide | omega) (v := nI z) (j2) dX2_takenByList_98 ?_
              refine lv_istore hx hb dX2_takenByList_99 hl (by decide) rfl (fun ls hl => ?_)
              replace hl : lv_has ls 7 [(5, .int (nI z)), (4, .int (T ||| ((1 : Int32) <<< (nI (bi x) &&& 31)))), (6, .int (nI k9)), (3, .int (hc_b lo)), (0, .ref g), (1, .int (nI st)), (2, .int (nI en))] := hl
              refine lv_iinc (v := nI (k9 + 1)) (k := 2) hx hb dX2_takenByList_101 hl rfl (hw_inc _) (by decide) rfl (fun ls hl => ?_)
              replace hl : lv_has ls 7 [(6, .int (nI (k9 + 1))), (5, .int (nI z)), (4, .int (T ||| ((1 : Int32) <<< (nI (bi x) &&& 31)))), (3, .int (hc_b lo)), (0, .ref g), (1, .int (nI st)), (2, .int (nI en))] := hl
              refine lv_goto hx hb dX2_takenByList_104 rfl ?_
              refine ih (hl := hl) (hx9 := j1) (hPP := (hc_PP_snoc hc7 hz9 _ _ hPP)) (hlen := (by rw [List.length_append, hlen]; rfl)) (hT := (fun j hj => ?_)) (hpl := (fun hlo9 a ha hla => ?_)) (hk9 := (by omega)) (hk := (by omega))
              · rw [b_or, Bool.or_eq_true, hT j hj, hb_1 (bi x) (by omega) j hj, decide_eq_true_eq]
                constructor
                · rintro (⟨a, h1, h2⟩ | h1)
                  · exact ⟨a, List.mem_append.mpr (Or.inl h1), h2⟩
                  · exact ⟨x, List.mem_append.mpr (Or.inr List.mem_cons_self), h1.symm⟩
                · rintro ⟨a, h1, h2⟩
                  rcases List.mem_append.mp h1 with h1 | h1
                  · exact Or.inl ⟨a, h1, h2⟩
                  · exact Or.inr (by rw [← h2, List.mem_singleton.mp h1])
              · rcases List.mem_append.mp ha with ha | ha
                · exact hpl hlo9 a ha hla
                · rw [List.mem_singleton.mp ha] at hla ⊢
                  exact absurd (hlo.1.mpr hlo9) (by rw [hf1]; decide)
            · refine lv_aload_n hx hb dX2_takenByList_57 rfl (lv_at hl 4 rfl) ?_
              refine va_get (D := D) (ci := 2) (v := .ref q2) (C := RX2) (T := TX2) (N := 6) hx hb htg hi_X2 hown hK hP 0 rfl rfl 3 (by decide) (htg _ hm_79) (fun _ h9 => h9) rfl dX2_takenByList_58 ?_
              refine lv_iload hx hb dX2_takenByList_61 (lv_at hl 1 rfl) ?_
              refine hw_zald hx hb hK hP 2 1 rfl rfl (j := x) (by omega) (by first | decide | omega) (v := hc_b (lg x)) (j3) dX2_takenByList_63 ?_
              refine hw_ifeq_b hx hb dX2_takenByList_64 rfl (fun hf2 => ?_) (fun hf2 => ?_)
              · refine lv_iload hx hb dX2_takenByList_80 (lv_at hl 2 rfl) ?_
                refine lv_aload_n hx hb dX2_takenByList_82 rfl (lv_at hl 4 rfl) ?_
                refine va_get (D := D) (ci := 2) (v := .ref q3) (C := RX2) (T := TX2) (N := 6) hx hb htg hi_X2 hown hK hP 0 rfl rfl 4 (by decide) (htg _ hm_80) (fun _ h9 => h9) rfl dX2_takenByList_83 ?_
                refine lv_iload hx hb dX2_takenByList_86 (lv_at hl 1 rfl) ?_
                refine hw_iald hx hb hK hP 3 0 rfl rfl (j := x) (by omega) (by first | decide | omega) (v := (1 : Int32) <<< (nI (bi x) &&& 31)) (j4) dX2_takenByList_88 ?_
                refine lv_ior hx hb dX2_takenByList_89 ?_
                refine lv_istore hx hb dX2_takenByList_90 hl (by decide) rfl (fun ls hl => ?_)
                replace hl : lv_has ls 7 [(4, .int (T ||| ((1 : Int32) <<< (nI (bi x) &&& 31)))), (6, .int (nI k9)), (5, .int (nI x)), (3, .int (hc_b lo)), (0, .ref g), (1, .int (nI st)), (2, .int (nI en))] := hl
                refine lv_aload_n hx hb dX2_takenByList_92 rfl (lv_at hl 4 rfl) ?_
                refine va_get (D := D) (ci := 2) (v := .ref q1) (C := RX2) (T := TX2) (N := 6) hx hb htg hi_X2 hown hK hP 0 rfl rfl 2 (by decide) (htg _ hm_77) (fun _ h9 => h9) rfl dX2_takenByList_93 ?_
                refine lv_iload hx hb dX2_takenByList_96 (lv_at hl 2 rfl) ?_
                refine hw_iald hx hb hK hP 1 0 rfl rfl (j := x) (by omega) (by first | decide | omega) (v := nI z) (j2) dX2_takenByList_98 ?_
                refine lv_istore hx hb dX2_takenByList_99 hl (by decide) rfl (fun ls hl => ?_)
                replace hl : lv_has ls 7 [(5, .int (nI z)), (4, .int (T ||| ((1 : Int32) <<< (nI (bi x) &&& 31)))), (6, .int (nI k9)), (3, .int (hc_b lo)), (0, .ref g), (1, .int (nI st)), (2, .int (nI en))] := hl
                refine lv_iinc (v := nI (k9 + 1)) (k := 2) hx hb dX2_takenByList_101 hl rfl (hw_inc _) (by decide) rfl (fun ls hl => ?_)
                replace hl : lv_has ls 7 [(6, .int (nI (k9 + 1))), (5, .int (nI z)), (4, .int (T ||| ((1 : Int32) <<< (nI (bi x) &&& 31)))), (3, .int (hc_b lo)), (0, .ref g), (1, .int (nI st)), (2, .int (nI en))] := hl
                refine lv_goto hx hb dX2_takenByList_104 rfl ?_
                refine ih (hl := hl) (hx9 := j1) (hPP := (hc_PP_snoc hc7 hz9 _ _ hPP)) (hlen := (by rw [List.length_append, hlen]; rfl)) (hT := (fun j hj => ?_)) (hpl := (fun hlo9 a ha hla => ?_)) (hk9 := (by omega)) (hk := (by omega))
                · rw [b_or, Bool.or_eq_true, hT j hj, hb_1 (bi x) (by omega) j hj, decide_eq_true_eq]
                  constructor
                  · rintro (⟨a, h1, h2⟩ | h1)
                    · exact ⟨a, List.mem_append.mpr (Or.inl h1), h2⟩
                    · exact ⟨x, List.mem_append.mpr (Or.inr List.mem_cons_self), h1.symm⟩
                  · rintro ⟨a, h1, h2⟩
                    rcases List.mem_append.mp h1 with h1 | h1
                    · exact Or.inl ⟨a, h1, h2⟩
                    · exact Or.inr (by rw [← h2, List.mem_singleton.mp h1])
                · rcases List.mem_append.mp ha with ha | ha
                  · exact hpl hlo9 a ha hla
                  · rw [List.mem_singleton.mp ha] at hla ⊢
                    rw [hf2] at hla; cases hla
              · refine lv_aload_n hx hb dX2_takenByList_67 rfl (lv_at hl 4 rfl) ?_
                refine va_get (D := D) (ci := 2) (v := .ref q1) (C := RX2) (T := TX2) (N := 6) hx hb htg hi_X2 hown hK hP 0 rfl rfl 2 (by decide) (htg _ hm_77) (fun _ h9 => h9) rfl dX2_takenByList_68 ?_
                refine lv_iload hx hb dX2_takenByList_71 (lv_at hl 1 rfl) ?_
                refine hw_iald hx hb hK hP 1 0 rfl rfl (j := x) (by omega) (by first | decide | omega) (v := nI z) (j2) dX2_takenByList_73 ?_
                refine lv_iload_n hx hb dX2_takenByList_74 rfl (lv_at hl 6 rfl) ?_
                refine hw_icmp_eq hx hb (by omega) (by omega) dX2_takenByList_75 rfl (fun hf3 => ?_) (fun hf3 => ?_)
                · refine lv_iload hx hb dX2_takenByList_80 (lv_at hl 2 rfl) ?_
                  refine lv_aload_n hx hb dX2_takenByList_82 rfl (lv_at hl 4 rfl) ?_
                  refine va_get (D := D) (ci := 2) (v := .ref q3) (C := RX2) (T := TX2) (N := 6) hx hb htg hi_X2 hown hK hP 0 rfl rfl 4 (by decide) (htg _ hm_80) (fun _ h9 => h9) rfl dX2_takenByList_83 ?_
                  refine lv_iload hx hb dX2_takenByList_86 (lv_at hl 1 rfl) ?_
                  refine hw_iald hx hb hK hP 3 0 rfl rfl (j := x) (by omega) (by first | decide | omega) (v := (1 : Int32) <<< (nI (bi x) &&& 31)) (j4) dX2_takenByList_88 ?_
                  refine lv_ior hx hb dX2_takenByList_89 ?_
                  refine lv_istore hx hb dX2_takenByList_90 hl (by decide) rfl (fun ls hl => ?_)
                  replace hl : lv_has ls 7 [(4, .int (T ||| ((1 : Int32) <<< (nI (bi x) &&& 31)))), (6, .int (nI k9)), (5, .int (nI x)), (3, .int (hc_b lo)), (0, .ref g), (1, .int (nI st)), (2, .int (nI en))] := hl
                  refine lv_aload_n hx hb dX2_takenByList_92 rfl (lv_at hl 4 rfl) ?_
                  refine va_get (D := D) (ci := 2) (v := .ref q1) (C := RX2) (T := TX2) (N := 6) hx hb htg hi_X2 hown hK hP 0 rfl rfl 2 (by decide) (htg _ hm_77) (fun _ h9 => h9) rfl dX2_takenByList_93 ?_
                  refine lv_iload hx hb dX2_takenByList_96 (lv_at hl 2 rfl) ?_
                  refine hw_iald hx hb hK hP 1 0 rfl rfl (j := x) (by omega) (by first | decide | omega) (v := nI z) (j2) dX2_takenByList_98 ?_
                  refine lv_istore hx hb dX2_takenByList_99 hl (by decide) rfl (fun ls hl => ?_)
                  replace hl : lv_has ls 7 [(5, .int (nI z)), (4, .int (T ||| ((1 : Int32) <<< (nI (bi x) &&& 31)))), (6, .int (nI k9)), (3, .int (hc_b lo)), (0, .ref g), (1, .int (nI st)), (2, .int (nI en))] := hl
                  refine lv_iinc (v := nI (k9 + 1)) (k := 2) hx hb dX2_takenByList_101 hl rfl (hw_inc _) (by decide) rfl (fun ls hl => ?_)
                  replace hl : lv_has ls 7 [(6, .int (nI (k9 + 1))), (5, .int (nI z)), (4, .int (T ||| ((1 : Int32) <<< (nI (bi x) &&& 31)))), (3, .int (hc_b lo)), (0, .ref g), (1, .int (nI st)), (2, .int (nI en))] := hl
                  refine lv_goto hx hb dX2_takenByList_104 rfl ?_
                  refine ih (hl := hl) (hx9 := j1) (hPP := (hc_PP_snoc hc7 hz9 _ _ hPP)) (hlen := (by rw [List.length_append, hlen]; rfl)) (hT := (fun j hj => ?_)) (hpl := (fun hlo9 a ha hla => ?_)) (hk9 := (by omega)) (hk := (by omega))
                  · rw [b_or, Bool.or_eq_true, hT j hj, hb_1 (bi x) (by omega) j hj, decide_eq_true_eq]
                    constructor
                    · rintro (⟨a, h1, h2⟩ | h1)
                      · exact ⟨a, List.mem_append.mpr (Or.inl h1), h2⟩
                      · exact ⟨x, List.mem_append.mpr (Or.inr List.mem_cons_self), h1.symm⟩
                    · rintro ⟨a, h1, h2⟩
                      rcases List.mem_append.mp h1 with h1 | h1
                      · exact Or.inl ⟨a, h1, h2⟩
                      · exact Or.inr (by rw [← h2, List.mem_singleton.mp h1])
                  · rcases List.mem_append.mp ha with ha | ha
                    · exact hpl hlo9 a ha hla
                    · rw [List.mem_singleton.mp ha] at hla ⊢
                      rw [hz9, hf3]
                · refine lv_iconst (v := (-1)) hx hb dX2_takenByList_78 (by decide) ?_
                  exact W.iret (v := -1) hx hb hr (fun t9 ht9 hW9 => ⟨_, rfl, Or.inl ⟨rfl, hc_walk_loose hPP hc7 (hlo.1.mp hf1) hf2 (fun q => hf3 (by rw [hz9] at q; injection q))⟩, ht9⟩) (fun _ h => nomatch h) dX2_takenByList_79
          · refine lv_if_ne hx hb dX2_takenByList_48 rfl (fun hc => absurd rfl hc) (fun hc => ?_)
            refine lv_iconst (v := (-1)) hx hb dX2_takenByList_51 (by decide) ?_
            have hq9 : nx x = none := Classical.not_not.mp hq
            exact W.iret (v := -1) hx hb hr (fun t9 ht9 hW9 => ⟨_, rfl, Or.inl ⟨rfl, hc_walk_none hPP hc7 hq9⟩, ht9⟩) (fun _ h => nomatch h) dX2_takenByList_52
    · refine lv_if_ne hx hb dX2_takenByList_9 rfl (fun hc => absurd rfl hc) (fun hc => ?_)
      refine lv_iconst (v := nI 1) hx hb dX2_takenByList_12 (by decide) ?_
      refine lv_goto hx hb dX2_takenByList_13 rfl ?_
      obtain ⟨lo, hlo⟩ : ∃ lo : Bool, (lo = true ↔ hc_lo nx 0 en) ∧ lo = true := ⟨true, ⟨fun _ => ⟨he9, Classical.not_not.mp hq⟩, fun _ => rfl⟩, rfl⟩
      have hflag : nI 1 = hc_b lo := by rw [hlo.2]; rfl
      rw [hflag]
      refine lv_istore_n hx hb dX2_takenByList_17 rfl hl (by decide) rfl (fun ls hl => ?_)
      replace hl : lv_has ls 7 [(3, .int (hc_b lo)), (0, .ref g), (1, .int (nI st)), (2, .int (nI en))] := hl
      refine lv_iconst (v := nI 0) hx hb dX2_takenByList_18 (by decide) ?_
      refine lv_istore hx hb dX2_takenByList_19 hl (by decide) rfl (fun ls hl => ?_)
      replace hl : lv_has ls 7 [(4, .int (nI 0)), (3, .int (hc_b lo)), (0, .ref g), (1, .int (nI st)), (2, .int (nI en))] := hl
      refine lv_iload_n hx hb dX2_takenByList_21 rfl (lv_at hl 3 rfl) ?_
      refine lv_istore hx hb dX2_takenByList_22 hl (by decide) rfl (fun ls hl => ?_)
      replace hl : lv_has ls 7 [(5, .int (nI st)), (4, .int (nI 0)), (3, .int (hc_b lo)), (0, .ref g), (1, .int (nI st)), (2, .int (nI en))] := hl
      refine lv_iconst (v := nI 0) hx hb dX2_takenByList_24 (by decide) ?_
      refine lv_istore hx hb dX2_takenByList_25 hl (by decide) rfl (fun ls hl => ?_)
      replace hl : lv_has ls 7 [(6, .int (nI 0)), (5, .int (nI st)), (4, .int (nI 0)), (3, .int (hc_b lo)), (0, .ref g), (1, .int (nI st)), (2, .int (nI en))] := hl
      obtain ⟨k9, e_k9⟩ : ∃ z : Nat, z = 0 := ⟨_, rfl⟩
      obtain ⟨x, e_x⟩ : ∃ z : Nat, z = st := ⟨_, rfl⟩
      obtain ⟨T, e_T⟩ : ∃ z : Int32, z = nI 0 := ⟨_, rfl⟩
      obtain ⟨pre, e_pre⟩ : ∃ z : List Nat, z = ([] : List Nat) := ⟨_, rfl⟩
      replace hl : lv_has ls 7 [(6, .int (nI k9)), (5, .int (nI x)), (4, .int T), (3, .int (hc_b lo)), (0, .ref g), (1, .int (nI st)), (2, .int (nI en))] := by subst e_k9 e_x e_T e_pre; exact hl
      have hx9 : x ≤ G := by subst e_k9 e_x e_T e_pre; exact hst
      have hPP : hc_PP nx en x pre st := by subst e_k9 e_x e_T e_pre; exact rfl
      have hlen : pre.length = k9 := by subst e_k9 e_x e_T e_pre; rfl
      have hT : ∀ j, j < 32 → (bt T j = true ↔ ∃ a, a ∈ pre ∧ bi a = j) := by subst e_k9 e_x e_T e_pre; exact fun j hj => by rw [hb_nI 0 hj]; simp
      have hpl : hc_lo nx 0 en → ∀ a, a ∈ pre → lg a = true → nx a = some en := by subst e_k9 e_x e_T e_pre; exact fun _ a ha => absurd ha List.not_mem_nil
      have hk9 : k9 ≤ G := by subst e_k9 e_x e_T e_pre; exact Nat.zero_le _
      clear e_k9 e_x e_T e_pre
      obtain ⟨k, hk⟩ : ∃ k : Nat, k = G - k9 := ⟨_, rfl⟩
      induction k generalizing k9 x T pre ls  with
      | zero =>
        refine lv_iload hx hb dX2_takenByList_27 (lv_at hl 0 rfl) ?_
        refine lv_aload_n hx hb dX2_takenByList_29 rfl (lv_at hl 4 rfl) ?_
        refine va_get (D := D) (ci := 2) (v := .int (nI G)) (C := RX2) (T := TX2) (N := 6) hx hb htg hi_X2 hown hK hP 0 rfl rfl 1 (by decide) (htg _ hm_76) (fun _ h9 => h9) rfl dX2_takenByList_30 ?_
        refine hw_icmp_ge hx hb (by omega) (by omega) dX2_takenByList_33 rfl (fun hc => ?_) (fun hc => absurd hc (by omega))
        refine lv_iload hx hb dX2_takenByList_107 (lv_at hl 1 rfl) ?_
        refine lv_iload_n hx hb dX2_takenByList_109 rfl (lv_at hl 6 rfl) ?_
        refine hw_icmp_ne hx hb (by omega) (by omega) dX2_takenByList_110 rfl (fun hc7 => ?_) (fun hc7 => ?_)
        · refine lv_iconst (v := (-1)) hx hb dX2_takenByList_118 (by decide) ?_
          exact W.iret (v := -1) hx hb hr (fun t9 ht9 hW9 => ⟨_, rfl, Or.inl ⟨rfl, hc_walk_long hH.1 hPP hc7 (by omega)⟩, ht9⟩) (fun _ h => nomatch h) dX2_takenByList_119
        · have hXE : hc_PP nx en en pre st := by rw [hc7] at hPP; exact hPP
          refine lv_iload hx hb dX2_takenByList_113 (lv_at hl 2 rfl) ?_
          refine lv_goto hx hb dX2_takenByList_115 rfl ?_
          exact W.iret (v := T) hx hb hr (fun t9 ht9 hW9 => ⟨_, rfl, Or.inr ⟨hs_bit31 (fun a ha => by cases hn : nx a with | none => exact absurd hn ha | some z => exact ((hH.2 a (hH.1 a ha).1 (hH.1 a ha).2).2 z hn).2.2.2.2) hT (fun a ha => hs_cell (hc_walk_done (hXE) hpl) ha), pre, hc_walk_done hXE hpl, hT⟩, ht9⟩) (fun _ h => nomatch h) dX2_takenByList_119
      | succ k ih =>
        refine lv_iload hx hb dX2_takenByList_27 (lv_at hl 0 rfl) ?_
        refine lv_aload_n hx hb dX2_takenByList_29 rfl (lv_at hl 4 rfl) ?_
        refine va_get (D := D) (ci := 2) (v := .int (nI G)) (C := RX2) (T := TX2) (N := 6) hx hb htg hi_X2 hown hK hP 0 rfl rfl 1 (by decide) (htg _ hm_76) (fun _ h9 => h9) rfl dX2_takenByList_30 ?_
        refine hw_icmp_ge hx hb (by omega) (by omega) dX2_takenByList_33 rfl (fun hc => absurd hc (by omega)) (fun hc => ?_)
        refine lv_iload hx hb dX2_takenByList_36 (lv_at hl 1 rfl) ?_
        refine lv_iload_n hx hb dX2_takenByList_38 rfl (lv_at hl 6 rfl) ?_
        refine hw_icmp_eq hx hb (by omega) (by omega) dX2_takenByList_39 rfl (fun hc7 => ?_) (fun hc7 => ?_)
        · refine lv_iload hx hb dX2_takenByList_107 (lv_at hl 1 rfl) ?_
          refine lv_iload_n hx hb dX2_takenByList_109 rfl (lv_at hl 6 rfl) ?_
          refine hw_icmp_ne hx hb (by omega) (by omega) dX2_takenByList_110 rfl (fun hc => absurd hc7 hc) (fun hc => ?_)
          have hXE : hc_PP nx en en pre st := by rw [hc7] at hPP; exact hPP
          refine lv_iload hx hb dX2_takenByList_113 (lv_at hl 2 rfl) ?_
          refine lv_goto hx hb dX2_takenByList_115 rfl ?_
          exact W.iret (v := T) hx hb hr (fun t9 ht9 hW9 => ⟨_, rfl, Or.inr ⟨hs_bit31 (fun a ha => by cases hn : nx a with | none => exact absurd hn ha | some z => exact ((hH.2 a (hH.1 a ha).1 (hH.1 a ha).2).2 z hn).2.2.2.2) hT (fun a ha => hs_cell (hc_walk_done (hXE) hpl) ha), pre, hc_walk_done hXE hpl, hT⟩, ht9⟩) (fun _ h => nomatch h) dX2_takenByList_119
        · refine lv_aload_n hx hb dX2_takenByList_42 rfl (lv_at hl 4 rfl) ?_
          refine lv_iload hx hb dX2_takenByList_43 (lv_at hl 1 rfl) ?_
          refine hw_csi (va_runV (C := RX2) (b := g) (As := [.int (nI x)]) (rest := []) ⟨hx, hb, hml, hown, htg⟩ (k_X2_hasCell l D cI cZ cJ x G EN LG BI nx lg bi fl g q0 q1 q2 q3 (by omega) hG hH) (cwV 1 htg (hg_V hm_174 hm_158 hm_159 hm_3 hm_160) rfl rfl rfl (by decide +kernel) ⟨Nat.le_of_ble_eq_true rfl, Nat.le_of_ble_eq_true rfl⟩) ⟨hp_R_blind, va_recv (q := (RX2, TX2, 6)) (q0 := 0) (ci := 2) hK hP rfl rfl, hp_R_pre (hP.sub (ws' := [(g, .inr (2, [.ref q0, .int (nI G), .ref q1, .ref q2, .ref q3, .int fl])), (q1, .inl (cI, G + 1, .inl EN))]) [0, 1] rfl) hz⟩ rfl rfl hl.1 rfl (lv_room (Nat.le_of_ble_eq_true rfl)) dX2_takenByList_45 ⟨Nat.zero_le _, Nat.zero_le _⟩) (fun r hq => ?_)
          rcases hq with ⟨rfl, hq⟩ | ⟨rfl, hq⟩
          · refine lv_if_ne hx hb dX2_takenByList_48 rfl (fun hc => ?_) (fun hc => absurd hc (by decide))
            obtain ⟨z, hz9⟩ : ∃ z, nx x = some z := by cases hn : nx x with | none => exact absurd hn hq | some z => exact ⟨z, rfl⟩
            have hxx := hH.1 x hq
            obtain ⟨j1, j2, j3, j4, j5⟩ := (hH.2 x hxx.1 hxx.2).2 z hz9
            refine lv_iload_n hx hb dX2_takenByList_53 rfl (lv_at hl 3 rfl) ?_
            refine hw_ifeq_b hx hb dX2_takenByList_54 rfl (fun hf1 => ?_) (fun hf1 => ?_)
            · refine lv_iload hx hb dX2_takenByList_80 (lv_at hl 2 rfl) ?_
              refine lv_aload_n hx hb dX2_takenByList_82 rfl (lv_at hl 4 rfl) ?_
              refine va_get (D := D) (ci := 2) (v := .ref q3) (C := RX2) (T := TX2) (N := 6) hx hb htg hi_X2 hown hK hP 0 rfl rfl 4 (by decide) (htg _ hm_80) (fun _ h9 => h9) rfl dX2_takenByList_83 ?_
              refine lv_iload hx hb dX2_takenByList_86 (lv_at hl 1 rfl) ?_
              refine hw_iald hx hb hK hP 3 0 rfl rfl (j := x) (by omega) (by first | decide | omega) (v := (1 : Int32) <<< (nI (bi x) &&& 31)) (j4) dX2_takenByList_88 ?_
              refine lv_ior hx hb dX2_takenByList_89 ?_
              refine lv_istore hx hb dX2_takenByList_90 hl (by decide) rfl (fun ls hl => ?_)
              replace hl : lv_has ls 7 [(4, .int (T ||| ((1 : Int32) <<< (nI (bi x) &&& 31)))), (6, .int (nI k9)), (5, .int (nI x)), (3, .int (hc_b lo)), (0, .ref g), (1, .int (nI st)), (2, .int (nI en))] := hl
              refine lv_aload_n hx hb dX2_takenByList_92 rfl (lv_at hl 4 rfl) ?_
              refine va_get (D := D) (ci := 2) (v := .ref q1) (C := RX2) (T := TX2) (N := 6) hx hb htg hi_X2 hown hK hP 0 rfl rfl 2 (by decide) (htg _ hm_77) (fun _ h9 => h9) rfl dX2_takenByList_93 ?_
              refine lv_iload hx hb dX2_takenByList_96 (lv_at hl 2 rfl) ?_
              refine hw_iald hx hb hK hP 1 0 rfl rfl (j := x) (by omega) (by first | decide | omega) (v := nI z) (j2) dX2_takenByList_98 ?_
              refine lv_istore hx hb dX2_takenByList_99 hl (by decide) rfl (fun ls hl => ?_)
              replace hl : lv_has ls 7 [(5, .int (nI z)), (4, .int (T ||| ((1 : Int32) <<< (nI (bi x) &&& 31)))), (6, .int (nI k9)), (3, .int (hc_b lo)), (0, .ref g), (1, .int (nI st)), (2, .int (nI en))] := hl
              refine lv_iinc (v := nI (k9 + 1)) (k := 2) hx hb dX2_takenByList_101 hl rfl (hw_inc _) (by decide) rfl (fun ls hl => ?_)
              replace hl : lv_has ls 7 [(6, .int (nI (k9 + 1))), (5, .int (nI z)), (4, .int (T ||| ((1 : Int32) <<< (nI (bi x) &&& 31)))), (3, .int (hc_b lo)), (0, .ref g), (1, .int (nI st)), (2, .int (nI en))] := hl
              refine lv_goto hx hb dX2_takenByList_104 rfl ?_
              refine ih (hl := hl) (hx9 := j1) (hPP := (hc_PP_snoc hc7 hz9 _ _ hPP)) (hlen := (by rw [List.length_append, hlen]; rfl)) (hT := (fun j hj => ?_)) (hpl := (fun hlo9 a ha hla => ?_)) (hk9 := (by omega)) (hk := (by omega))
              · rw [b_or, Bool.or_eq_true, hT j hj, hb_1 (bi x) (by omega) j hj, decide_eq_true_eq]
                constructor
                · rintro (⟨a, h1, h2⟩ | h1)
                  · exact ⟨a, List.mem_append.mpr (Or.inl h1), h2⟩
                  · exact ⟨x, List.mem_append.mpr (Or.inr List.mem_cons_self), h1.symm⟩
                · rintro ⟨a, h1, h2⟩
                  rcases List.mem_append.mp h1 with h1 | h1
                  · exact Or.inl ⟨a, h1, h2⟩
                  · exact Or.inr (by rw [← h2, List.mem_singleton.mp h1])
              · rcases List.mem_append.mp ha with ha | ha
                · exact hpl hlo9 a ha hla
                · rw [List.mem_singleton.mp ha] at hla ⊢
                  exact absurd (hlo.1.mpr hlo9) (by rw [hf1]; decide)
            · refine lv_aload_n hx hb dX2_takenByList_57 rfl (lv_at hl 4 rfl) ?_
              refine va_get (D := D) (ci := 2) (v := .ref q2) (C := RX2) (T := TX2) (N := 6) hx hb htg hi_X2 hown hK hP 0 rfl rfl 3 (by decide) (htg _ hm_79) (fun _ h9 => h9) rfl dX2_takenByList_58 ?_
              refine lv_iload hx hb dX2_takenByList_61 (lv_at hl 1 rfl) ?_
              refine hw_zald hx hb hK hP 2 1 rfl rfl (j := x) (by omega) (by first | decide | omega) (v := hc_b (lg x)) (j3) dX2_takenByList_63 ?_
              refine hw_ifeq_b hx hb dX2_takenByList_64 rfl (fun hf2 => ?_) (fun hf2 => ?_)
              · refine lv_iload hx hb dX2_takenByList_80 (lv_at hl 2 rfl) ?_
                refine lv_aload_n hx hb dX2_takenByList_82 rfl (lv_at hl 4 rfl) ?_
                refine va_get (D := D) (ci := 2) (v := .ref q3) (C := RX2) (T := TX2) (N := 6) hx hb htg hi_X2 hown hK hP 0 rfl rfl 4 (by decide) (htg _ hm_80) (fun _ h9 => h9) rfl dX2_takenByList_83 ?_
                refine lv_iload hx hb dX2_takenByList_86 (lv_at hl 1 rfl) ?_
                refine hw_iald hx hb hK hP 3 0 rfl rfl (j := x) (by omega) (by first | decide | omega) (v := (1 : Int32) <<< (nI (bi x) &&& 31)) (j4) dX2_takenByList_88 ?_
                refine lv_ior hx hb dX2_takenByList_89 ?_
                refine lv_istore hx hb dX2_takenByList_90 hl (by decide) rfl (fun ls hl => ?_)
                replace hl : lv_has ls 7 [(4, .int (T ||| ((1 : Int32) <<< (nI (bi x) &&& 31)))), (6, .int (nI k9)), (5, .int (nI x)), (3, .int (hc_b lo)), (0, .ref g), (1, .int (nI st)), (2, .int (nI en))] := hl
                refine lv_aload_n hx hb dX2_takenByList_92 rfl (lv_at hl 4 rfl) ?_
                refine va_get (D := D) (ci := 2) (v := .ref q1) (C := RX2) (T := TX2) (N := 6) hx hb htg hi_X2 hown hK hP 0 rfl rfl 2 (by decide) (htg _ hm_77) (fun _ h9 => h9) rfl dX2_takenByList_93 ?_
                refine lv_iload hx hb dX2_takenByList_96 (lv_at hl 2 rfl) ?_
                refine hw_iald hx hb hK hP 1 0 rfl rfl (j := x) (by omega) (by first | decide | omega) (v := nI z) (j2) dX2_takenByList_98 ?_
                refine lv_istore hx hb dX2_takenByList_99 hl (by decide) rfl (fun ls hl => ?_)
                replace hl : lv_has ls 7 [(5, .int (nI z)), (4, .int (T ||| ((1 : Int32) <<< (nI (bi x) &&& 31)))), (6, .int (nI k9)), (3, .int (hc_b lo)), (0, .ref g), (1, .int (nI st)), (2, .int (nI en))] := hl
                refine lv_iinc (v := nI (k9 + 1)) (k := 2) hx hb dX2_takenByList_101 hl rfl (hw_inc _) (by decide) rfl (fun ls hl => ?_)
                replace hl : lv_has ls 7 [(6, .int (nI (k9 + 1))), (5, .int (nI z)), (4, .int (T ||| ((1 : Int32) <<< (nI (bi x) &&& 31)))), (3, .int (hc_b lo)), (0, .ref g), (1, .int (nI st)), (2, .int (nI en))] := hl
                refine lv_goto hx hb dX2_takenByList_104 rfl ?_
                refine ih (hl := hl) (hx9 := j1) (hPP := (hc_PP_snoc hc7 hz9 _ _ hPP)) (hlen := (by rw [List.length_append, hlen]; rfl)) (hT := (fun j hj => ?_)) (hpl := (fun hlo9 a ha hla => ?_)) (hk9 := (by omega)) (hk := (by omega))
                · rw [b_or, Bool.or_eq_true, hT j hj, hb_1 (bi x) (by omega) j hj, decide_eq_true_eq]
                  constructor
                  · rintro (⟨a, h1, h2⟩ | h1)
                    · exact ⟨a, List.mem_append.mpr (Or.inl h1), h2⟩
                    · exact ⟨x, List.mem_append.mpr (Or.inr List.mem_cons_self), h1.symm⟩
                  · rintro ⟨a, h1, h2⟩
                    rcases List.mem_append.mp h1 with h1 | h1
                    · exact Or.inl ⟨a, h1, h2⟩
                    · exact Or.inr (by rw [← h2, List.mem_singleton.mp h1])
                · rcases List.mem_append.mp ha with ha | ha
                  · exact hpl hlo9 a ha hla
                  · rw [List.mem_singleton.mp ha] at hla ⊢
                    rw [hf2] at hla; cases hla
              · refine lv_aload_n hx hb dX2_takenByList_67 rfl (lv_at hl 4 rfl) ?_
                refine va_get (D := D) (ci := 2) (v := .ref q1) (C := RX2) (T := TX2) (N := 6) hx hb htg hi_X2 hown hK hP 0 rfl rfl 2 (by decide) (htg _ hm_77) (fun _ h9 => h9) rfl dX2_takenByList_68 ?_
                refine lv_iload hx hb dX2_takenByList_71 (lv_at hl 1 rfl) ?_
                refine hw_iald hx hb hK hP 1 0 rfl rfl (j := x) (by omega) (by first | decide | omega) (v := nI z) (j2) dX2_takenByList_73 ?_
                refine lv_iload_n hx hb dX2_takenByList_74 rfl (lv_at hl 6 rfl) ?_
                refine hw_icmp_eq hx hb (by omega) (by omega) dX2_takenByList_75 rfl (fun hf3 => ?_) (fun hf3 => ?_)
                · refine lv_iload hx hb dX2_takenByList_80 (lv_at hl 2 rfl) ?_
                  refine lv_aload_n hx hb dX2_takenByList_82 rfl (lv_at hl 4 rfl) ?_
                  refine va_get (D := D) (ci := 2) (v := .ref q3) (C := RX2) (T := TX2) (N := 6) hx hb htg hi_X2 hown hK hP 0 rfl rfl 4 (by decide) (htg _ hm_80) (fun _ h9 => h9) rfl dX2_takenByList_83 ?_
                  refine lv_iload hx hb dX2_takenByList_86 (lv_at hl 1 rfl) ?_
                  refine hw_iald hx hb hK hP 3 0 rfl rfl (j := x) (by omega) (by first | decide | omega) (v := (1 : Int32) <<< (nI (bi x) &&& 31)) (j4) dX2_takenByList_88 ?_
                  refine lv_ior hx hb dX2_takenByList_89 ?_
                  refine lv_istore hx hb dX2_takenByList_90 hl (by decide) rfl (fun ls hl => ?_)
                  replace hl : lv_has ls 7 [(4, .int (T ||| ((1 : Int32) <<< (nI (bi x) &&& 31)))), (6, .int (nI k9)), (5, .int (nI x)), (3, .int (hc_b lo)), (0, .ref g), (1, .int (nI st)), (2, .int (nI en))] := hl
                  refine lv_aload_n hx hb dX2_takenByList_92 rfl (lv_at hl 4 rfl) ?_
                  refine va_get (D := D) (ci := 2) (v := .ref q1) (C := RX2) (T := TX2) (N := 6) hx hb htg hi_X2 hown hK hP 0 rfl rfl 2 (by decide) (htg _ hm_77) (fun _ h9 => h9) rfl dX2_takenByList_93 ?_
                  refine lv_iload hx hb dX2_takenByList_96 (lv_at hl 2 rfl) ?_
                  refine hw_iald hx hb hK hP 1 0 rfl rfl (j := x) (by omega) (by first | decide | omega) (v := nI z) (j2) dX2_takenByList_98 ?_
                  refine lv_istore hx hb dX2_takenByList_99 hl (by decide) rfl (fun ls hl => ?_)
                  replace hl : lv_has ls 7 [(5, .int (nI z)), (4, .int (T ||| ((1 : Int32) <<< (nI (bi x) &&& 31)))), (6, .int (nI k9)), (3, .int (hc_b lo)), (0, .ref g), (1, .int (nI st)), (2, .int (nI en))] := hl
                  refine lv_iinc (v := nI (k9 + 1)) (k := 2) hx hb dX2_takenByList_101 hl rfl (hw_inc _) (by decide) rfl (fun ls hl => ?_)
                  replace hl : lv_has ls 7 [(6, .int (nI (k9 + 1))), (5, .int (nI z)), (4, .int (T ||| ((1 : Int32) <<< (nI (bi x) &&& 31)))), (3, .int (hc_b lo)), (0, .ref g), (1, .int (nI st)), (2, .int (nI en))] := hl
                  refine lv_goto hx hb dX2_takenByList_104 rfl ?_
                  refine ih (hl := hl) (hx9 := j1) (hPP := (hc_PP_snoc hc7 hz9 _ _ hPP)) (hlen := (by rw [List.length_append, hlen]; rfl)) (hT := (fun j hj => ?_)) (hpl := (fun hlo9 a ha hla => ?_)) (hk9 := (by omega)) (hk := (by omega))
                  · rw [b_or, Bool.or_eq_true, hT j hj, hb_1 (bi x) (by omega) j hj, decide_eq_true_eq]
                    constructor
                    · rintro (⟨a, h1, h2⟩ | h1)
                      · exact ⟨a, List.mem_append.mpr (Or.inl h1), h2⟩
                      · exact ⟨x, List.mem_append.mpr (Or.inr List.mem_cons_self), h1.symm⟩
                    · rintro ⟨a, h1, h2⟩
                      rcases List.mem_append.mp h1 with h1 | h1
                      · exact Or.inl ⟨a, h1, h2⟩
                      · exact Or.inr (by rw [← h2, List.mem_singleton.mp h1])
                  · rcases List.mem_append.mp ha with ha | ha
                    · exact hpl hlo9 a ha hla
                    · rw [List.mem_singleton.mp ha] at hla ⊢
                      rw [hz9, hf3]
                · refine lv_iconst (v := (-1)) hx hb dX2_takenByList_78 (by decide) ?_
                  exact W.iret (v := -1) hx hb hr (fun t9 ht9 hW9 => ⟨_, rfl, Or.inl ⟨rfl, hc_walk_loose hPP hc7 (hlo.1.mp hf1) hf2 (fun q => hf3 (by rw [hz9] at q; injection q))⟩, ht9⟩) (fun _ h => nomatch h) dX2_takenByList_79
          · refine lv_if_ne hx hb dX2_takenByList_48 rfl (fun hc => absurd rfl hc) (fun hc => ?_)
            refine lv_iconst (v := (-1)) hx hb dX2_takenByList_51 (by decide) ?_
            have hq9 : nx x = none := Classical.not_not.mp hq
            exact W.iret (v := -1) hx hb hr (fun t9 ht9 hW9 => ⟨_, rfl, Or.inl ⟨rfl, hc_walk_none hPP hc7 hq9⟩, ht9⟩) (fun _ h => nomatch h) dX2_takenByList_52
