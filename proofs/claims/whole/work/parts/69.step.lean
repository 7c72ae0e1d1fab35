theorem hs_opt (o : Option Nat) : o = none ∨ ∃ z, o = some z := by cases o with | none => exact Or.inl rfl | some z => exact Or.inr ⟨z, rfl⟩
set_option maxHeartbeats 4000000 in
set_option maxRecDepth 100000 in
/-- give -/
theorem k_X4_give (l : Launch) (D : va_G) (cI cZ cJ : ClassId) (sz : Nat) (Va Ha : Nat → Int32) (VA : Nat → Nat) (HA : Nat → Option Nat) (x y : Nat) (cd md o1 o2 mo : Int32) (y0 y1 y2 y3 y4 y5 y6 y7 y8 y9 ya yb yc yd ye yf yg yh : Nat) (hx9 : x < 2 ^ 32) (hy : y < 2 ^ 32) : Met l yX4_give (Cond.code yX4_give cX4_give 3 none :: hwG) { frames := 1, cells := 0, slots := 0, locals := 20 } (hp_M [.ref y0, .int (nI x), .int (nI y)] D cI cZ cJ [(y0, .inr (4, [.int cd, .ref y1, .ref y2, .ref y3, .ref y4, .ref y5, .ref y6, .ref y7, .ref y8, .ref y9, .ref ya, .ref yb, .ref yc, .ref yd, .ref ye, .int md, .int o1, .int o2, .int mo, .ref yf, .ref yg, .ref yh])), (yf, .inl (cI, 5, .inl Va)), (yg, .inl (cI, 10, .inl Ha))] sz) (va_Qv (S := Int32 × (Nat → Int32) × (Nat → Int32)) (fun u => (¬ x < 5 ∧ u = (nI 1, Va, Ha)) ∨ (x < 5 ∧ ¬ y < 10 ∧ u = (nI 2, Va, Ha)) ∨ (x < 5 ∧ y < 10 ∧ u = (nI 0, upd Va x (nI y), Ha))) (fun u t => va_P D vwCl ([(y0, .inr (4, [.int u.1, .ref y1, .ref y2, .ref y3, .ref y4, .ref y5, .ref y6, .ref y7, .ref y8, .ref y9, .ref ya, .ref yb, .ref yc, .ref yd, .ref ye, .int md, .int o1, .int o2, .int mo, .ref yf, .ref yg, .ref yh])), (yf, .inl (cI, 5, .inl u.2.1)), (yg, .inl (cI, 10, .inl u.2.2))]) t.heap) (va_A [(y0, .inr (4, [.int cd, .ref y1, .ref y2, .ref y3, .ref y4, .ref y5, .ref y6, .ref y7, .ref y8, .ref y9, .ref ya, .ref yb, .ref yc, .ref yd, .ref ye, .int md, .int o1, .int o2, .int mo, .ref yf, .ref yg, .ref yh])), (yf, .inl (cI, 5, .inl Va)), (yg, .inl (cI, 10, .inl Ha))] sz)) 0 0 (va_A [(y0, .inr (4, [.int cd, .ref y1, .ref y2, .ref y3, .ref y4, .ref y5, .ref y6, .ref y7, .ref y8, .ref y9, .ref ya, .ref yb, .ref yc, .ref yd, .ref ye, .int md, .int o1, .int o2, .int mo, .ref yf, .ref yg, .ref yh])), (yf, .inl (cI, 5, .inl Va)), (yg, .inl (cI, 10, .inl Ha))] sz) := by
  refine Met.ofW (cc := cX4_give) (maxL := 3) (ret := none) (by decide) rfl ?_
  intro p e s m args below meth c s₁ B hml hv
  obtain ⟨rfl, hsz, hP, hz, hD0⟩ := hv
  have hx := B.exec
  have hb := B.bytes
  have hr := B.returns
  have hts := atoms_spec (ws := (Cond.code yX4_give cX4_give 3 none :: hwG)) B.pre
  have htg := fun w h => hts w (List.mem_cons_of_mem _ h)
  have hown : s.vm.findClass RX4 = some m.cls := findClass_of_methodNamed B.named
  have hlocks := B.notSynchronized
  have hK := hz.1
  subst hsz
  have hD := hD0.self (sz := s.heap.size)
  generalize hAe : va_A [(y0, .inr (4, [.int cd, .ref y1, .ref y2, .ref y3, .ref y4, .ref y5, .ref y6, .ref y7, .ref y8, .ref y9, .ref ya, .ref yb, .ref yc, .ref yd, .ref ye, .int md, .int o1, .int o2, .int mo, .ref yf, .ref yg, .ref yh])), (yf, .inl (cI, 5, .inl Va)), (yg, .inl (cI, 10, .inl Ha))] s.heap.size = A at hD ⊢
  have hA : ∀ q : Nat, s.heap.size ≤ q → A q := fun q h => by rw [← hAe]; exact Or.inr h
  have hS : va_S A s.heap s.heap [] := va_S.rf
  have hl := lv_entry ([.ref y0, .int (nI x), .int (nI y)]) (n := 3) (Nat.le_of_ble_eq_true rfl)
  rw [lg_entry_eq]
  generalize (lg_sl ([.ref y0, .int (nI x), .int (nI y)]) ++ List.replicate (3 - (lg_sl ([.ref y0, .int (nI x), .int (nI y)])).length) Slot.unset).toArray = ls at hl ⊢
  replace hl : lv_has ls 3 [(0, .ref y0), (1, .int (nI x)), (2, .int (nI y))] := hl
  replace hP : va_P D vwCl [(y0, .inr (4, [.int cd, .ref y1, .ref y2, .ref y3, .ref y4, .ref y5, .ref y6, .ref y7, .ref y8, .ref y9, .ref ya, .ref yb, .ref yc, .ref yd, .ref ye, .int md, .int o1, .int o2, .int mo, .ref yf, .ref yg, .ref yh])), (yf, .inl (cI, 5, .inl Va)), (yg, .inl (cI, 10, .inl Ha))] s.heap := hP
  refine lv_aload_n hx hb dX4_give_0 rfl (lv_at hl 0 rfl) ?_
  refine lv_iload_n hx hb dX4_give_1 rfl (lv_at hl 1 rfl) ?_
  refine hw_csi (va_runS (As := [.int (nI x)]) (rest := [.ref y0]) ⟨hx, hb, hml, hown, htg⟩ (k_X4_noVariable l D cI cZ cJ x hx9) (va_cwS 1 htg (hg_S hm_661 hm_662 hm_6 hm_663) rfl rfl rfl (by decide +kernel) ⟨Nat.le_of_ble_eq_true rfl, Nat.le_of_ble_eq_true rfl⟩) ⟨hp_R_blind, hp_R_pre (hP.sub (ws' := []) [] rfl) hz⟩ rfl rfl hl.1 rfl (lv_room (Nat.le_of_ble_eq_true rfl)) dX4_give_2 ⟨Nat.zero_le _, Nat.zero_le _⟩) (fun r hqx => ?_)
  rcases hqx with ⟨rfl, hqx⟩ | ⟨rfl, hqx⟩
  · refine lv_if_eq hx hb dX4_give_5 rfl (fun hc => absurd hc (by decide)) (fun hc => ?_)
    refine lv_iconst (v := nI 1) hx hb dX4_give_8 (by decide) ?_
    refine lv_goto hx hb dX4_give_9 rfl ?_
    refine va_put (D := D) (ci := 4) (v := .int (nI 1)) (ty := .int) (C := RX4) (T := TX4) (N := 22) hx hb htg hi_X4 tyX4 tyX4_ok nmX4 hown hK hP hD hS 0 rfl rfl 0 (by decide) (htg _ hm_496) (fun _ h9 => h9) rfl (by decide +kernel) rfl rfl (Nat.le_of_ble_eq_true rfl) dX4_give_27 (fun H locs hP hD hS => ?_)
    replace hP : va_P D vwCl [(y0, .inr (4, [.int (nI 1), .ref y1, .ref y2, .ref y3, .ref y4, .ref y5, .ref y6, .ref y7, .ref y8, .ref y9, .ref ya, .ref yb, .ref yc, .ref yd, .ref ye, .int md, .int o1, .int o2, .int mo, .ref yf, .ref yg, .ref yh])), (yf, .inl (cI, 5, .inl Va)), (yg, .inl (cI, 10, .inl Ha))] H := hP
    replace hD : va_D A [(y0, .inr (4, [.int (nI 1), .ref y1, .ref y2, .ref y3, .ref y4, .ref y5, .ref y6, .ref y7, .ref y8, .ref y9, .ref ya, .ref yb, .ref yc, .ref yd, .ref ye, .int md, .int o1, .int o2, .int mo, .ref yf, .ref yg, .ref yh])), (yf, .inl (cI, 5, .inl Va)), (yg, .inl (cI, 10, .inl Ha))] := hD
    refine lv_aload_n hx hb dX4_give_30 rfl (lv_at hl 0 rfl) ?_
    refine va_get (D := D) (ci := 4) (v := .int (nI 1)) (C := RX4) (T := TX4) (N := 22) hx hb htg hi_X4 hown hK hP 0 rfl rfl 0 (by decide) (htg _ hm_496) (fun _ h9 => h9) rfl dX4_give_31 ?_
    refine lv_if_ne hx hb dX4_give_34 rfl (fun hc => ?_) (fun hc => absurd hc (by decide))
    exact W.vret hx hb hr (fun t9 ht9 hW9 => ⟨⟨(nI 1, Va, Ha), rfl, Or.inl ⟨hqx, rfl⟩, by show va_P D vwCl [(y0, .inr (4, [.int (nI 1), .ref y1, .ref y2, .ref y3, .ref y4, .ref y5, .ref y6, .ref y7, .ref y8, .ref y9, .ref ya, .ref yb, .ref yc, .ref yd, .ref ye, .int md, .int o1, .int o2, .int mo, .ref yf, .ref yg, .ref yh])), (yf, .inl (cI, 5, .inl Va)), (yg, .inl (cI, 10, .inl Ha))] t9.heap; rw [ht9]; exact hP⟩, hS.F ht9⟩) hS.2.2 dX4_give_44
  · refine lv_if_eq hx hb dX4_give_5 rfl (fun hc => ?_) (fun hc => absurd rfl hc)
    have hqx := Classical.not_not.mp hqx
    refine lv_iload_n hx hb dX4_give_12 rfl (lv_at hl 2 rfl) ?_
    refine lv_if_lt hx hb dX4_give_13 rfl (fun h1 => ?_) (fun h1 => ?_)
    · have h1 := (hm_neg hy).mp h1
      refine lv_iconst (v := nI 2) hx hb dX4_give_22 (by decide) ?_
      refine lv_goto hx hb dX4_give_23 rfl ?_
      refine va_put (D := D) (ci := 4) (v := .int (nI 2)) (ty := .int) (C := RX4) (T := TX4) (N := 22) hx hb htg hi_X4 tyX4 tyX4_ok nmX4 hown hK hP hD hS 0 rfl rfl 0 (by decide) (htg _ hm_496) (fun _ h9 => h9) rfl (by decide +kernel) rfl rfl (Nat.le_of_ble_eq_true rfl) dX4_give_27 (fun H locs hP hD hS => ?_)
      replace hP : va_P D vwCl [(y0, .inr (4, [.int (nI 2), .ref y1, .ref y2, .ref y3, .ref y4, .ref y5, .ref y6, .ref y7, .ref y8, .ref y9, .ref ya, .ref yb, .ref yc, .ref yd, .ref ye, .int md, .int o1, .int o2, .int mo, .ref yf, .ref yg, .ref yh])), (yf, .inl (cI, 5, .inl Va)), (yg, .inl (cI, 10, .inl Ha))] H := hP
      replace hD : va_D A [(y0, .inr (4, [.int (nI 2), .ref y1, .ref y2, .ref y3, .ref y4, .ref y5, .ref y6, .ref y7, .ref y8, .ref y9, .ref ya, .ref yb, .ref yc, .ref yd, .ref ye, .int md, .int o1, .int o2, .int mo, .ref yf, .ref yg, .ref yh])), (yf, .inl (cI, 5, .inl Va)), (yg, .inl (cI, 10, .inl Ha))] := hD
      refine lv_aload_n hx hb dX4_give_30 rfl (lv_at hl 0 rfl) ?_
      refine va_get (D := D) (ci := 4) (v := .int (nI 2)) (C := RX4) (T := TX4) (N := 22) hx hb htg hi_X4 hown hK hP 0 rfl rfl 0 (by decide) (htg _ hm_496) (fun _ h9 => h9) rfl dX4_give_31 ?_
      refine lv_if_ne hx hb dX4_give_34 rfl (fun hc => ?_) (fun hc => absurd hc (by decide))
      exact W.vret hx hb hr (fun t9 ht9 hW9 => ⟨⟨(nI 2, Va, Ha), rfl, Or.inr (Or.inl ⟨hqx, by omega, rfl⟩), by show va_P D vwCl [(y0, .inr (4, [.int (nI 2), .ref y1, .ref y2, .ref y3, .ref y4, .ref y5, .ref y6, .ref y7, .ref y8, .ref y9, .ref ya, .ref yb, .ref yc, .ref yd, .ref ye, .int md, .int o1, .int o2, .int mo, .ref yf, .ref yg, .ref yh])), (yf, .inl (cI, 5, .inl Va)), (yg, .inl (cI, 10, .inl Ha))] t9.heap; rw [ht9]; exact hP⟩, hS.F ht9⟩) hS.2.2 dX4_give_44
    · have h1 : y < 2 ^ 31 := Nat.lt_of_not_le (fun q => h1 ((hm_neg hy).mpr q))
      refine lv_iload_n hx hb dX4_give_16 rfl (lv_at hl 2 rfl) ?_
      refine lv_bipush (v := nI 9) hx hb dX4_give_17 (by decide) ?_
      refine hw_icmp_le hx hb (by omega) (by omega) dX4_give_19 rfl (fun h2 => ?_) (fun h2 => ?_)
      · refine lv_iconst (v := nI 0) hx hb dX4_give_26 (by decide) ?_
        refine va_put (D := D) (ci := 4) (v := .int (nI 0)) (ty := .int) (C := RX4) (T := TX4) (N := 22) hx hb htg hi_X4 tyX4 tyX4_ok nmX4 hown hK hP hD hS 0 rfl rfl 0 (by decide) (htg _ hm_496) (fun _ h9 => h9) rfl (by decide +kernel) rfl rfl (Nat.le_of_ble_eq_true rfl) dX4_give_27 (fun H locs hP hD hS => ?_)
        replace hP : va_P D vwCl [(y0, .inr (4, [.int (nI 0), .ref y1, .ref y2, .ref y3, .ref y4, .ref y5, .ref y6, .ref y7, .ref y8, .ref y9, .ref ya, .ref yb, .ref yc, .ref yd, .ref ye, .int md, .int o1, .int o2, .int mo, .ref yf, .ref yg, .ref yh])), (yf, .inl (cI, 5, .inl Va)), (yg, .inl (cI, 10, .inl Ha))] H := hP
        replace hD : va_D A [(y0, .inr (4, [.int (nI 0), .ref y1, .ref y2, .ref y3, .ref y4, .ref y5, .ref y6, .ref y7, .ref y8, .ref y9, .ref ya, .ref yb, .ref yc, .ref yd, .ref ye, .int md, .int o1, .int o2, .int mo, .ref yf, .ref yg, .ref yh])), (yf, .inl (cI, 5, .inl Va)), (yg, .inl (cI, 10, .inl Ha))] := hD
        refine lv_aload_n hx hb dX4_give_30 rfl (lv_at hl 0 rfl) ?_
        refine va_get (D := D) (ci := 4) (v := .int (nI 0)) (C := RX4) (T := TX4) (N := 22) hx hb htg hi_X4 hown hK hP 0 rfl rfl 0 (by decide) (htg _ hm_496) (fun _ h9 => h9) rfl dX4_give_31 ?_
        refine lv_if_ne hx hb dX4_give_34 rfl (fun hc => absurd hc (by decide)) (fun hc => ?_)
        refine lv_aload_n hx hb dX4_give_37 rfl (lv_at hl 0 rfl) ?_
        refine va_get (D := D) (ci := 4) (v := .ref yf) (C := RX4) (T := TX4) (N := 22) hx hb htg hi_X4 hown hK hP 0 rfl rfl 19 (by decide) (htg _ hm_515) (fun _ h9 => h9) rfl dX4_give_38 ?_
        refine lv_iload_n hx hb dX4_give_41 rfl (lv_at hl 1 rfl) ?_
        refine lv_iload_n hx hb dX4_give_42 rfl (lv_at hl 2 rfl) ?_
        refine hw_iast hx hb hK hP hD hS 1 0 rfl rfl (j := x) (by omega) (by first | decide | omega) dX4_give_43 (fun H locs hP hD hS => ?_)
        replace hP : va_P D vwCl [(y0, .inr (4, [.int (nI 0), .ref y1, .ref y2, .ref y3, .ref y4, .ref y5, .ref y6, .ref y7, .ref y8, .ref y9, .ref ya, .ref yb, .ref yc, .ref yd, .ref ye, .int md, .int o1, .int o2, .int mo, .ref yf, .ref yg, .ref yh])), (yf, .inl (cI, 5, .inl (upd Va x (nI y)))), (yg, .inl (cI, 10, .inl Ha))] H := hP
        replace hD : va_D A [(y0, .inr (4, [.int (nI 0), .ref y1, .ref y2, .ref y3, .ref y4, .ref y5, .ref y6, .ref y7, .ref y8, .ref y9, .ref ya, .ref yb, .ref yc, .ref yd, .ref ye, .int md, .int o1, .int o2, .int mo, .ref yf, .ref yg, .ref yh])), (yf, .inl (cI, 5, .inl (upd Va x (nI y)))), (yg, .inl (cI, 10, .inl Ha))] := hD
        exact W.vret hx hb hr (fun t9 ht9 hW9 => ⟨⟨(nI 0, upd Va x (nI y), Ha), rfl, Or.inr (Or.inr ⟨hqx, by omega, rfl⟩), by show va_P D vwCl [(y0, .inr (4, [.int (nI 0), .ref y1, .ref y2, .ref y3, .ref y4, .ref y5, .ref y6, .ref y7, .ref y8, .ref y9, .ref ya, .ref yb, .ref yc, .ref yd, .ref ye, .int md, .int o1, .int o2, .int mo, .ref yf, .ref yg, .ref yh])), (yf, .inl (cI, 5, .inl (upd Va x (nI y)))), (yg, .inl (cI, 10, .inl Ha))] t9.heap; rw [ht9]; exact hP⟩, hS.F ht9⟩) hS.2.2 dX4_give_44
      · refine lv_iconst (v := nI 2) hx hb dX4_give_22 (by decide) ?_
        refine lv_goto hx hb dX4_give_23 rfl ?_
        refine va_put (D := D) (ci := 4) (v := .int (nI 2)) (ty := .int) (C := RX4) (T := TX4) (N := 22) hx hb htg hi_X4 tyX4 tyX4_ok nmX4 hown hK hP hD hS 0 rfl rfl 0 (by decide) (htg _ hm_496) (fun _ h9 => h9) rfl (by decide +kernel) rfl rfl (Nat.le_of_ble_eq_true rfl) dX4_give_27 (fun H locs hP hD hS => ?_)
        replace hP : va_P D vwCl [(y0, .inr (4, [.int (nI 2), .ref y1, .ref y2, .ref y3, .ref y4, .ref y5, .ref y6, .ref y7, .ref y8, .ref y9, .ref ya, .ref yb, .ref yc, .ref yd, .ref ye, .int md, .int o1, .int o2, .int mo, .ref yf, .ref yg, .ref yh])), (yf, .inl (cI, 5, .inl Va)), (yg, .inl (cI, 10, .inl Ha))] H := hP
        replace hD : va_D A [(y0, .inr (4, [.int (nI 2), .ref y1, .ref y2, .ref y3, .ref y4, .ref y5, .ref y6, .ref y7, .ref y8, .ref y9, .ref ya, .ref yb, .ref yc, .ref yd, .ref ye, .int md, .int o1, .int o2, .int mo, .ref yf, .ref yg, .ref yh])), (yf, .inl (cI, 5, .inl Va)), (yg, .inl (cI, 10, .inl Ha))] := hD
        refine lv_aload_n hx hb dX4_give_30 rfl (lv_at hl 0 rfl) ?_
        refine va_get (D := D) (ci := 4) (v := .int (nI 2)) (C := RX4) (T := TX4) (N := 22) hx hb htg hi_X4 hown hK hP 0 rfl rfl 0 (by decide) (htg _ hm_496) (fun _ h9 => h9) rfl dX4_give_31 ?_
        refine lv_if_ne hx hb dX4_give_34 rfl (fun hc => ?_) (fun hc => absurd hc (by decide))
        exact W.vret hx hb hr (fun t9 ht9 hW9 => ⟨⟨(nI 2, Va, Ha), rfl, Or.inr (Or.inl ⟨hqx, by omega, rfl⟩), by show va_P D vwCl [(y0, .inr (4, [.int (nI 2), .ref y1, .ref y2, .ref y3, .ref y4, .ref y5, .ref y6, .ref y7, .ref y8, .ref y9, .ref ya, .ref yb, .ref yc, .ref yd, .ref ye, .int md, .int o1, .int o2, .int mo, .ref yf, .ref yg, .ref yh])), (yf, .inl (cI, 5, .inl Va)), (yg, .inl (cI, 10, .inl Ha))] t9.heap; rw [ht9]; exact hP⟩, hS.F ht9⟩) hS.2.2 dX4_give_44

set_option maxHeartbeats 4000000 in
set_option maxRecDepth 100000 in
/-- put -/
theorem k_X4_put (l : Launch) (D : va_G) (cI cZ cJ : ClassId) (sz : Nat) (Va Ha : Nat → Int32) (VA : Nat → Nat) (HA : Nat → Option Nat) (x y : Nat) (cd md o1 o2 mo : Int32) (y0 y1 y2 y3 y4 y5 y6 y7 y8 y9 ya yb yc yd ye yf yg yh : Nat) (hx9 : x < 2 ^ 32) (hy : y < 2 ^ 32) : Met l yX4_put (Cond.code yX4_put cX4_put 3 none :: hwG) { frames := 0, cells := 0, slots := 0, locals := 0 } (hp_M [.ref y0, .int (nI x), .int (nI y)] D cI cZ cJ [(y0, .inr (4, [.int cd, .ref y1, .ref y2, .ref y3, .ref y4, .ref y5, .ref y6, .ref y7, .ref y8, .ref y9, .ref ya, .ref yb, .ref yc, .ref yd, .ref ye, .int md, .int o1, .int o2, .int mo, .ref yf, .ref yg, .ref yh])), (yf, .inl (cI, 5, .inl Va)), (yg, .inl (cI, 10, .inl Ha))] sz) (va_Qv (S := Int32 × (Nat → Int32) × (Nat → Int32)) (fun u => (¬ (1 ≤ x ∧ x ≤ 9 ∧ y < 10) ∧ u = (nI 1, Va, Ha)) ∨ ((1 ≤ x ∧ x ≤ 9 ∧ y < 10) ∧ u = (nI 0, Va, upd Ha x (nI y)))) (fun u t => va_P D vwCl ([(y0, .inr (4, [.int u.1, .ref y1, .ref y2, .ref y3, .ref y4, .ref y5, .ref y6, .ref y7, .ref y8, .ref y9, .ref ya, .ref yb, .ref yc, .ref yd, .ref ye, .int md, .int o1, .int o2, .int mo, .ref yf, .ref yg, .ref yh])), (yf, .inl (cI, 5, .inl u.2.1)), (yg, .inl (cI, 10, .inl u.2.2))]) t.heap) (va_A [(y0, .inr (4, [.int cd, .ref y1, .ref y2, .ref y3, .ref y4, .ref y5, .ref y6, .ref y7, .ref y8, .ref y9, .ref ya, .ref yb, .ref yc, .ref yd, .ref ye, .int md, .int o1, .int o2, .int mo, .ref yf, .ref yg, .ref yh])), (yf, .inl (cI, 5, .inl Va)), (yg, .inl (cI, 10, .inl Ha))] sz)) 0 0 (va_A [(y0, .inr (4, [.int cd, .ref y1, .ref y2, .ref y3, .ref y4, .ref y5, .ref y6, .ref y7, .ref y8, .ref y9, .ref ya, .ref yb, .ref yc, .ref yd, .ref ye, .int md, .int o1, .int o2, .int mo, .ref yf, .ref yg, .ref yh])), (yf, .inl (cI, 5, .inl Va)), (yg, .inl (cI, 10, .inl Ha))] sz) := by
  refine Met.ofW (cc := cX4_put) (maxL := 3) (ret := none) (by decide) rfl ?_
  intro p e s m args below meth c s₁ B hml hv
  obtain ⟨rfl, hsz, hP, hz, hD0⟩ := hv
  have hx := B.exec
  have hb := B.bytes
  have hr := B.returns
  have hts := atoms_spec (ws := (Cond.code yX4_put cX4_put 3 none :: hwG)) B.pre
  have htg := fun w h => hts w (List.mem_cons_of_mem _ h)
  have hown : s.vm.findClass RX4 = some m.cls := findClass_of_methodNamed B.named
  have hlocks := B.notSynchronized
  have hK := hz.1
  subst hsz
  have hD := hD0.self (sz := s.heap.size)
  generalize hAe : va_A [(y0, .inr (4, [.int cd, .ref y1, .ref y2, .ref y3, .ref y4, .ref y5, .ref y6, .ref y7, .ref y8, .ref y9, .ref ya, .ref yb, .ref yc, .ref yd, .ref ye, .int md, .int o1, .int o2, .int mo, .ref yf, .ref yg, .ref yh])), (yf, .inl (cI, 5, .inl Va)), (yg, .inl (cI, 10, .inl Ha))] s.heap.size = A at hD ⊢
  have hA : ∀ q : Nat, s.heap.size ≤ q → A q := fun q h => by rw [← hAe]; exact Or.inr h
  have hS : va_S A s.heap s.heap [] := va_S.rf
  have hl := lv_entry ([.ref y0, .int (nI x), .int (nI y)]) (n := 3) (Nat.le_of_ble_eq_true rfl)
  rw [lg_entry_eq]
  generalize (lg_sl ([.ref y0, .int (nI x), .int (nI y)]) ++ List.replicate (3 - (lg_sl ([.ref y0, .int (nI x), .int (nI y)])).length) Slot.unset).toArray = ls at hl ⊢
  replace hl : lv_has ls 3 [(0, .ref y0), (1, .int (nI x)), (2, .int (nI y))] := hl
  replace hP : va_P D vwCl [(y0, .inr (4, [.int cd, .ref y1, .ref y2, .ref y3, .ref y4, .ref y5, .ref y6, .ref y7, .ref y8, .ref y9, .ref ya, .ref yb, .ref yc, .ref yd, .ref ye, .int md, .int o1, .int o2, .int mo, .ref yf, .ref yg, .ref yh])), (yf, .inl (cI, 5, .inl Va)), (yg, .inl (cI, 10, .inl Ha))] s.heap := hP
  refine lv_aload_n hx hb dX4_put_0 rfl (lv_at hl 0 rfl) ?_
  refine lv_iload_n hx hb dX4_put_1 rfl (lv_at hl 1 rfl) ?_
  refine lv_iconst (v := nI 1) hx hb dX4_put_2 (by decide) ?_
  rcases Nat.lt_or_ge x (2 ^ 31) with hx31 | hx31
  · refine hw_icmp_lt hx hb (by omega) (by omega) dX4_put_3 rfl (fun h1 => ?_) (fun h1 => ?_)
    · refine lv_iconst (v := nI 1) hx hb dX4_put_22 (by decide) ?_
      refine lv_goto hx hb dX4_put_23 rfl ?_
      refine va_put (D := D) (ci := 4) (v := .int (nI 1)) (ty := .int) (C := RX4) (T := TX4) (N := 22) hx hb htg hi_X4 tyX4 tyX4_ok nmX4 hown hK hP hD hS 0 rfl rfl 0 (by decide) (htg _ hm_496) (fun _ h9 => h9) rfl (by decide +kernel) rfl rfl (Nat.le_of_ble_eq_true rfl) dX4_put_27 (fun H locs hP hD hS => ?_)
      replace hP : va_P D vwCl [(y0, .inr (4, [.int (nI 1), .ref y1, .ref y2, .ref y3, .ref y4, .ref y5, .ref y6, .ref y7, .ref y8, .ref y9, .ref ya, .ref yb, .ref yc, .ref yd, .ref ye, .int md, .int o1, .int o2, .int mo, .ref yf, .ref yg, .ref yh])), (yf, .inl (cI, 5, .inl Va)), (yg, .inl (cI, 10, .inl Ha))] H := hP
      replace hD : va_D A [(y0, .inr (4, [.int (nI 1), .ref y1, .ref y2, .ref y3, .ref y4, .ref y5, .ref y6, .ref y7, .ref y8, .ref y9, .ref ya, .ref yb, .ref yc, .ref yd, .ref ye, .int md, .int o1, .int o2, .int mo, .ref yf, .ref yg, .ref yh])), (yf, .inl (cI, 5, .inl Va)), (yg, .inl (cI, 10, .inl Ha))] := hD
      refine lv_aload_n hx hb dX4_put_30 rfl (lv_at hl 0 rfl) ?_
      refine va_get (D := D) (ci := 4) (v := .int (nI 1)) (C := RX4) (T := TX4) (N := 22) hx hb htg hi_X4 hown hK hP 0 rfl rfl 0 (by decide) (htg _ hm_496) (fun _ h9 => h9) rfl dX4_put_31 ?_
      refine lv_if_ne hx hb dX4_put_34 rfl (fun hc => ?_) (fun hc => absurd hc (by decide))
      exact W.vret hx hb hr (fun t9 ht9 hW9 => ⟨⟨(nI 1, Va, Ha), rfl, Or.inl ⟨fun h9 => by omega, rfl⟩, by show va_P D vwCl [(y0, .inr (4, [.int (nI 1), .ref y1, .ref y2, .ref y3, .ref y4, .ref y5, .ref y6, .ref y7, .ref y8, .ref y9, .ref ya, .ref yb, .ref yc, .ref yd, .ref ye, .int md, .int o1, .int o2, .int mo, .ref yf, .ref yg, .ref yh])), (yf, .inl (cI, 5, .inl Va)), (yg, .inl (cI, 10, .inl Ha))] t9.heap; rw [ht9]; exact hP⟩, hS.F ht9⟩) hS.2.2 dX4_put_44
    · refine lv_iload_n hx hb dX4_put_6 rfl (lv_at hl 1 rfl) ?_
      refine lv_bipush (v := nI 9) hx hb dX4_put_7 (by decide) ?_
      refine hw_icmp_gt hx hb (by omega) (by omega) dX4_put_9 rfl (fun h2 => ?_) (fun h2 => ?_)
      · refine lv_iconst (v := nI 1) hx hb dX4_put_22 (by decide) ?_
        refine lv_goto hx hb dX4_put_23 rfl ?_
        refine va_put (D := D) (ci := 4) (v := .int (nI 1)) (ty := .int) (C := RX4) (T := TX4) (N := 22) hx hb htg hi_X4 tyX4 tyX4_ok nmX4 hown hK hP hD hS 0 rfl rfl 0 (by decide) (htg _ hm_496) (fun _ h9 => h9) rfl (by decide +kernel) rfl rfl (Nat.le_of_ble_eq_true rfl) dX4_put_27 (fun H locs hP hD hS => ?_)
        replace hP : va_P D vwCl [(y0, .inr (4, [.int (nI 1), .ref y1, .ref y2, .ref y3, .ref y4, .ref y5, .ref y6, .ref y7, .ref y8, .ref y9, .ref ya, .ref yb, .ref yc, .ref yd, .ref ye, .int md, .int o1, .int o2, .int mo, .ref yf, .ref yg, .ref yh])), (yf, .inl (cI, 5, .inl Va)), (yg, .inl (cI, 10, .inl Ha))] H := hP
        replace hD : va_D A [(y0, .inr (4, [.int (nI 1), .ref y1, .ref y2, .ref y3, .ref y4, .ref y5, .ref y6, .ref y7, .ref y8, .ref y9, .ref ya, .ref yb, .ref yc, .ref yd, .ref ye, .int md, .int o1, .int o2, .int mo, .ref yf, .ref yg, .ref yh])), (yf, .inl (cI, 5, .inl Va)), (yg, .inl (cI, 10, .inl Ha))] := hD
        refine lv_aload_n hx hb dX4_put_30 rfl (lv_at hl 0 rfl) ?_
        refine va_get (D := D) (ci := 4) (v := .int (nI 1)) (C := RX4) (T := TX4) (N := 22) hx hb htg hi_X4 hown hK hP 0 rfl rfl 0 (by decide) (htg _ hm_496) (fun _ h9 => h9) rfl dX4_put_31 ?_
        refine lv_if_ne hx hb dX4_put_34 rfl (fun hc => ?_) (fun hc => absurd hc (by decide))
        exact W.vret hx hb hr (fun t9 ht9 hW9 => ⟨⟨(nI 1, Va, Ha), rfl, Or.inl ⟨fun h9 => by omega, rfl⟩, by show va_P D vwCl [(y0, .inr (4, [.int (nI 1), .ref y1, .ref y2, .ref y3, .ref y4, .ref y5, .ref y6, .ref y7, .ref y8, .ref y9, .ref ya, .ref yb, .ref yc, .ref yd, .ref ye, .int md, .int o1, .int o2, .int mo, .ref yf, .ref yg, .ref yh])), (yf, .inl (cI, 5, .inl Va)), (yg, .inl (cI, 10, .inl Ha))] t9.heap; rw [ht9]; exact hP⟩, hS.F ht9⟩) hS.2.2 dX4_put_44
      · refine lv_iload_n hx hb dX4_put_12 rfl (lv_at hl 2 rfl) ?_
        refine lv_if_lt hx hb dX4_put_13 rfl (fun h3 => ?_) (fun h3 => ?_)
        · have h3 := (hm_neg hy).mp h3
          refine lv_iconst (v := nI 1) hx hb dX4_put_22 (by decide) ?_
          refine lv_goto hx hb dX4_put_23 rfl ?_
          refine va_put (D := D) (ci := 4) (v := .int (nI 1)) (ty := .int) (C := RX4) (T := TX4) (N := 22) hx hb htg hi_X4 tyX4 tyX4_ok nmX4 hown hK hP hD hS 0 rfl rfl 0 (by decide) (htg _ hm_496) (fun _ h9 => h9) rfl (by decide +kernel) rfl rfl (Nat.le_of_ble_eq_true rfl) dX4_put_27 (fun H locs hP hD hS => ?_)
          replace hP : va_P D vwCl [(y0, .inr (4, [.int (nI 1), .ref y1, .ref y2, .ref y3, .ref y4, .ref y5, .ref y6, .ref y7, .ref y8, .ref y9, .ref ya, .ref yb, .ref yc, .ref yd, .ref ye, .int md, .int o1, .int o2, .int mo, .ref yf, .ref yg, .ref yh])), (yf, .inl (cI, 5, .inl Va)), (yg, .inl (cI, 10, .inl Ha))] H := hP
          replace hD : va_D A [(y0, .inr (4, [.int (nI 1), .ref y1, .ref y2, .ref y3, .ref y4, .ref y5, .ref y6, .ref y7, .ref y8, .ref y9, .ref ya, .ref yb, .ref yc, .ref yd, .ref ye, .int md, .int o1, .int o2, .int mo, .ref yf, .ref yg, .ref yh])), (yf, .inl (cI, 5, .inl Va)), (yg, .inl (cI, 10, .inl Ha))] := hD
          refine lv_aload_n hx hb dX4_put_30 rfl (lv_at hl 0 rfl) ?_
          refine va_get (D := D) (ci := 4) (v := .int (nI 1)) (C := RX4) (T := TX4) (N := 22) hx hb htg hi_X4 hown hK hP 0 rfl rfl 0 (by decide) (htg _ hm_496) (fun _ h9 => h9) rfl dX4_put_31 ?_
          refine lv_if_ne hx hb dX4_put_34 rfl (fun hc => ?_) (fun hc => absurd hc (by decide))
          exact W.vret hx hb hr (fun t9 ht9 hW9 => ⟨⟨(nI 1, Va, Ha), rfl, Or.inl ⟨fun h9 => by omega, rfl⟩, by show va_P D vwCl [(y0, .inr (4, [.int (nI 1), .ref y1, .ref y2, .ref y3, .ref y4, .ref y5, .ref y6, .ref y7, .ref y8, .ref y9, .ref ya, .ref yb, .ref yc, .ref yd, .ref ye, .int md, .int o1, .int o2, .int mo, .ref yf, .ref yg, .ref yh])), (yf, .inl (cI, 5, .inl Va)), (yg, .inl (cI, 10, .inl Ha))] t9.heap; rw [ht9]; exact hP⟩, hS.F ht9⟩) hS.2.2 dX4_put_44
        · have h3 : y < 2 ^ 31 := Nat.lt_of_not_le (fun q => h3 ((hm_neg hy).mpr q))
          refine lv_iload_n hx hb dX4_put_16 rfl (lv_at hl 2 rfl) ?_
          refine lv_bipush (v := nI 9) hx hb dX4_put_17 (by decide) ?_
          refine hw_icmp_le hx hb (by omega) (by omega) dX4_put_19 rfl (fun h4 => ?_) (fun h4 => ?_)
          · refine lv_iconst (v := nI 0) hx hb dX4_put_26 (by decide) ?_
            refine va_put (D := D) (ci := 4) (v := .int (nI 0)) (ty := .int) (C := RX4) (T := TX4) (N := 22) hx hb htg hi_X4 tyX4 tyX4_ok nmX4 hown hK hP hD hS 0 rfl rfl 0 (by decide) (htg _ hm_496) (fun _ h9 => h9) rfl (by decide +kernel) rfl rfl (Nat.le_of_ble_eq_true rfl) dX4_put_27 (fun H locs hP hD hS => ?_)
            replace hP : va_P D vwCl [(y0, .inr (4, [.int (nI 0), .ref y1, .ref y2, .ref y3, .ref y4, .ref y5, .ref y6, .ref y7, .ref y8, .ref y9, .ref ya, .ref yb, .ref yc, .ref yd, .ref ye, .int md, .int o1, .int o2, .int mo, .ref yf, .ref yg, .ref yh])), (yf, .inl (cI, 5, .inl Va)), (yg, .inl (cI, 10, .inl Ha))] H := hP
            replace hD : va_D A [(y0, .inr (4, [.int (nI 0), .ref y1, .ref y2, .ref y3, .ref y4, .ref y5, .ref y6, .ref y7, .ref y8, .ref y9, .ref ya, .ref yb, .ref yc, .ref yd, .ref ye, .int md, .int o1, .int o2, .int mo, .ref yf, .ref yg, .ref yh])), (yf, .inl (cI, 5, .inl Va)), (yg, .inl (cI, 10, .inl Ha))] := hD
            refine lv_aload_n hx hb dX4_put_30 rfl (lv_at hl 0 rfl) ?_
            refine va_get (D := D) (ci := 4) (v := .int (nI 0)) (C := RX4) (T := TX4) (N := 22) hx hb htg hi_X4 hown hK hP 0 rfl rfl 0 (by decide) (htg _ hm_496) (fun _ h9 => h9) rfl dX4_put_31 ?_
            refine lv_if_ne hx hb dX4_put_34 rfl (fun hc => absurd hc (by decide)) (fun hc => ?_)
            refine lv_aload_n hx hb dX4_put_37 rfl (lv_at hl 0 rfl) ?_
            refine va_get (D := D) (ci := 4) (v := .ref yg) (C := RX4) (T := TX4) (N := 22) hx hb htg hi_X4 hown hK hP 0 rfl rfl 20 (by decide) (htg _ hm_516) (fun _ h9 => h9) rfl dX4_put_38 ?_
            refine lv_iload_n hx hb dX4_put_41 rfl (lv_at hl 1 rfl) ?_
            refine lv_iload_n hx hb dX4_put_42 rfl (lv_at hl 2 rfl) ?_
            refine hw_iast hx hb hK hP hD hS 2 0 rfl rfl (j := x) (by omega) (by first | decide | omega) dX4_put_43 (fun H locs hP hD hS => ?_)
            replace hP : va_P D vwCl [(y0, .inr (4, [.int (nI 0), .ref y1, .ref y2, .ref y3, .ref y4, .ref y5, .ref y6, .ref y7, .ref y8, .ref y9, .ref ya, .ref yb, .ref yc, .ref yd, .ref ye, .int md, .int o1, .int o2, .int mo, .ref yf, .ref yg, .ref yh])), (yf, .inl (cI, 5, .inl Va)), (yg, .inl (cI, 10, .inl (upd Ha x (nI y))))] H := hP
            replace hD : va_D A [(y0, .inr (4, [.int (nI 0), .ref y1, .ref y2, .ref y3, .ref y4, .ref y5, .ref y6, .ref y7, .ref y8, .ref y9, .ref ya, .ref yb, .ref yc, .ref yd, .ref ye, .int md, .int o1, .int o2, .int mo, .ref yf, .ref yg, .ref yh])), (yf, .inl (cI, 5, .inl Va)), (yg, .inl (cI, 10, .inl (upd Ha x (nI y))))] := hD
            exact W.vret hx hb hr (fun t9 ht9 hW9 => ⟨⟨(nI 0, Va, upd Ha x (nI y)), rfl, Or.inr ⟨⟨by omega, by omega, by omega⟩, rfl⟩, by show va_P D vwCl [(y0, .inr (4, [.int (nI 0), .ref y1, .ref y2, .ref y3, .ref y4, .ref y5, .ref y6, .ref y7, .ref y8, .ref y9, .ref ya, .ref yb, .ref yc, .ref yd, .ref ye, .int md, .int o1, .int o2, .int mo, .ref yf, .ref yg, .ref yh])), (yf, .inl (cI, 5, .inl Va)), (yg, .inl (cI, 10, .inl (upd Ha x (nI y))))] t9.heap; rw [ht9]; exact hP⟩, hS.F ht9⟩) hS.2.2 dX4_put_44
          · refine lv_iconst (v := nI 1) hx hb dX4_put_22 (by decide) ?_
            refine lv_goto hx hb dX4_put_23 rfl ?_
            refine va_put (D := D) (ci := 4) (v := .int (nI 1)) (ty := .int) (C := RX4) (T := TX4) (N := 22) hx hb htg hi_X4 tyX4 tyX4_ok nmX4 hown hK hP hD hS 0 rfl rfl 0 (by decide) (htg _ hm_496) (fun _ h9 => h9) rfl (by decide +kernel) rfl rfl (Nat.le_of_ble_eq_true rfl) dX4_put_27 (fun H locs hP hD hS => ?_)
            replace hP : va_P D vwCl [(y0, .inr (4, [.int (nI 1), .ref y1, .ref y2, .ref y3, .ref y4, .ref y5, .ref y6, .ref y7, .ref y8, .ref y9, .ref ya, .ref yb, .ref yc, .ref yd, .ref ye, .int md, .int o1, .int o2, .int mo, .ref yf, .ref yg, .ref yh])), (yf, .inl (cI, 5, .inl Va)), (yg, .inl (cI, 10, .inl Ha))] H := hP
            replace hD : va_D A [(y0, .inr (4, [.int (nI 1), .ref y1, .ref y2, .ref y3, .ref y4, .ref y5, .ref y6, .ref y7, .ref y8, .ref y9, .ref ya, .ref yb, .ref yc, .ref yd, .ref ye, .int md, .int o1, .int o2, .int mo, .ref yf, .ref yg, .ref yh])), (yf, .inl (cI, 5, .inl Va)), (yg, .inl (cI, 10, .inl Ha))] := hD
            refine lv_aload_n hx hb dX4_put_30 rfl (lv_at hl 0 rfl) ?_
            refine va_get (D := D) (ci := 4) (v := .int (nI 1)) (C := RX4) (T := TX4) (N := 22) hx hb htg hi_X4 hown hK hP 0 rfl rfl 0 (by decide) (htg _ hm_496) (fun _ h9 => h9) rfl dX4_put_31 ?_
            refine lv_if_ne hx hb dX4_put_34 rfl (fun hc => ?_) (fun hc => absurd hc (by decide))
            exact W.vret hx hb hr (fun t9 ht9 hW9 => ⟨⟨(nI 1, Va, Ha), rfl, Or.inl ⟨fun h9 => by omega, rfl⟩, by show va_P D vwCl [(y0, .inr (4, [.int (nI 1), .ref y1, .ref y2, .ref y3, .ref y4, .ref y5, .ref y6, .ref y7, .ref y8, .ref y9, .ref ya, .ref yb, .ref yc, .ref yd, .ref ye, .int md, .int o1, .int o2, .int mo, .ref yf, .ref yg, .ref yh])), (yf, .inl (cI, 5, .inl Va)), (yg, .inl (cI, 10, .inl Ha))] t9.heap; rw [ht9]; exact hP⟩, hS.F ht9⟩) hS.2.2 dX4_put_44
  · refine lv_icmp_lt hx hb dX4_put_3 rfl (fun hc => ?_) (fun hc => absurd (hm_big hx31 hx9 (by omega)) hc)
    refine lv_iconst (v := nI 1) hx hb dX4_put_22 (by decide) ?_
    refine lv_goto hx hb dX4_put_23 rfl ?_
    refine va_put (D := D) (ci := 4) (v := .int (nI 1)) (ty := .int) (C := RX4) (T := TX4) (N := 22) hx hb htg hi_X4 tyX4 tyX4_ok nmX4 hown hK hP hD hS 0 rfl rfl 0 (by decide) (htg _ hm_496) (fun _ h9 => h9) rfl (by decide +kernel) rfl rfl (Nat.le_of_ble_eq_true rfl) dX4_put_27 (fun H locs hP hD hS => ?_)
    replace hP : va_P D vwCl [(y0, .inr (4, [.int (nI 1), .ref y1, .ref y2, .ref y3, .ref y4, .ref y5, .ref y6, .ref y7, .ref y8, .ref y9, .ref ya, .ref yb, .ref yc, .ref yd, .ref ye, .int md, .int o1, .int o2, .int mo, .ref yf, .ref yg, .ref yh])), (yf, .inl (cI, 5, .inl Va)), (yg, .inl (cI, 10, .inl Ha))] H := hP
    replace hD : va_D A [(y0, .inr (4, [.int (nI 1), .ref y1, .ref y2, .ref y3, .ref y4, .ref y5, .ref y6, .ref y7, .ref y8, .ref y9, .ref ya, .ref yb, .ref yc, .ref yd, .ref ye, .int md, .int o1, .int o2, .int mo, .ref yf, .ref yg, .ref yh])), (yf, .inl (cI, 5, .inl Va)), (yg, .inl (cI, 10, .inl Ha))] := hD
    refine lv_aload_n hx hb dX4_put_30 rfl (lv_at hl 0 rfl) ?_
    refine va_get (D := D) (ci := 4) (v := .int (nI 1)) (C := RX4) (T := TX4) (N := 22) hx hb htg hi_X4 hown hK hP 0 rfl rfl 0 (by decide) (htg _ hm_496) (fun _ h9 => h9) rfl dX4_put_31 ?_
    refine lv_if_ne hx hb dX4_put_34 rfl (fun hc => ?_) (fun hc => absurd hc (by decide))
    exact W.vret hx hb hr (fun t9 ht9 hW9 => ⟨⟨(nI 1, Va, Ha), rfl, Or.inl ⟨fun h9 => by omega, rfl⟩, by show va_P D vwCl [(y0, .inr (4, [.int (nI 1), .ref y1, .ref y2, .ref y3, .ref y4, .ref y5, .ref y6, .ref y7, .ref y8, .ref y9, .ref ya, .ref yb, .ref yc, .ref yd, .ref ye, .int md, .int o1, .int o2, .int mo, .ref yf, .ref yg, .ref yh])), (yf, .inl (cI, 5, .inl Va)), (yg, .inl (cI, 10, .inl Ha))] t9.heap; rw [ht9]; exact hP⟩, hS.F ht9⟩) hS.2.2 dX4_put_44

set_option maxHeartbeats 4000000 in
set_option maxRecDepth 100000 in
/-- copy -/
theorem k_X4_copy (l : Launch) (D : va_G) (cI cZ cJ : ClassId) (sz : Nat) (Va Ha : Nat → Int32) (VA : Nat → Nat) (HA : Nat → Option Nat) (x y : Nat) (cd md o1 o2 mo : Int32) (y0 y1 y2 y3 y4 y5 y6 y7 y8 y9 ya yb yc yd ye yf yg yh : Nat) (hH : hr_h Va Ha VA HA) (hx9 : x < 2 ^ 32) (hy : y < 2 ^ 32) : Met l yX4_copy (Cond.code yX4_copy cX4_copy 3 none :: hwG) { frames := 1, cells := 0, slots := 0, locals := 21 } (hp_M [.ref y0, .int (nI x), .int (nI y)] D cI cZ cJ [(y0, .inr (4, [.int cd, .ref y1, .ref y2, .ref y3, .ref y4, .ref y5, .ref y6, .ref y7, .ref y8, .ref y9, .ref ya, .ref yb, .ref yc, .ref yd, .ref ye, .int md, .int o1, .int o2, .int mo, .ref yf, .ref yg, .ref yh])), (yf, .inl (cI, 5, .inl Va)), (yg, .inl (cI, 10, .inl Ha))] sz) (va_Qv (S := Int32 × (Nat → Int32) × (Nat → Int32)) (fun u => (¬ (x < 5 ∧ y < 6) ∧ u = (nI 1, Va, Ha)) ∨ ((x < 5 ∧ y < 6) ∧ u = (nI 0, upd Va x (nI (VA y)), Ha))) (fun u t => va_P D vwCl ([(y0, .inr (4, [.int u.1, .ref y1, .ref y2, .ref y3, .ref y4, .ref y5, .ref y6, .ref y7, .ref y8, .ref y9, .ref ya, .ref yb, .ref yc, .ref yd, .ref ye, .int md, .int o1, .int o2, .int mo, .ref yf, .ref yg, .ref yh])), (yf, .inl (cI, 5, .inl u.2.1)), (yg, .inl (cI, 10, .inl u.2.2))]) t.heap) (va_A [(y0, .inr (4, [.int cd, .ref y1, .ref y2, .ref y3, .ref y4, .ref y5, .ref y6, .ref y7, .ref y8, .ref y9, .ref ya, .ref yb, .ref yc, .ref yd, .ref ye, .int md, .int o1, .int o2, .int mo, .ref yf, .ref yg, .ref yh])), (yf, .inl (cI, 5, .inl Va)), (yg, .inl (cI, 10, .inl Ha))] sz)) 0 0 (va_A [(y0, .inr (4, [.int cd, .ref y1, .ref y2, .ref y3, .ref y4, .ref y5, .ref y6, .ref y7, .ref y8, .ref y9, .ref ya, .ref yb, .ref yc, .ref yd, .ref ye, .int md, .int o1, .int o2, .int mo, .ref yf, .ref yg, .ref yh])), (yf, .inl (cI, 5, .inl Va)), (yg, .inl (cI, 10, .inl Ha))] sz) := by
  refine Met.ofW (cc := cX4_copy) (maxL := 3) (ret := none) (by decide) rfl ?_
  intro p e s m args below meth c s₁ B hml hv
  obtain ⟨rfl, hsz, hP, hz, hD0⟩ := hv
  have hx := B.exec
  have hb := B.bytes
  have hr := B.returns
  have hts := atoms_spec (ws := (Cond.code yX4_copy cX4_copy 3 none :: hwG)) B.pre
  have htg := fun w h => hts w (List.mem_cons_of_mem _ h)
  have hown : s.vm.findClass RX4 = some m.cls := findClass_of_methodNamed B.named
  have hlocks := B.notSynchronized
  have hK := hz.1
  subst hsz
  have hD := hD0.self (sz := s.heap.size)
  generalize hAe : va_A [(y0, .inr (4, [.int cd, .ref y1, .ref y2, .ref y3, .ref y4, .ref y5, .ref y6, .ref y7, .ref y8, .ref y9, .ref ya, .ref yb, .ref yc, .ref yd, .ref ye, .int md, .int o1, .int o2, .int mo, .ref yf, .ref yg, .ref yh])), (yf, .inl (cI, 5, .inl Va)), (yg, .inl (cI, 10, .inl Ha))] s.heap.size = A at hD ⊢
  have hA : ∀ q : Nat, s.heap.size ≤ q → A q := fun q h => by rw [← hAe]; exact Or.inr h
  have hS : va_S A s.heap s.heap [] := va_S.rf
  have hl := lv_entry ([.ref y0, .int (nI x), .int (nI y)]) (n := 3) (Nat.le_of_ble_eq_true rfl)
  rw [lg_entry_eq]
  generalize (lg_sl ([.ref y0, .int (nI x), .int (nI y)]) ++ List.replicate (3 - (lg_sl ([.ref y0, .int (nI x), .int (nI y)])).length) Slot.unset).toArray = ls at hl ⊢
  replace hl : lv_has ls 3 [(0, .ref y0), (1, .int (nI x)), (2, .int (nI y))] := hl
  replace hP : va_P D vwCl [(y0, .inr (4, [.int cd, .ref y1, .ref y2, .ref y3, .ref y4, .ref y5, .ref y6, .ref y7, .ref y8, .ref y9, .ref ya, .ref yb, .ref yc, .ref yd, .ref ye, .int md, .int o1, .int o2, .int mo, .ref yf, .ref yg, .ref yh])), (yf, .inl (cI, 5, .inl Va)), (yg, .inl (cI, 10, .inl Ha))] s.heap := hP
  refine lv_aload_n hx hb dX4_copy_0 rfl (lv_at hl 0 rfl) ?_
  refine lv_iload_n hx hb dX4_copy_1 rfl (lv_at hl 1 rfl) ?_
  refine hw_csi (va_runS (As := [.int (nI x)]) (rest := [.ref y0]) ⟨hx, hb, hml, hown, htg⟩ (k_X4_noVariable l D cI cZ cJ x hx9) (va_cwS 1 htg (hg_S hm_661 hm_662 hm_6 hm_663) rfl rfl rfl (by decide +kernel) ⟨Nat.le_of_ble_eq_true rfl, Nat.le_of_ble_eq_true rfl⟩) ⟨hp_R_blind, hp_R_pre (hP.sub (ws' := []) [] rfl) hz⟩ rfl rfl hl.1 rfl (lv_room (Nat.le_of_ble_eq_true rfl)) dX4_copy_2 ⟨Nat.zero_le _, Nat.zero_le _⟩) (fun r hqx => ?_)
  rcases hqx with ⟨rfl, hqx⟩ | ⟨rfl, hqx⟩
  · refine lv_if_ne hx hb dX4_copy_5 rfl (fun hc => ?_) (fun hc => absurd hc (by decide))
    refine lv_iconst (v := nI 1) hx hb dX4_copy_15 (by decide) ?_
    refine lv_goto hx hb dX4_copy_16 rfl ?_
    refine va_put (D := D) (ci := 4) (v := .int (nI 1)) (ty := .int) (C := RX4) (T := TX4) (N := 22) hx hb htg hi_X4 tyX4 tyX4_ok nmX4 hown hK hP hD hS 0 rfl rfl 0 (by decide) (htg _ hm_496) (fun _ h9 => h9) rfl (by decide +kernel) rfl rfl (Nat.le_of_ble_eq_true rfl) dX4_copy_20 (fun H locs hP hD hS => ?_)
    replace hP : va_P D vwCl [(y0, .inr (4, [.int (nI 1), .ref y1, .ref y2, .ref y3, .ref y4, .ref y5, .ref y6, .ref y7, .ref y8, .ref y9, .ref ya, .ref yb, .ref yc, .ref yd, .ref ye, .int md, .int o1, .int o2, .int mo, .ref yf, .ref yg, .ref yh])), (yf, .inl (cI, 5, .inl Va)), (yg, .inl (cI, 10, .inl Ha))] H := hP
    replace hD : va_D A [(y0, .inr (4, [.int (nI 1), .ref y1, .ref y2, .ref y3, .ref y4, .ref y5, .ref y6, .ref y7, .ref y8, .ref y9, .ref ya, .ref yb, .ref yc, .ref yd, .ref ye, .int md, .int o1, .int o2, .int mo, .ref yf, .ref yg, .ref yh])), (yf, .inl (cI, 5, .inl Va)), (yg, .inl (cI, 10, .inl Ha))] := hD
    refine lv_aload_n hx hb dX4_copy_23 rfl (lv_at hl 0 rfl) ?_
    refine va_get (D := D) (ci := 4) (v := .int (nI 1)) (C := RX4) (T := TX4) (N := 22) hx hb htg hi_X4 hown hK hP 0 rfl rfl 0 (by decide) (htg _ hm_496) (fun _ h9 => h9) rfl dX4_copy_24 ?_
    refine lv_if_ne hx hb dX4_copy_27 rfl (fun hc => ?_) (fun hc => absurd hc (by decide))
    exact W.vret hx hb hr (fun t9 ht9 hW9 => ⟨⟨(nI 1, Va, Ha), rfl, Or.inl ⟨fun h => hqx h.1, rfl⟩, by show va_P D vwCl [(y0, .inr (4, [.int (nI 1), .ref y1, .ref y2, .ref y3, .ref y4, .ref y5, .ref y6, .ref y7, .ref y8, .ref y9, .ref ya, .ref yb, .ref yc, .ref yd, .ref ye, .int md, .int o1, .int o2, .int mo, .ref yf, .ref yg, .ref yh])), (yf, .inl (cI, 5, .inl Va)), (yg, .inl (cI, 10, .inl Ha))] t9.heap; rw [ht9]; exact hP⟩, hS.F ht9⟩) hS.2.2 dX4_copy_41
  · refine lv_if_ne hx hb dX4_copy_5 rfl (fun hc => absurd rfl hc) (fun hc => ?_)
    have hqx := Classical.not_not.mp hqx
    refine lv_iload_n hx hb dX4_copy_8 rfl (lv_at hl 2 rfl) ?_
    refine hw_csi (va_runS (As := [.int (nI y)]) (rest := [.ref y0]) ⟨hx, hb, hml, hown, htg⟩ (k_X4_noTerm l D cI cZ cJ y hy) (va_cwS 1 htg (hg_S hm_574 hm_575 hm_6 hm_576) rfl rfl rfl (by decide +kernel) ⟨Nat.le_of_ble_eq_true rfl, Nat.le_of_ble_eq_true rfl⟩) ⟨hp_R_blind, hp_R_pre (hP.sub (ws' := []) [] rfl) hz⟩ rfl rfl hl.1 rfl (lv_room (Nat.le_of_ble_eq_true rfl)) dX4_copy_9 ⟨Nat.zero_le _, Nat.zero_le _⟩) (fun r hqy => ?_)
    rcases hqy with ⟨rfl, hqy⟩ | ⟨rfl, hqy⟩
    · refine lv_if_eq hx hb dX4_copy_12 rfl (fun hc => absurd hc (by decide)) (fun hc => ?_)
      refine lv_iconst (v := nI 1) hx hb dX4_copy_15 (by decide) ?_
      refine lv_goto hx hb dX4_copy_16 rfl ?_
      refine va_put (D := D) (ci := 4) (v := .int (nI 1)) (ty := .int) (C := RX4) (T := TX4) (N := 22) hx hb htg hi_X4 tyX4 tyX4_ok nmX4 hown hK hP hD hS 0 rfl rfl 0 (by decide) (htg _ hm_496) (fun _ h9 => h9) rfl (by decide +kernel) rfl rfl (Nat.le_of_ble_eq_true rfl) dX4_copy_20 (fun H locs hP hD hS => ?_)
      replace hP : va_P D vwCl [(y0, .inr (4, [.int (nI 1), .ref y1, .ref y2, .ref y3, .ref y4, .ref y5, .ref y6, .ref y7, .ref y8, .ref y9, .ref ya, .ref yb, .ref yc, .ref yd, .ref ye, .int md, .int o1, .int o2, .int mo, .ref yf, .ref yg, .ref yh])), (yf, .inl (cI, 5, .inl Va)), (yg, .inl (cI, 10, .inl Ha))] H := hP
      replace hD : va_D A [(y0, .inr (4, [.int (nI 1), .ref y1, .ref y2, .ref y3, .ref y4, .ref y5, .ref y6, .ref y7, .ref y8, .ref y9, .ref ya, .ref yb, .ref yc, .ref yd, .ref ye, .int md, .int o1, .int o2, .int mo, .ref yf, .ref yg, .ref yh])), (yf, .inl (cI, 5, .inl Va)), (yg, .inl (cI, 10, .inl Ha))] := hD
      refine lv_aload_n hx hb dX4_copy_23 rfl (lv_at hl 0 rfl) ?_
      refine va_get (D := D) (ci := 4) (v := .int (nI 1)) (C := RX4) (T := TX4) (N := 22) hx hb htg hi_X4 hown hK hP 0 rfl rfl 0 (by decide) (htg _ hm_496) (fun _ h9 => h9) rfl dX4_copy_24 ?_
      refine lv_if_ne hx hb dX4_copy_27 rfl (fun hc => ?_) (fun hc => absurd hc (by decide))
      exact W.vret hx hb hr (fun t9 ht9 hW9 => ⟨⟨(nI 1, Va, Ha), rfl, Or.inl ⟨fun h => hqy h.2, rfl⟩, by show va_P D vwCl [(y0, .inr (4, [.int (nI 1), .ref y1, .ref y2, .ref y3, .ref y4, .ref y5, .ref y6, .ref y7, .ref y8, .ref y9, .ref ya, .ref yb, .ref yc, .ref yd, .ref ye, .int md, .int o1, .int o2, .int mo, .ref yf, .ref yg, .ref yh])), (yf, .inl (cI, 5, .inl Va)), (yg, .inl (cI, 10, .inl Ha))] t9.heap; rw [ht9]; exact hP⟩, hS.F ht9⟩) hS.2.2 dX4_copy_41
    · refine lv_if_eq hx hb dX4_copy_12 rfl (fun hc => ?_) (fun hc => absurd rfl hc)
      have hqy := Classical.not_not.mp hqy
      refine lv_iconst (v := nI 0) hx hb dX4_copy_19 (by decide) ?_
      refine va_put (D := D) (ci := 4) (v := .int (nI 0)) (ty := .int) (C := RX4) (T := TX4) (N := 22) hx hb htg hi_X4 tyX4 tyX4_ok nmX4 hown hK hP hD hS 0 rfl rfl 0 (by decide) (htg _ hm_496) (fun _ h9 => h9) rfl (by decide +kernel) rfl rfl (Nat.le_of_ble_eq_true rfl) dX4_copy_20 (fun H locs hP hD hS => ?_)
      replace hP : va_P D vwCl [(y0, .inr (4, [.int (nI 0), .ref y1, .ref y2, .ref y3, .ref y4, .ref y5, .ref y6, .ref y7, .ref y8, .ref y9, .ref ya, .ref yb, .ref yc, .ref yd, .ref ye, .int md, .int o1, .int o2, .int mo, .ref yf, .ref yg, .ref yh])), (yf, .inl (cI, 5, .inl Va)), (yg, .inl (cI, 10, .inl Ha))] H := hP
      replace hD : va_D A [(y0, .inr (4, [.int (nI 0), .ref y1, .ref y2, .ref y3, .ref y4, .ref y5, .ref y6, .ref y7, .ref y8, .ref y9, .ref ya, .ref yb, .ref yc, .ref yd, .ref ye, .int md, .int o1, .int o2, .int mo, .ref yf, .ref yg, .ref yh])), (yf, .inl (cI, 5, .inl Va)), (yg, .inl (cI, 10, .inl Ha))] := hD
      refine lv_aload_n hx hb dX4_copy_23 rfl (lv_at hl 0 rfl) ?_
      refine va_get (D := D) (ci := 4) (v := .int (nI 0)) (C := RX4) (T := TX4) (N := 22) hx hb htg hi_X4 hown hK hP 0 rfl rfl 0 (by decide) (htg _ hm_496) (fun _ h9 => h9) rfl dX4_copy_24 ?_
      refine lv_if_ne hx hb dX4_copy_27 rfl (fun hc => absurd hc (by decide)) (fun hc => ?_)
      refine lv_aload_n hx hb dX4_copy_30 rfl (lv_at hl 0 rfl) ?_
      refine va_get (D := D) (ci := 4) (v := .ref yf) (C := RX4) (T := TX4) (N := 22) hx hb htg hi_X4 hown hK hP 0 rfl rfl 19 (by decide) (htg _ hm_515) (fun _ h9 => h9) rfl dX4_copy_31 ?_
      refine lv_iload_n hx hb dX4_copy_34 rfl (lv_at hl 1 rfl) ?_
      refine lv_aload_n hx hb dX4_copy_35 rfl (lv_at hl 0 rfl) ?_
      refine lv_iload_n hx hb dX4_copy_36 rfl (lv_at hl 2 rfl) ?_
      refine hw_csi (va_runV (C := RX4) (b := y0) (As := [.int (nI y)]) (rest := [.int (nI x), .ref yf]) ⟨hx, hb, hml, hown, htg⟩ (k_X4_valueOf l D cI cZ cJ Va Ha VA HA y (nI 0) md o1 o2 mo y0 y1 y2 y3 y4 y5 y6 y7 y8 y9 ya yb yc yd ye yf yg yh hH hqy) (cwV 1 htg (hg_V hm_672 hm_674 hs_yX4_valueOf hm_6 hm_675) rfl rfl rfl (by decide +kernel) ⟨Nat.le_of_ble_eq_true rfl, Nat.le_of_ble_eq_true rfl⟩) ⟨hp_R_blind, va_recv (q := (RX4, TX4, 22)) (q0 := 0) (ci := 4) hK hP rfl rfl, hp_R_pre (hP.sub (ws' := [(y0, .inr (4, [.int (nI 0), .ref y1, .ref y2, .ref y3, .ref y4, .ref y5, .ref y6, .ref y7, .ref y8, .ref y9, .ref ya, .ref yb, .ref yc, .ref yd, .ref ye, .int md, .int o1, .int o2, .int mo, .ref yf, .ref yg, .ref yh])), (yf, .inl (cI, 5, .inl Va))]) [0, 1] rfl) hz⟩ rfl rfl hl.1 rfl (lv_room (Nat.le_of_ble_eq_true rfl)) dX4_copy_37 ⟨Nat.zero_le _, Nat.zero_le _⟩) (fun r9 hv9 => ?_)
      subst hv9
      refine hw_iast hx hb hK hP hD hS 1 0 rfl rfl (j := x) (by omega) (by first | decide | omega) dX4_copy_40 (fun H locs hP hD hS => ?_)
      replace hP : va_P D vwCl [(y0, .inr (4, [.int (nI 0), .ref y1, .ref y2, .ref y3, .ref y4, .ref y5, .ref y6, .ref y7, .ref y8, .ref y9, .ref ya, .ref yb, .ref yc, .ref yd, .ref ye, .int md, .int o1, .int o2, .int mo, .ref yf, .ref yg, .ref yh])), (yf, .inl (cI, 5, .inl (upd Va x (nI (VA y))))), (yg, .inl (cI, 10, .inl Ha))] H := hP
      replace hD : va_D A [(y0, .inr (4, [.int (nI 0), .ref y1, .ref y2, .ref y3, .ref y4, .ref y5, .ref y6, .ref y7, .ref y8, .ref y9, .ref ya, .ref yb, .ref yc, .ref yd, .ref ye, .int md, .int o1, .int o2, .int mo, .ref yf, .ref yg, .ref yh])), (yf, .inl (cI, 5, .inl (upd Va x (nI (VA y))))), (yg, .inl (cI, 10, .inl Ha))] := hD
      exact W.vret hx hb hr (fun t9 ht9 hW9 => ⟨⟨(nI 0, upd Va x (nI (VA y)), Ha), rfl, Or.inr ⟨⟨hqx, hqy⟩, rfl⟩, by show va_P D vwCl [(y0, .inr (4, [.int (nI 0), .ref y1, .ref y2, .ref y3, .ref y4, .ref y5, .ref y6, .ref y7, .ref y8, .ref y9, .ref ya, .ref yb, .ref yc, .ref yd, .ref ye, .int md, .int o1, .int o2, .int mo, .ref yf, .ref yg, .ref yh])), (yf, .inl (cI, 5, .inl (upd Va x (nI (VA y))))), (yg, .inl (cI, 10, .inl Ha))] t9.heap; rw [ht9]; exact hP⟩, hS.F ht9⟩) hS.2.2 dX4_copy_41

set_option maxHeartbeats 4000000 in
set_option maxRecDepth 100000 in
/-- load -/
theorem k_X4_load (l : Launch) (D : va_G) (cI cZ cJ : ClassId) (sz : Nat) (Va Ha : Nat → Int32) (VA : Nat → Nat) (HA : Nat → Option Nat) (x y : Nat) (cd md o1 o2 mo : Int32) (y0 y1 y2 y3 y4 y5 y6 y7 y8 y9 ya yb yc yd ye yf yg yh : Nat) (hH : hr_h Va Ha VA HA) (hx9 : x < 2 ^ 32) (hy : y < 2 ^ 32) : Met l yX4_load (Cond.code yX4_load cX4_load 3 none :: hwG) { frames := 1, cells := 0, slots := 0, locals := 20 } (hp_M [.ref y0, .int (nI x), .int (nI y)] D cI cZ cJ [(y0, .inr (4, [.int cd, .ref y1, .ref y2, .ref y3, .ref y4, .ref y5, .ref y6, .ref y7, .ref y8, .ref y9, .ref ya, .ref yb, .ref yc, .ref yd, .ref ye, .int md, .int o1, .int o2, .int mo, .ref yf, .ref yg, .ref yh])), (yf, .inl (cI, 5, .inl Va)), (yg, .inl (cI, 10, .inl Ha))] sz) (va_Qv (S := Int32 × (Nat → Int32) × (Nat → Int32)) (fun u => (¬ (x < 5 ∧ y < 5) ∧ u = (nI 1, Va, Ha)) ∨ ((x < 5 ∧ y < 5) ∧ HA (VA y) = none ∧ u = (nI 2, Va, Ha)) ∨ ((x < 5 ∧ y < 5) ∧ ∃ z, HA (VA y) = some z ∧ u = (nI 0, upd Va x (nI z), Ha))) (fun u t => va_P D vwCl ([(y0, .inr (4, [.int u.1, .ref y1, .ref y2, .ref y3, .ref y4, .ref y5, .ref y6, .ref y7, .ref y8, .ref y9, .ref ya, .ref yb, .ref yc, .ref yd, .ref ye, .int md, .int o1, .int o2, .int mo, .ref yf, .ref yg, .ref yh])), (yf, .inl (cI, 5, .inl u.2.1)), (yg, .inl (cI, 10, .inl u.2.2))]) t.heap) (va_A [(y0, .inr (4, [.int cd, .ref y1, .ref y2, .ref y3, .ref y4, .ref y5, .ref y6, .ref y7, .ref y8, .ref y9, .ref ya, .ref yb, .ref yc, .ref yd, .ref ye, .int md, .int o1, .int o2, .int mo, .ref yf, .ref yg, .ref yh])), (yf, .inl (cI, 5, .inl Va)), (yg, .inl (cI, 10, .inl Ha))] sz)) 0 0 (va_A [(y0, .inr (4, [.int cd, .ref y1, .ref y2, .ref y3, .ref y4, .ref y5, .ref y6, .ref y7, .ref y8, .ref y9, .ref ya, .ref yb, .ref yc, .ref yd, .ref ye, .int md, .int o1, .int o2, .int mo, .ref yf, .ref yg, .ref yh])), (yf, .inl (cI, 5, .inl Va)), (yg, .inl (cI, 10, .inl Ha))] sz) := by
  refine Met.ofW (cc := cX4_load) (maxL := 3) (ret := none) (by decide) rfl ?_
  intro p e s m args below meth c s₁ B hml hv
  obtain ⟨rfl, hsz, hP, hz, hD0⟩ := hv
  have hx := B.exec
  have hb := B.bytes
  have hr := B.returns
  have hts := atoms_spec (ws := (Cond.code yX4_load cX4_load 3 none :: hwG)) B.pre
  have htg := fun w h => hts w (List.mem_cons_of_mem _ h)
  have hown : s.vm.findClass RX4 = some m.cls := findClass_of_methodNamed B.named
  have hlocks := B.notSynchronized
  have hK := hz.1
  subst hsz
  have hD := hD0.self (sz := s.heap.size)
  generalize hAe : va_A [(y0, .inr (4, [.int cd, .ref y1, .ref y2, .ref y3, .ref y4, .ref y5, .ref y6, .ref y7, .ref y8, .ref y9, .ref ya, .ref yb, .ref yc, .ref yd, .ref ye, .int md, .int o1, .int o2, .int mo, .ref yf, .ref yg, .ref yh])), (yf, .inl (cI, 5, .inl Va)), (yg, .inl (cI, 10, .inl Ha))] s.heap.size = A at hD ⊢
  have hA : ∀ q : Nat, s.heap.size ≤ q → A q := fun q h => by rw [← hAe]; exact Or.inr h
  have hS : va_S A s.heap s.heap [] := va_S.rf
  have hl := lv_entry ([.ref y0, .int (nI x), .int (nI y)]) (n := 3) (Nat.le_of_ble_eq_true rfl)
  rw [lg_entry_eq]
  generalize (lg_sl ([.ref y0, .int (nI x), .int (nI y)]) ++ List.replicate (3 - (lg_sl ([.ref y0, .int (nI x), .int (nI y)])).length) Slot.unset).toArray = ls at hl ⊢
  replace hl : lv_has ls 3 [(0, .ref y0), (1, .int (nI x)), (2, .int (nI y))] := hl
  replace hP : va_P D vwCl [(y0, .inr (4, [.int cd, .ref y1, .ref y2, .ref y3, .ref y4, .ref y5, .ref y6, .ref y7, .ref y8, .ref y9, .ref ya, .ref yb, .ref yc, .ref yd, .ref ye, .int md, .int o1, .int o2, .int mo, .ref yf, .ref yg, .ref yh])), (yf, .inl (cI, 5, .inl Va)), (yg, .inl (cI, 10, .inl Ha))] s.heap := hP
  refine lv_aload_n hx hb dX4_load_0 rfl (lv_at hl 0 rfl) ?_
  refine lv_iload_n hx hb dX4_load_1 rfl (lv_at hl 1 rfl) ?_
  refine hw_csi (va_runS (As := [.int (nI x)]) (rest := [.ref y0]) ⟨hx, hb, hml, hown, htg⟩ (k_X4_noVariable l D cI cZ cJ x hx9) (va_cwS 1 htg (hg_S hm_661 hm_662 hm_6 hm_663) rfl rfl rfl (by decide +kernel) ⟨Nat.le_of_ble_eq_true rfl, Nat.le_of_ble_eq_true rfl⟩) ⟨hp_R_blind, hp_R_pre (hP.sub (ws' := []) [] rfl) hz⟩ rfl rfl hl.1 rfl (lv_room (Nat.le_of_ble_eq_true rfl)) dX4_load_2 ⟨Nat.zero_le _, Nat.zero_le _⟩) (fun r hqx => ?_)
  rcases hqx with ⟨rfl, hqx⟩ | ⟨rfl, hqx⟩
  · refine lv_if_ne hx hb dX4_load_5 rfl (fun hc => ?_) (fun hc => absurd hc (by decide))
    refine lv_iconst (v := nI 1) hx hb dX4_load_15 (by decide) ?_
    refine lv_goto hx hb dX4_load_16 rfl ?_
    refine va_put (D := D) (ci := 4) (v := .int (nI 1)) (ty := .int) (C := RX4) (T := TX4) (N := 22) hx hb htg hi_X4 tyX4 tyX4_ok nmX4 hown hK hP hD hS 0 rfl rfl 0 (by decide) (htg _ hm_496) (fun _ h9 => h9) rfl (by decide +kernel) rfl rfl (Nat.le_of_ble_eq_true rfl) dX4_load_38 (fun H locs hP hD hS => ?_)
    replace hP : va_P D vwCl [(y0, .inr (4, [.int (nI 1), .ref y1, .ref y2, .ref y3, .ref y4, .ref y5, .ref y6, .ref y7, .ref y8, .ref y9, .ref ya, .ref yb, .ref yc, .ref yd, .ref ye, .int md, .int o1, .int o2, .int mo, .ref yf, .ref yg, .ref yh])), (yf, .inl (cI, 5, .inl Va)), (yg, .inl (cI, 10, .inl Ha))] H := hP
    replace hD : va_D A [(y0, .inr (4, [.int (nI 1), .ref y1, .ref y2, .ref y3, .ref y4, .ref y5, .ref y6, .ref y7, .ref y8, .ref y9, .ref ya, .ref yb, .ref yc, .ref yd, .ref ye, .int md, .int o1, .int o2, .int mo, .ref yf, .ref yg, .ref yh])), (yf, .inl (cI, 5, .inl Va)), (yg, .inl (cI, 10, .inl Ha))] := hD
    refine lv_aload_n hx hb dX4_load_41 rfl (lv_at hl 0 rfl) ?_
    refine va_get (D := D) (ci := 4) (v := .int (nI 1)) (C := RX4) (T := TX4) (N := 22) hx hb htg hi_X4 hown hK hP 0 rfl rfl 0 (by decide) (htg _ hm_496) (fun _ h9 => h9) rfl dX4_load_42 ?_
    refine lv_if_ne hx hb dX4_load_45 rfl (fun hc => ?_) (fun hc => absurd hc (by decide))
    exact W.vret hx hb hr (fun t9 ht9 hW9 => ⟨⟨(nI 1, Va, Ha), rfl, Or.inl ⟨fun h => hqx h.1, rfl⟩, by show va_P D vwCl [(y0, .inr (4, [.int (nI 1), .ref y1, .ref y2, .ref y3, .ref y4, .ref y5, .ref y6, .ref y7, .ref y8, .ref y9, .ref ya, .ref yb, .ref yc, .ref yd, .ref ye, .int md, .int o1, .int o2, .int mo, .ref yf, .ref yg, .ref yh])), (yf, .inl (cI, 5, .inl Va)), (yg, .inl (cI, 10, .inl Ha))] t9.heap; rw [ht9]; exact hP⟩, hS.F ht9⟩) hS.2.2 dX4_load_65
  · refine lv_if_ne hx hb dX4_load_5 rfl (fun hc => absurd rfl hc) (fun hc => ?_)
    have hqx := Classical.not_not.mp hqx
    refine lv_iload_n hx hb dX4_load_8 rfl (lv_at hl 2 rfl) ?_
    refine hw_csi (va_runS (As := [.int (nI y)]) (rest := [.ref y0]) ⟨hx, hb, hml, hown, htg⟩ (k_X4_noVariable l D cI cZ cJ y hy) (va_cwS 1 htg (hg_S hm_661 hm_662 hm_6 hm_663) rfl rfl rfl (by decide +kernel) ⟨Nat.le_of_ble_eq_true rfl, Nat.le_of_ble_eq_true rfl⟩) ⟨hp_R_blind, hp_R_pre (hP.sub (ws' := []) [] rfl) hz⟩ rfl rfl hl.1 rfl (lv_room (Nat.le_of_ble_eq_true rfl)) dX4_load_9 ⟨Nat.zero_le _, Nat.zero_le _⟩) (fun r hqy => ?_)
    rcases hqy with ⟨rfl, hqy⟩ | ⟨rfl, hqy⟩
    · refine lv_if_eq hx hb dX4_load_12 rfl (fun hc => absurd hc (by decide)) (fun hc => ?_)
      refine lv_iconst (v := nI 1) hx hb dX4_load_15 (by decide) ?_
      refine lv_goto hx hb dX4_load_16 rfl ?_
      refine va_put (D := D) (ci := 4) (v := .int (nI 1)) (ty := .int) (C := RX4) (T := TX4) (N := 22) hx hb htg hi_X4 tyX4 tyX4_ok nmX4 hown hK hP hD hS 0 rfl rfl 0 (by decide) (htg _ hm_496) (fun _ h9 => h9) rfl (by decide +kernel) rfl rfl (Nat.le_of_ble_eq_true rfl) dX4_load_38 (fun H locs hP hD hS => ?_)
      replace hP : va_P D vwCl [(y0, .inr (4, [.int (nI 1), .ref y1, .ref y2, .ref y3, .ref y4, .ref y5, .ref y6, .ref y7, .ref y8, .ref y9, .ref ya, .ref yb, .ref yc, .ref yd, .ref ye, .int md, .int o1, .int o2, .int mo, .ref yf, .ref yg, .ref yh])), (yf, .inl (cI, 5, .inl Va)), (yg, .inl (cI, 10, .inl Ha))] H := hP
      replace hD : va_D A [(y0, .inr (4, [.int (nI 1), .ref y1, .ref y2, .ref y3, .ref y4, .ref y5, .ref y6, .ref y7, .ref y8, .ref y9, .ref ya, .ref yb, .ref yc, .ref yd, .ref ye, .int md, .int o1, .int o2, .int mo, .ref yf, .ref yg, .ref yh])), (yf, .inl (cI, 5, .inl Va)), (yg, .inl (cI, 10, .inl Ha))] := hD
      refine lv_aload_n hx hb dX4_load_41 rfl (lv_at hl 0 rfl) ?_
      refine va_get (D := D) (ci := 4) (v := .int (nI 1)) (C := RX4) (T := TX4) (N := 22) hx hb htg hi_X4 hown hK hP 0 rfl rfl 0 (by decide) (htg _ hm_496) (fun _ h9 => h9) rfl dX4_load_42 ?_
      refine lv_if_ne hx hb dX4_load_45 rfl (fun hc => ?_) (fun hc => absurd hc (by decide))
      exact W.vret hx hb hr (fun t9 ht9 hW9 => ⟨⟨(nI 1, Va, Ha), rfl, Or.inl ⟨fun h => hqy h.2, rfl⟩, by show va_P D vwCl [(y0, .inr (4, [.int (nI 1), .ref y1, .ref y2, .ref y3, .ref y4, .ref y5, .ref y6, .ref y7, .ref y8, .ref y9, .ref ya, .ref yb, .ref yc, .ref yd, .ref ye, .int md, .int o1, .int o2, .int mo, .ref yf, .ref yg, .ref yh])), (yf, .inl (cI, 5, .inl Va)), (yg, .inl (cI, 10, .inl Ha))] t9.heap; rw [ht9]; exact hP⟩, hS.F ht9⟩) hS.2.2 dX4_load_65
    · refine lv_if_eq hx hb dX4_load_12 rfl (fun hc => ?_) (fun hc => absurd rfl hc)
      have hqy := Classical.not_not.mp hqy
      have hv9 := hr_v6 hH y (by omega)
      rcases hs_opt (HA (VA y)) with hn | ⟨zz, hn⟩
      · refine lv_aload_n hx hb dX4_load_19 rfl (lv_at hl 0 rfl) ?_
        refine va_get (D := D) (ci := 4) (v := .ref yg) (C := RX4) (T := TX4) (N := 22) hx hb htg hi_X4 hown hK hP 0 rfl rfl 20 (by decide) (htg _ hm_516) (fun _ h9 => h9) rfl dX4_load_20 ?_
        refine lv_aload_n hx hb dX4_load_23 rfl (lv_at hl 0 rfl) ?_
        refine va_get (D := D) (ci := 4) (v := .ref yf) (C := RX4) (T := TX4) (N := 22) hx hb htg hi_X4 hown hK hP 0 rfl rfl 19 (by decide) (htg _ hm_515) (fun _ h9 => h9) rfl dX4_load_24 ?_
        refine lv_iload_n hx hb dX4_load_27 rfl (lv_at hl 2 rfl) ?_
        refine hw_iald hx hb hK hP 1 0 rfl rfl (j := y) (by omega) (by first | decide | omega) (v := nI (VA y)) ((hH.2.1 y (by omega)).1) dX4_load_28 ?_
        refine hw_iald hx hb hK hP 2 0 rfl rfl (j := (VA y)) (by omega) (by first | decide | omega) (v := -1) ((hH.2.2.2 _ (by omega)).1 hn) dX4_load_29 ?_
        refine lv_if_ge hx hb dX4_load_30 rfl (fun hc => absurd hc (by decide)) (fun hc => ?_)
        refine lv_iconst (v := nI 2) hx hb dX4_load_33 (by decide) ?_
        refine lv_goto hx hb dX4_load_34 rfl ?_
        refine va_put (D := D) (ci := 4) (v := .int (nI 2)) (ty := .int) (C := RX4) (T := TX4) (N := 22) hx hb htg hi_X4 tyX4 tyX4_ok nmX4 hown hK hP hD hS 0 rfl rfl 0 (by decide) (htg _ hm_496) (fun _ h9 => h9) rfl (by decide +kernel) rfl rfl (Nat.le_of_ble_eq_true rfl) dX4_load_38 (fun H locs hP hD hS => ?_)
        replace hP : va_P D vwCl [(y0, .inr (4, [.int (nI 2), .ref y1, .ref y2, .ref y3, .ref y4, .ref y5, .ref y6, .ref y7, .ref y8, .ref y9, .ref ya, .ref yb, .ref yc, .ref yd, .ref ye, .int md, .int o1, .int o2, .int mo, .ref yf, .ref yg, .ref yh])), (yf, .inl (cI, 5, .inl Va)), (yg, .inl (cI, 10, .inl Ha))] H := hP
        replace hD : va_D A [(y0, .inr (4, [.int (nI 2), .ref y1, .ref y2, .ref y3, .ref y4, .ref y5, .ref y6, .ref y7, .ref y8, .ref y9, .ref ya, .ref yb, .ref yc, .ref yd, .ref ye, .int md, .int o1, .int o2, .int mo, .ref yf, .ref yg, .ref yh])), (yf, .inl (cI, 5, .inl Va)), (yg, .inl (cI, 10, .inl Ha))] := hD
        refine lv_aload_n hx hb dX4_load_41 rfl (lv_at hl 0 rfl) ?_
        refine va_get (D := D) (ci := 4) (v := .int (nI 2)) (C := RX4) (T := TX4) (N := 22) hx hb htg hi_X4 hown hK hP 0 rfl rfl 0 (by decide) (htg _ hm_496) (fun _ h9 => h9) rfl dX4_load_42 ?_
        refine lv_if_ne hx hb dX4_load_45 rfl (fun hc => ?_) (fun hc => absurd hc (by decide))
        exact W.vret hx hb hr (fun t9 ht9 hW9 => ⟨⟨(nI 2, Va, Ha), rfl, Or.inr (Or.inl ⟨⟨hqx, hqy⟩, hn, rfl⟩), by show va_P D vwCl [(y0, .inr (4, [.int (nI 2), .ref y1, .ref y2, .ref y3, .ref y4, .ref y5, .ref y6, .ref y7, .ref y8, .ref y9, .ref ya, .ref yb, .ref yc, .ref yd, .ref ye, .int md, .int o1, .int o2, .int mo, .ref yf, .ref yg, .ref yh])), (yf, .inl (cI, 5, .inl Va)), (yg, .inl (cI, 10, .inl Ha))] t9.heap; rw [ht9]; exact hP⟩, hS.F ht9⟩) hS.2.2 dX4_load_65
      · obtain ⟨c1, c2⟩ := (hH.2.2.2 (VA y) (by omega)).2 zz hn
        refine lv_aload_n hx hb dX4_load_19 rfl (lv_at hl 0 rfl) ?_
        refine va_get (D := D) (ci := 4) (v := .ref yg) (C := RX4) (T := TX4) (N := 22) hx hb htg hi_X4 hown hK hP 0 rfl rfl 20 (by decide) (htg _ hm_516) (fun _ h9 => h9) rfl dX4_load_20 ?_
        refine lv_aload_n hx hb dX4_load_23 rfl (lv_at hl 0 rfl) ?_
        refine va_get (D := D) (ci := 4) (v := .ref yf) (C := RX4) (T := TX4) (N := 22) hx hb htg hi_X4 hown hK hP 0 rfl rfl 19 (by decide) (htg _ hm_515) (fun _ h9 => h9) rfl dX4_load_24 ?_
        refine lv_iload_n hx hb dX4_load_27 rfl (lv_at hl 2 rfl) ?_
        refine hw_iald hx hb hK hP 1 0 rfl rfl (j := y) (by omega) (by first | decide | omega) (v := nI (VA y)) ((hH.2.1 y (by omega)).1) dX4_load_28 ?_
        refine hw_iald hx hb hK hP 2 0 rfl rfl (j := (VA y)) (by omega) (by first | decide | omega) (v := nI zz) (c2) dX4_load_29 ?_
        refine lv_if_ge hx hb dX4_load_30 rfl (fun hc => ?_) (fun hc => absurd (nI_pos' (by omega)) hc)
        refine lv_iconst (v := nI 0) hx hb dX4_load_37 (by decide) ?_
        refine va_put (D := D) (ci := 4) (v := .int (nI 0)) (ty := .int) (C := RX4) (T := TX4) (N := 22) hx hb htg hi_X4 tyX4 tyX4_ok nmX4 hown hK hP hD hS 0 rfl rfl 0 (by decide) (htg _ hm_496) (fun _ h9 => h9) rfl (by decide +kernel) rfl rfl (Nat.le_of_ble_eq_true rfl) dX4_load_38 (fun H locs hP hD hS => ?_)
        replace hP : va_P D vwCl [(y0, .inr (4, [.int (nI 0), .ref y1, .ref y2, .ref y3, .ref y4, .ref y5, .ref y6, .ref y7, .ref y8, .ref y9, .ref ya, .ref yb, .ref yc, .ref yd, .ref ye, .int md, .int o1, .int o2, .int mo, .ref yf, .ref yg, .ref yh])), (yf, .inl (cI, 5, .inl Va)), (yg, .inl (cI, 10, .inl Ha))] H := hP
        replace hD : va_D A [(y0, .inr (4, [.int (nI 0), .ref y1, .ref y2, .ref y3, .ref y4, .ref y5, .ref y6, .ref y7, .ref y8, .ref y9, .ref ya, .ref yb, .ref yc, .ref yd, .ref ye, .int md, .int o1, .int o2, .int mo, .ref yf, .ref yg, .ref yh])), (yf, .inl (cI, 5, .inl Va)), (yg, .inl (cI, 10, .inl Ha))] := hD
        refine lv_aload_n hx hb dX4_load_41 rfl (lv_at hl 0 rfl) ?_
        refine va_get (D := D) (ci := 4) (v := .int (nI 0)) (C := RX4) (T := TX4) (N := 22) hx hb htg hi_X4 hown hK hP 0 rfl rfl 0 (by decide) (htg _ hm_496) (fun _ h9 => h9) rfl dX4_load_42 ?_
        refine lv_if_ne hx hb dX4_load_45 rfl (fun hc => absurd hc (by decide)) (fun hc => ?_)
        refine lv_aload_n hx hb dX4_load_48 rfl (lv_at hl 0 rfl) ?_
        refine va_get (D := D) (ci := 4) (v := .ref yf) (C := RX4) (T := TX4) (N := 22) hx hb htg hi_X4 hown hK hP 0 rfl rfl 19 (by decide) (htg _ hm_515) (fun _ h9 => h9) rfl dX4_load_49 ?_
        refine lv_iload_n hx hb dX4_load_52 rfl (lv_at hl 1 rfl) ?_
        refine lv_aload_n hx hb dX4_load_53 rfl (lv_at hl 0 rfl) ?_
        refine va_get (D := D) (ci := 4) (v := .ref yg) (C := RX4) (T := TX4) (N := 22) hx hb htg hi_X4 hown hK hP 0 rfl rfl 20 (by decide) (htg _ hm_516) (fun _ h9 => h9) rfl dX4_load_54 ?_
        refine lv_aload_n hx hb dX4_load_57 rfl (lv_at hl 0 rfl) ?_
        refine va_get (D := D) (ci := 4) (v := .ref yf) (C := RX4) (T := TX4) (N := 22) hx hb htg hi_X4 hown hK hP 0 rfl rfl 19 (by decide) (htg _ hm_515) (fun _ h9 => h9) rfl dX4_load_58 ?_
        refine lv_iload_n hx hb dX4_load_61 rfl (lv_at hl 2 rfl) ?_
        refine hw_iald hx hb hK hP 1 0 rfl rfl (j := y) (by omega) (by first | decide | omega) (v := nI (VA y)) ((hH.2.1 y (by omega)).1) dX4_load_62 ?_
        refine hw_iald hx hb hK hP 2 0 rfl rfl (j := (VA y)) (by omega) (by first | decide | omega) (v := nI zz) (c2) dX4_load_63 ?_
        refine hw_iast hx hb hK hP hD hS 1 0 rfl rfl (j := x) (by omega) (by first | decide | omega) dX4_load_64 (fun H locs hP hD hS => ?_)
        replace hP : va_P D vwCl [(y0, .inr (4, [.int (nI 0), .ref y1, .ref y2, .ref y3, .ref y4, .ref y5, .ref y6, .ref y7, .ref y8, .ref y9, .ref ya, .ref yb, .ref yc, .ref yd, .ref ye, .int md, .int o1, .int o2, .int mo, .ref yf, .ref yg, .ref yh])), (yf, .inl (cI, 5, .inl (upd Va x (nI zz)))), (yg, .inl (cI, 10, .inl Ha))] H := hP
        replace hD : va_D A [(y0, .inr (4, [.int (nI 0), .ref y1, .ref y2, .ref y3, .ref y4, .ref y5, .ref y6, .ref y7, .ref y8, .ref y9, .ref ya, .ref yb, .ref yc, .ref yd, .ref ye, .int md, .int o1, .int o2, .int mo, .ref yf, .ref yg, .ref yh])), (yf, .inl (cI, 5, .inl (upd Va x (nI zz)))), (yg, .inl (cI, 10, .inl Ha))] := hD
        exact W.vret hx hb hr (fun t9 ht9 hW9 => ⟨⟨(nI 0, upd Va x (nI zz), Ha), rfl, Or.inr (Or.inr ⟨⟨hqx, hqy⟩, zz, hn, rfl⟩), by show va_P D vwCl [(y0, .inr (4, [.int (nI 0), .ref y1, .ref y2, .ref y3, .ref y4, .ref y5, .ref y6, .ref y7, .ref y8, .ref y9, .ref ya, .ref yb, .ref yc, .ref yd, .ref ye, .int md, .int o1, .int o2, .int mo, .ref yf, .ref yg, .ref yh])), (yf, .inl (cI, 5, .inl (upd Va x (nI zz)))), (yg, .inl (cI, 10, .inl Ha))] t9.heap; rw [ht9]; exact hP⟩, hS.F ht9⟩) hS.2.2 dX4_load_65

set_option maxHeartbeats 4000000 in
set_option maxRecDepth 100000 in
/-- store -/
theorem k_X4_store (l : Launch) (D : va_G) (cI cZ cJ : ClassId) (sz : Nat) (Va Ha : Nat → Int32) (VA : Nat → Nat) (HA : Nat → Option Nat) (x y : Nat) (cd md o1 o2 mo : Int32) (y0 y1 y2 y3 y4 y5 y6 y7 y8 y9 ya yb yc yd ye yf yg yh : Nat) (hH : hr_h Va Ha VA HA) (hx9 : x < 2 ^ 32) (hy : y < 2 ^ 32) : Met l yX4_store (Cond.code yX4_store cX4_store 3 none :: hwG) { frames := 1, cells := 0, slots := 0, locals := 21 } (hp_M [.ref y0, .int (nI x), .int (nI y)] D cI cZ cJ [(y0, .inr (4, [.int cd, .ref y1, .ref y2, .ref y3, .ref y4, .ref y5, .ref y6, .ref y7, .ref y8, .ref y9, .ref ya, .ref yb, .ref yc, .ref yd, .ref ye, .int md, .int o1, .int o2, .int mo, .ref yf, .ref yg, .ref yh])), (yf, .inl (cI, 5, .inl Va)), (yg, .inl (cI, 10, .inl Ha))] sz) (va_Qv (S := Int32 × (Nat → Int32) × (Nat → Int32)) (fun u => (¬ (x < 5 ∧ y < 6) ∧ u = (nI 1, Va, Ha)) ∨ ((x < 5 ∧ y < 6) ∧ HA (VA x) = none ∧ u = (nI 2, Va, Ha)) ∨ ((x < 5 ∧ y < 6) ∧ HA (VA x) ≠ none ∧ u = (nI 0, Va, upd Ha (VA x) (nI (VA y))))) (fun u t => va_P D vwCl ([(y0, .inr (4, [.int u.1, .ref y1, .ref y2, .ref y3, .ref y4, .ref y5, .ref y6, .ref y7, .ref y8, .ref y9, .ref ya, .ref yb, .ref yc, .ref yd, .ref ye, .int md, .int o1, .int o2, .int mo, .ref yf, .ref yg, .ref yh])), (yf, .inl (cI, 5, .inl u.2.1)), (yg, .inl (cI, 10, .inl u.2.2))]) t.heap) (va_A [(y0, .inr (4, [.int cd, .ref y1, .ref y2, .ref y3, .ref y4, .ref y5, .ref y6, .ref y7, .ref y8, .ref y9, .ref ya, .ref yb, .ref yc, .ref yd, .ref ye, .int md, .int o1, .int o2, .int mo, .ref yf, .ref yg, .ref yh])), (yf, .inl (cI, 5, .inl Va)), (yg, .inl (cI, 10, .inl Ha))] sz)) 0 0 (va_A [(y0, .inr (4, [.int cd, .ref y1, .ref y2, .ref y3, .ref y4, .ref y5, .ref y6, .ref y7, .ref y8, .ref y9, .ref ya, .ref yb, .ref yc, .ref yd, .ref ye, .int md, .int o1, .int o2, .int mo, .ref yf, .ref yg, .ref yh])), (yf, .inl (cI, 5, .inl Va)), (yg, .inl (cI, 10, .inl Ha))] sz) := by
  refine Met.ofW (cc := cX4_store) (maxL := 3) (ret := none) (by decide) rfl ?_
  intro p e s m args below meth c s₁ B hml hv
  obtain ⟨rfl, hsz, hP, hz, hD0⟩ := hv
  have hx := B.exec
  have hb := B.bytes
  have hr := B.returns
  have hts := atoms_spec (ws := (Cond.code yX4_store cX4_store 3 none :: hwG)) B.pre
  have htg := fun w h => hts w (List.mem_cons_of_mem _ h)
  have hown : s.vm.findClass RX4 = some m.cls := findClass_of_methodNamed B.named
  have hlocks := B.notSynchronized
  have hK := hz.1
  subst hsz
  have hD := hD0.self (sz := s.heap.size)
  generalize hAe : va_A [(y0, .inr (4, [.int cd, .ref y1, .ref y2, .ref y3, .ref y4, .ref y5, .ref y6, .ref y7, .ref y8, .ref y9, .ref ya, .ref yb, .ref yc, .ref yd, .ref ye, .int md, .int o1, .int o2, .int mo, .ref yf, .ref yg, .ref yh])), (yf, .inl (cI, 5, .inl Va)), (yg, .inl (cI, 10, .inl Ha))] s.heap.size = A at hD ⊢
  have hA : ∀ q : Nat, s.heap.size ≤ q → A q := fun q h => by rw [← hAe]; exact Or.inr h
  have hS : va_S A s.heap s.heap [] := va_S.rf
  have hl := lv_entry ([.ref y0, .int (nI x), .int (nI y)]) (n := 3) (Nat.le_of_ble_eq_true rfl)
  rw [lg_entry_eq]
  generalize (lg_sl ([.ref y0, .int (nI x), .int (nI y)]) ++ List.replicate (3 - (lg_sl ([.ref y0, .int (nI x), .int (nI y)])).length) Slot.unset).toArray = ls at hl ⊢
  replace hl : lv_has ls 3 [(0, .ref y0), (1, .int (nI x)), (2, .int (nI y))] := hl
  replace hP : va_P D vwCl [(y0, .inr (4, [.int cd, .ref y1, .ref y2, .ref y3, .ref y4, .ref y5, .ref y6, .ref y7, .ref y8, .ref y9, .ref ya, .ref yb, .ref yc, .ref yd, .ref ye, .int md, .int o1, .int o2, .int mo, .ref yf, .ref yg, .ref yh])), (yf, .inl (cI, 5, .inl Va)), (yg, .inl (cI, 10, .inl Ha))] s.heap := hP
  refine lv_aload_n hx hb dX4_store_0 rfl (lv_at hl 0 rfl) ?_
  refine lv_iload_n hx hb dX4_store_1 rfl (lv_at hl 1 rfl) ?_
  refine hw_csi (va_runS (As := [.int (nI x)]) (rest := [.ref y0]) ⟨hx, hb, hml, hown, htg⟩ (k_X4_noVariable l D cI cZ cJ x hx9) (va_cwS 1 htg (hg_S hm_661 hm_662 hm_6 hm_663) rfl rfl rfl (by decide +kernel) ⟨Nat.le_of_ble_eq_true rfl, Nat.le_of_ble_eq_true rfl⟩) ⟨hp_R_blind, hp_R_pre (hP.sub (ws' := []) [] rfl) hz⟩ rfl rfl hl.1 rfl (lv_room (Nat.le_of_ble_eq_true rfl)) dX4_store_2 ⟨Nat.zero_le _, Nat.zero_le _⟩) (fun r hqx => ?_)
  rcases hqx with ⟨rfl, hqx⟩ | ⟨rfl, hqx⟩
  · refine lv_if_ne hx hb dX4_store_5 rfl (fun hc => ?_) (fun hc => absurd hc (by decide))
    refine lv_iconst (v := nI 1) hx hb dX4_store_15 (by decide) ?_
    refine lv_goto hx hb dX4_store_16 rfl ?_
    refine va_put (D := D) (ci := 4) (v := .int (nI 1)) (ty := .int) (C := RX4) (T := TX4) (N := 22) hx hb htg hi_X4 tyX4 tyX4_ok nmX4 hown hK hP hD hS 0 rfl rfl 0 (by decide) (htg _ hm_496) (fun _ h9 => h9) rfl (by decide +kernel) rfl rfl (Nat.le_of_ble_eq_true rfl) dX4_store_38 (fun H locs hP hD hS => ?_)
    replace hP : va_P D vwCl [(y0, .inr (4, [.int (nI 1), .ref y1, .ref y2, .ref y3, .ref y4, .ref y5, .ref y6, .ref y7, .ref y8, .ref y9, .ref ya, .ref yb, .ref yc, .ref yd, .ref ye, .int md, .int o1, .int o2, .int mo, .ref yf, .ref yg, .ref yh])), (yf, .inl (cI, 5, .inl Va)), (yg, .inl (cI, 10, .inl Ha))] H := hP
    replace hD : va_D A [(y0, .inr (4, [.int (nI 1), .ref y1, .ref y2, .ref y3, .ref y4, .ref y5, .ref y6, .ref y7, .ref y8, .ref y9, .ref ya, .ref yb, .ref yc, .ref yd, .ref ye, .int md, .int o1, .int o2, .int mo, .ref yf, .ref yg, .ref yh])), (yf, .inl (cI, 5, .inl Va)), (yg, .inl (cI, 10, .inl Ha))] := hD
    refine lv_aload_n hx hb dX4_store_41 rfl (lv_at hl 0 rfl) ?_
    refine va_get (D := D) (ci := 4) (v := .int (nI 1)) (C := RX4) (T := TX4) (N := 22) hx hb htg hi_X4 hown hK hP 0 rfl rfl 0 (by decide) (htg _ hm_496) (fun _ h9 => h9) rfl dX4_store_42 ?_
    refine lv_if_ne hx hb dX4_store_45 rfl (fun hc => ?_) (fun hc => absurd hc (by decide))
    exact W.vret hx hb hr (fun t9 ht9 hW9 => ⟨⟨(nI 1, Va, Ha), rfl, Or.inl ⟨fun h => hqx h.1, rfl⟩, by show va_P D vwCl [(y0, .inr (4, [.int (nI 1), .ref y1, .ref y2, .ref y3, .ref y4, .ref y5, .ref y6, .ref y7, .ref y8, .ref y9, .ref ya, .ref yb, .ref yc, .ref yd, .ref ye, .int md, .int o1, .int o2, .int mo, .ref yf, .ref yg, .ref yh])), (yf, .inl (cI, 5, .inl Va)), (yg, .inl (cI, 10, .inl Ha))] t9.heap; rw [ht9]; exact hP⟩, hS.F ht9⟩) hS.2.2 dX4_store_64
  · refine lv_if_ne hx hb dX4_store_5 rfl (fun hc => absurd rfl hc) (fun hc => ?_)
    have hqx := Classical.not_not.mp hqx
    refine lv_iload_n hx hb dX4_store_8 rfl (lv_at hl 2 rfl) ?_
    refine hw_csi (va_runS (As := [.int (nI y)]) (rest := [.ref y0]) ⟨hx, hb, hml, hown, htg⟩ (k_X4_noTerm l D cI cZ cJ y hy) (va_cwS 1 htg (hg_S hm_574 hm_575 hm_6 hm_576) rfl rfl rfl (by decide +kernel) ⟨Nat.le_of_ble_eq_true rfl, Nat.le_of_ble_eq_true rfl⟩) ⟨hp_R_blind, hp_R_pre (hP.sub (ws' := []) [] rfl) hz⟩ rfl rfl hl.1 rfl (lv_room (Nat.le_of_ble_eq_true rfl)) dX4_store_9 ⟨Nat.zero_le _, Nat.zero_le _⟩) (fun r hqy => ?_)
    rcases hqy with ⟨rfl, hqy⟩ | ⟨rfl, hqy⟩
    · refine lv_if_eq hx hb dX4_store_12 rfl (fun hc => absurd hc (by decide)) (fun hc => ?_)
      refine lv_iconst (v := nI 1) hx hb dX4_store_15 (by decide) ?_
      refine lv_goto hx hb dX4_store_16 rfl ?_
      refine va_put (D := D) (ci := 4) (v := .int (nI 1)) (ty := .int) (C := RX4) (T := TX4) (N := 22) hx hb htg hi_X4 tyX4 tyX4_ok nmX4 hown hK hP hD hS 0 rfl rfl 0 (by decide) (htg _ hm_496) (fun _ h9 => h9) rfl (by decide +kernel) rfl rfl (Nat.le_of_ble_eq_true rfl) dX4_store_38 (fun H locs hP hD hS => ?_)
      replace hP : va_P D vwCl [(y0, .inr (4, [.int (nI 1), .ref y1, .ref y2, .ref y3, .ref y4, .ref y5, .ref y6, .ref y7, .ref y8, .ref y9, .ref ya, .ref yb, .ref yc, .ref yd, .ref ye, .int md, .int o1, .int o2, .int mo, .ref yf, .ref yg, .ref yh])), (yf, .inl (cI, 5, .inl Va)), (yg, .inl (cI, 10, .inl Ha))] H := hP
      replace hD : va_D A [(y0, .inr (4, [.int (nI 1), .ref y1, .ref y2, .ref y3, .ref y4, .ref y5, .ref y6, .ref y7, .ref y8, .ref y9, .ref ya, .ref yb, .ref yc, .ref yd, .ref ye, .int md, .int o1, .int o2, .int mo, .ref yf, .ref yg, .ref yh])), (yf, .inl (cI, 5, .inl Va)), (yg, .inl (cI, 10, .inl Ha))] := hD
      refine lv_aload_n hx hb dX4_store_41 rfl (lv_at hl 0 rfl) ?_
      refine va_get (D := D) (ci := 4) (v := .int (nI 1)) (C := RX4) (T := TX4) (N := 22) hx hb htg hi_X4 hown hK hP 0 rfl rfl 0 (by decide) (htg _ hm_496) (fun _ h9 => h9) rfl dX4_store_42 ?_
      refine lv_if_ne hx hb dX4_store_45 rfl (fun hc => ?_) (fun hc => absurd hc (by decide))
      exact W.vret hx hb hr (fun t9 ht9 hW9 => ⟨⟨(nI 1, Va, Ha), rfl, Or.inl ⟨fun h => hqy h.2, rfl⟩, by show va_P D vwCl [(y0, .inr (4, [.int (nI 1), .ref y1, .ref y2, .ref y3, .ref y4, .ref y5, .ref y6, .ref y7, .ref y8, .ref y9, .ref ya, .ref yb, .ref yc, .ref yd, .ref ye, .int md, .int o1, .int o2, .int mo, .ref yf, .ref yg, .ref yh])), (yf, .inl (cI, 5, .inl Va)), (yg, .inl (cI, 10, .inl Ha))] t9.heap; rw [ht9]; exact hP⟩, hS.F ht9⟩) hS.2.2 dX4_store_64
    · refine lv_if_eq hx hb dX4_store_12 rfl (fun hc => ?_) (fun hc => absurd rfl hc)
      have hqy := Classical.not_not.mp hqy
      have hv9 := hr_v6 hH x (by omega)
      rcases hs_opt (HA (VA x)) with hn | ⟨zz, hn⟩
      · refine lv_aload_n hx hb dX4_store_19 rfl (lv_at hl 0 rfl) ?_
        refine va_get (D := D) (ci := 4) (v := .ref yg) (C := RX4) (T := TX4) (N := 22) hx hb htg hi_X4 hown hK hP 0 rfl rfl 20 (by decide) (htg _ hm_516) (fun _ h9 => h9) rfl dX4_store_20 ?_
        refine lv_aload_n hx hb dX4_store_23 rfl (lv_at hl 0 rfl) ?_
        refine va_get (D := D) (ci := 4) (v := .ref yf) (C := RX4) (T := TX4) (N := 22) hx hb htg hi_X4 hown hK hP 0 rfl rfl 19 (by decide) (htg _ hm_515) (fun _ h9 => h9) rfl dX4_store_24 ?_
        refine lv_iload_n hx hb dX4_store_27 rfl (lv_at hl 1 rfl) ?_
        refine hw_iald hx hb hK hP 1 0 rfl rfl (j := x) (by omega) (by first | decide | omega) (v := nI (VA x)) ((hH.2.1 x (by omega)).1) dX4_store_28 ?_
        refine hw_iald hx hb hK hP 2 0 rfl rfl (j := (VA x)) (by omega) (by first | decide | omega) (v := -1) ((hH.2.2.2 _ (by omega)).1 hn) dX4_store_29 ?_
        refine lv_if_ge hx hb dX4_store_30 rfl (fun hc => absurd hc (by decide)) (fun hc => ?_)
        refine lv_iconst (v := nI 2) hx hb dX4_store_33 (by decide) ?_
        refine lv_goto hx hb dX4_store_34 rfl ?_
        refine va_put (D := D) (ci := 4) (v := .int (nI 2)) (ty := .int) (C := RX4) (T := TX4) (N := 22) hx hb htg hi_X4 tyX4 tyX4_ok nmX4 hown hK hP hD hS 0 rfl rfl 0 (by decide) (htg _ hm_496) (fun _ h9 => h9) rfl (by decide +kernel) rfl rfl (Nat.le_of_ble_eq_true rfl) dX4_store_38 (fun H locs hP hD hS => ?_)
        replace hP : va_P D vwCl [(y0, .inr (4, [.int (nI 2), .ref y1, .ref y2, .ref y3, .ref y4, .ref y5, .ref y6, .ref y7, .ref y8, .ref y9, .ref ya, .ref yb, .ref yc, .ref yd, .ref ye, .int md, .int o1, .int o2, .int mo, .ref yf, .ref yg, .ref yh])), (yf, .inl (cI, 5, .inl Va)), (yg, .inl (cI, 10, .inl Ha))] H := hP
        replace hD : va_D A [(y0, .inr (4, [.int (nI 2), .ref y1, .ref y2, .ref y3, .ref y4, .ref y5, .ref y6, .ref y7, .ref y8, .ref y9, .ref ya, .ref yb, .ref yc, .ref yd, .ref ye, .int md, .int o1, .int o2, .int mo, .ref yf, .ref yg, .ref yh])), (yf, .inl (cI, 5, .inl Va)), (yg, .inl (cI, 10, .inl Ha))] := hD
        refine lv_aload_n hx hb dX4_store_41 rfl (lv_at hl 0 rfl) ?_
        refine va_get (D := D) (ci := 4) (v := .int (nI 2)) (C := RX4) (T := TX4) (N := 22) hx hb htg hi_X4 hown hK hP 0 rfl rfl 0 (by decide) (htg _ hm_496) (fun _ h9 => h9) rfl dX4_store_42 ?_
        refine lv_if_ne hx hb dX4_store_45 rfl (fun hc => ?_) (fun hc => absurd hc (by decide))
        exact W.vret hx hb hr (fun t9 ht9 hW9 => ⟨⟨(nI 2, Va, Ha), rfl, Or.inr (Or.inl ⟨⟨hqx, hqy⟩, hn, rfl⟩), by show va_P D vwCl [(y0, .inr (4, [.int (nI 2), .ref y1, .ref y2, .ref y3, .ref y4, .ref y5, .ref y6, .ref y7, .ref y8, .ref y9, .ref ya, .ref yb, .ref yc, .ref yd, .ref ye, .int md, .int o1, .int o2, .int mo, .ref yf, .ref yg, .ref yh])), (yf, .inl (cI, 5, .inl Va)), (yg, .inl (cI, 10, .inl Ha))] t9.heap; rw [ht9]; exact hP⟩, hS.F ht9⟩) hS.2.2 dX4_store_64
      · obtain ⟨c1, c2⟩ := (hH.2.2.2 (VA x) (by omega)).2 zz hn
        refine lv_aload_n hx hb dX4_store_19 rfl (lv_at hl 0 rfl) ?_
        refine va_get (D := D) (ci := 4) (v := .ref yg) (C := RX4) (T := TX4) (N := 22) hx hb htg hi_X4 hown hK hP 0 rfl rfl 20 (by decide) (htg _ hm_516) (fun _ h9 => h9) rfl dX4_store_20 ?_
        refine lv_aload_n hx hb dX4_store_23 rfl (lv_at hl 0 rfl) ?_
        refine va_get (D := D) (ci := 4) (v := .ref yf) (C := RX4) (T := TX4) (N := 22) hx hb htg hi_X4 hown hK hP 0 rfl rfl 19 (by decide) (htg _ hm_515) (fun _ h9 => h9) rfl dX4_store_24 ?_
        refine lv_iload_n hx hb dX4_store_27 rfl (lv_at hl 1 rfl) ?_
        refine hw_iald hx hb hK hP 1 0 rfl rfl (j := x) (by omega) (by first | decide | omega) (v := nI (VA x)) ((hH.2.1 x (by omega)).1) dX4_store_28 ?_
        refine hw_iald hx hb hK hP 2 0 rfl rfl (j := (VA x)) (by omega) (by first | decide | omega) (v := nI zz) (c2) dX4_store_29 ?_
        refine lv_if_ge hx hb dX4_store_30 rfl (fun hc => ?_) (fun hc => absurd (nI_pos' (by omega)) hc)
        refine lv_iconst (v := nI 0) hx hb dX4_store_37 (by decide) ?_
        refine va_put (D := D) (ci := 4) (v := .int (nI 0)) (ty := .int) (C := RX4) (T := TX4) (N := 22) hx hb htg hi_X4 tyX4 tyX4_ok nmX4 hown hK hP hD hS 0 rfl rfl 0 (by decide) (htg _ hm_496) (fun _ h9 => h9) rfl (by decide +kernel) rfl rfl (Nat.le_of_ble_eq_true rfl) dX4_store_38 (fun H locs hP hD hS => ?_)
        replace hP : va_P D vwCl [(y0, .inr (4, [.int (nI 0), .ref y1, .ref y2, .ref y3, .ref y4, .ref y5, .ref y6, .ref y7, .ref y8, .ref y9, .ref ya, .ref yb, .ref yc, .ref yd, .ref ye, .int md, .int o1, .int o2, .int mo, .ref yf, .ref yg, .ref yh])), (yf, .inl (cI, 5, .inl Va)), (yg, .inl (cI, 10, .inl Ha))] H := hP
        replace hD : va_D A [(y0, .inr (4, [.int (nI 0), .ref y1, .ref y2, .ref y3, .ref y4, .ref y5, .ref y6, .ref y7, .ref y8, .ref y9, .ref ya, .ref yb, .ref yc, .ref yd, .ref ye, .int md, .int o1, .int o2, .int mo, .ref yf, .ref yg, .ref yh])), (yf, .inl (cI, 5, .inl Va)), (yg, .inl (cI, 10, .inl Ha))] := hD
        refine lv_aload_n hx hb dX4_store_41 rfl (lv_at hl 0 rfl) ?_
        refine va_get (D := D) (ci := 4) (v := .int (nI 0)) (C := RX4) (T := TX4) (N := 22) hx hb htg hi_X4 hown hK hP 0 rfl rfl 0 (by decide) (htg _ hm_496) (fun _ h9 => h9) rfl dX4_store_42 ?_
        refine lv_if_ne hx hb dX4_store_45 rfl (fun hc => absurd hc (by decide)) (fun hc => ?_)
        refine lv_aload_n hx hb dX4_store_48 rfl (lv_at hl 0 rfl) ?_
        refine va_get (D := D) (ci := 4) (v := .ref yg) (C := RX4) (T := TX4) (N := 22) hx hb htg hi_X4 hown hK hP 0 rfl rfl 20 (by decide) (htg _ hm_516) (fun _ h9 => h9) rfl dX4_store_49 ?_
        refine lv_aload_n hx hb dX4_store_52 rfl (lv_at hl 0 rfl) ?_
        refine va_get (D := D) (ci := 4) (v := .ref yf) (C := RX4) (T := TX4) (N := 22) hx hb htg hi_X4 hown hK hP 0 rfl rfl 19 (by decide) (htg _ hm_515) (fun _ h9 => h9) rfl dX4_store_53 ?_
        refine lv_iload_n hx hb dX4_store_56 rfl (lv_at hl 1 rfl) ?_
        refine hw_iald hx hb hK hP 1 0 rfl rfl (j := x) (by omega) (by first | decide | omega) (v := nI (VA x)) ((hH.2.1 x (by omega)).1) dX4_store_57 ?_
        refine lv_aload_n hx hb dX4_store_58 rfl (lv_at hl 0 rfl) ?_
        refine lv_iload_n hx hb dX4_store_59 rfl (lv_at hl 2 rfl) ?_
        refine hw_csi (va_runV (C := RX4) (b := y0) (As := [.int (nI y)]) (rest := [.int (nI (VA x)), .ref yg]) ⟨hx, hb, hml, hown, htg⟩ (k_X4_valueOf l D cI cZ cJ Va Ha VA HA y (nI 0) md o1 o2 mo y0 y1 y2 y3 y4 y5 y6 y7 y8 y9 ya yb yc yd ye yf yg yh hH hqy) (cwV 1 htg (hg_V hm_672 hm_674 hs_yX4_valueOf hm_6 hm_675) rfl rfl rfl (by decide +kernel) ⟨Nat.le_of_ble_eq_true rfl, Nat.le_of_ble_eq_true rfl⟩) ⟨hp_R_blind, va_recv (q := (RX4, TX4, 22)) (q0 := 0) (ci := 4) hK hP rfl rfl, hp_R_pre (hP.sub (ws' := [(y0, .inr (4, [.int (nI 0), .ref y1, .ref y2, .ref y3, .ref y4, .ref y5, .ref y6, .ref y7, .ref y8, .ref y9, .ref ya, .ref yb, .ref yc, .ref yd, .ref ye, .int md, .int o1, .int o2, .int mo, .ref yf, .ref yg, .ref yh])), (yf, .inl (cI, 5, .inl Va))]) [0, 1] rfl) hz⟩ rfl rfl hl.1 rfl (lv_room (Nat.le_of_ble_eq_true rfl)) dX4_store_60 ⟨Nat.zero_le _, Nat.zero_le _⟩) (fun r9 hv9 => ?_)
        subst hv9
        refine hw_iast hx hb hK hP hD hS 2 0 rfl rfl (j := (VA x)) (by omega) (by first | decide | omega) dX4_store_63 (fun H locs hP hD hS => ?_)
        replace hP : va_P D vwCl [(y0, .inr (4, [.int (nI 0), .ref y1, .ref y2, .ref y3, .ref y4, .ref y5, .ref y6, .ref y7, .ref y8, .ref y9, .ref ya, .ref yb, .ref yc, .ref yd, .ref ye, .int md, .int o1, .int o2, .int mo, .ref yf, .ref yg, .ref yh])), (yf, .inl (cI, 5, .inl Va)), (yg, .inl (cI, 10, .inl (upd Ha (VA x) (nI (VA y)))))] H := hP
        replace hD : va_D A [(y0, .inr (4, [.int (nI 0), .ref y1, .ref y2, .ref y3, .ref y4, .ref y5, .ref y6, .ref y7, .ref y8, .ref y9, .ref ya, .ref yb, .ref yc, .ref yd, .ref ye, .int md, .int o1, .int o2, .int mo, .ref yf, .ref yg, .ref yh])), (yf, .inl (cI, 5, .inl Va)), (yg, .inl (cI, 10, .inl (upd Ha (VA x) (nI (VA y)))))] := hD
        exact W.vret hx hb hr (fun t9 ht9 hW9 => ⟨⟨(nI 0, Va, upd Ha (VA x) (nI (VA y))), rfl, Or.inr (Or.inr ⟨⟨hqx, hqy⟩, by rw [hn]; exact fun q => (by cases q), rfl⟩), by show va_P D vwCl [(y0, .inr (4, [.int (nI 0), .ref y1, .ref y2, .ref y3, .ref y4, .ref y5, .ref y6, .ref y7, .ref y8, .ref y9, .ref ya, .ref yb, .ref yc, .ref yd, .ref ye, .int md, .int o1, .int o2, .int mo, .ref yf, .ref yg, .ref yh])), (yf, .inl (cI, 5, .inl Va)), (yg, .inl (cI, 10, .inl (upd Ha (VA x) (nI (VA y)))))] t9.heap; rw [ht9]; exact hP⟩, hS.F ht9⟩) hS.2.2 dX4_store_64

set_option maxHeartbeats 4000000 in
set_option maxRecDepth 100000 in
/-- drop -/
theorem k_X4_drop (l : Launch) (D : va_G) (cI cZ cJ : ClassId) (sz : Nat) (Va Ha : Nat → Int32) (VA : Nat → Nat) (HA : Nat → Option Nat) (x : Nat) (cd md o1 o2 mo : Int32) (y0 y1 y2 y3 y4 y5 y6 y7 y8 y9 ya yb yc yd ye yf yg yh : Nat) (hH : hr_h Va Ha VA HA) (hx9 : x < 2 ^ 32) : Met l yX4_drop (Cond.code yX4_drop cX4_drop 2 none :: hwG) { frames := 1, cells := 0, slots := 0, locals := 20 } (hp_M [.ref y0, .int (nI x)] D cI cZ cJ [(y0, .inr (4, [.int cd, .ref y1, .ref y2, .ref y3, .ref y4, .ref y5, .ref y6, .ref y7, .ref y8, .ref y9, .ref ya, .ref yb, .ref yc, .ref yd, .ref ye, .int md, .int o1, .int o2, .int mo, .ref yf, .ref yg, .ref yh])), (yf, .inl (cI, 5, .inl Va)), (yg, .inl (cI, 10, .inl Ha))] sz) (va_Qv (S := Int32 × (Nat → Int32) × (Nat → Int32)) (fun u => (¬ x < 5 ∧ u = (nI 1, Va, Ha)) ∨ (x < 5 ∧ HA (VA x) = none ∧ u = (nI 2, Va, Ha)) ∨ (x < 5 ∧ HA (VA x) ≠ none ∧ u = (nI 0, Va, upd Ha (VA x) (-1)))) (fun u t => va_P D vwCl ([(y0, .inr (4, [.int u.1, .ref y1, .ref y2, .ref y3, .ref y4, .ref y5, .ref y6, .ref y7, .ref y8, .ref y9, .ref ya, .ref yb, .ref yc, .ref yd, .ref ye, .int md, .int o1, .int o2, .int mo, .ref yf, .ref yg, .ref yh])), (yf, .inl (cI, 5, .inl u.2.1)), (yg, .inl (cI, 10, .inl u.2.2))]) t.heap) (va_A [(y0, .inr (4, [.int cd, .ref y1, .ref y2, .ref y3, .ref y4, .ref y5, .ref y6, .ref y7, .ref y8, .ref y9, .ref ya, .ref yb, .ref yc, .ref yd, .ref ye, .int md, .int o1, .int o2, .int mo, .ref yf, .ref yg, .ref yh])), (yf, .inl (cI, 5, .inl Va)), (yg, .inl (cI, 10, .inl Ha))] sz)) 0 0 (va_A [(y0, .inr (4, [.int cd, .ref y1, .ref y2, .ref y3, .ref y4, .ref y5, .ref y6, .ref y7, .ref y8, .ref y9, .ref ya, .ref yb, .ref yc, .ref yd, .ref ye, .int md, .int o1, .int o2, .int mo, .ref yf, .ref yg, .ref yh])), (yf, .inl (cI, 5, .inl Va)), (yg, .inl (cI, 10, .inl Ha))] sz) := by
  refine Met.ofW (cc := cX4_drop) (maxL := 2) (ret := none) (by decide) rfl ?_
  intro p e s m args below meth c s₁ B hml hv
  obtain ⟨rfl, hsz, hP, hz, hD0⟩ := hv
  have hx := B.exec
  have hb := B.bytes
  have hr := B.returns
  have hts := atoms_spec (ws := (Cond.code yX4_drop cX4_drop 2 none :: hwG)) B.pre
  have htg := fun w h => hts w (List.mem_cons_of_mem _ h)
  have hown : s.vm.findClass RX4 = some m.cls := findClass_of_methodNamed B.named
  have hlocks := B.notSynchronized
  have hK := hz.1
  subst hsz
  have hD := hD0.self (sz := s.heap.size)
  generalize hAe : va_A [(y0, .inr (4, [.int cd, .ref y1, .ref y2, .ref y3, .ref y4, .ref y5, .ref y6, .ref y7, .ref y8, .ref y9, .ref ya, .ref yb, .ref yc, .ref yd, .ref ye, .int md, .int o1, .int o2, .int mo, .ref yf, .ref yg, .ref yh])), (yf, .inl (cI, 5, .inl Va)), (yg, .inl (cI, 10, .inl Ha))] s.heap.size = A at hD ⊢
  have hA : ∀ q : Nat, s.heap.size ≤ q → A q := fun q h => by rw [← hAe]; exact Or.inr h
  have hS : va_S A s.heap s.heap [] := va_S.rf
  have hl := lv_entry ([.ref y0, .int (nI x)]) (n := 2) (Nat.le_of_ble_eq_true rfl)
  rw [lg_entry_eq]
  generalize (lg_sl ([.ref y0, .int (nI x)]) ++ List.replicate (2 - (lg_sl ([.ref y0, .int (nI x)])).length) Slot.unset).toArray = ls at hl ⊢
  replace hl : lv_has ls 2 [(0, .ref y0), (1, .int (nI x))] := hl
  replace hP : va_P D vwCl [(y0, .inr (4, [.int cd, .ref y1, .ref y2, .ref y3, .ref y4, .ref y5, .ref y6, .ref y7, .ref y8, .ref y9, .ref ya, .ref yb, .ref yc, .ref yd, .ref ye, .int md, .int o1, .int o2, .int mo, .ref yf, .ref yg, .ref yh])), (yf, .inl (cI, 5, .inl Va)), (yg, .inl (cI, 10, .inl Ha))] s.heap := hP
  refine lv_aload_n hx hb dX4_drop_0 rfl (lv_at hl 0 rfl) ?_
  refine lv_iload_n hx hb dX4_drop_1 rfl (lv_at hl 1 rfl) ?_
  refine hw_csi (va_runS (As := [.int (nI x)]) (rest := [.ref y0]) ⟨hx, hb, hml, hown, htg⟩ (k_X4_noVariable l D cI cZ cJ x hx9) (va_cwS 1 htg (hg_S hm_661 hm_662 hm_6 hm_663) rfl rfl rfl (by decide +kernel) ⟨Nat.le_of_ble_eq_true rfl, Nat.le_of_ble_eq_true rfl⟩) ⟨hp_R_blind, hp_R_pre (hP.sub (ws' := []) [] rfl) hz⟩ rfl rfl hl.1 rfl (lv_room (Nat.le_of_ble_eq_true rfl)) dX4_drop_2 ⟨Nat.zero_le _, Nat.zero_le _⟩) (fun r hqx => ?_)
  rcases hqx with ⟨rfl, hqx⟩ | ⟨rfl, hqx⟩
  · refine lv_if_eq hx hb dX4_drop_5 rfl (fun hc => absurd hc (by decide)) (fun hc => ?_)
    refine lv_iconst (v := nI 1) hx hb dX4_drop_8 (by decide) ?_
    refine lv_goto hx hb dX4_drop_9 rfl ?_
    refine va_put (D := D) (ci := 4) (v := .int (nI 1)) (ty := .int) (C := RX4) (T := TX4) (N := 22) hx hb htg hi_X4 tyX4 tyX4_ok nmX4 hown hK hP hD hS 0 rfl rfl 0 (by decide) (htg _ hm_496) (fun _ h9 => h9) rfl (by decide +kernel) rfl rfl (Nat.le_of_ble_eq_true rfl) dX4_drop_31 (fun H locs hP hD hS => ?_)
    replace hP : va_P D vwCl [(y0, .inr (4, [.int (nI 1), .ref y1, .ref y2, .ref y3, .ref y4, .ref y5, .ref y6, .ref y7, .ref y8, .ref y9, .ref ya, .ref yb, .ref yc, .ref yd, .ref ye, .int md, .int o1, .int o2, .int mo, .ref yf, .ref yg, .ref yh])), (yf, .inl (cI, 5, .inl Va)), (yg, .inl (cI, 10, .inl Ha))] H := hP
    replace hD : va_D A [(y0, .inr (4, [.int (nI 1), .ref y1, .ref y2, .ref y3, .ref y4, .ref y5, .ref y6, .ref y7, .ref y8, .ref y9, .ref ya, .ref yb, .ref yc, .ref yd, .ref ye, .int md, .int o1, .int o2, .int mo, .ref yf, .ref yg, .ref yh])), (yf, .inl (cI, 5, .inl Va)), (yg, .inl (cI, 10, .inl Ha))] := hD
    refine lv_aload_n hx hb dX4_drop_34 rfl (lv_at hl 0 rfl) ?_
    refine va_get (D := D) (ci := 4) (v := .int (nI 1)) (C := RX4) (T := TX4) (N := 22) hx hb htg hi_X4 hown hK hP 0 rfl rfl 0 (by decide) (htg _ hm_496) (fun _ h9 => h9) rfl dX4_drop_35 ?_
    refine lv_if_ne hx hb dX4_drop_38 rfl (fun hc => ?_) (fun hc => absurd hc (by decide))
    exact W.vret hx hb hr (fun t9 ht9 hW9 => ⟨⟨(nI 1, Va, Ha), rfl, Or.inl ⟨hqx, rfl⟩, by show va_P D vwCl [(y0, .inr (4, [.int (nI 1), .ref y1, .ref y2, .ref y3, .ref y4, .ref y5, .ref y6, .ref y7, .ref y8, .ref y9, .ref ya, .ref yb, .ref yc, .ref yd, .ref ye, .int md, .int o1, .int o2, .int mo, .ref yf, .ref yg, .ref yh])), (yf, .inl (cI, 5, .inl Va)), (yg, .inl (cI, 10, .inl Ha))] t9.heap; rw [ht9]; exact hP⟩, hS.F ht9⟩) hS.2.2 dX4_drop_53
  · refine lv_if_eq hx hb dX4_drop_5 rfl (fun hc => ?_) (fun hc => absurd rfl hc)
    have hqx := Classical.not_not.mp hqx
    have hv9 := hr_v6 hH x (by omega)
    rcases hs_opt (HA (VA x)) with hn | ⟨zz, hn⟩
    · refine lv_aload_n hx hb dX4_drop_12 rfl (lv_at hl 0 rfl) ?_
      refine va_get (D := D) (ci := 4) (v := .ref yg) (C := RX4) (T := TX4) (N := 22) hx hb htg hi_X4 hown hK hP 0 rfl rfl 20 (by decide) (htg _ hm_516) (fun _ h9 => h9) rfl dX4_drop_13 ?_
      refine lv_aload_n hx hb dX4_drop_16 rfl (lv_at hl 0 rfl) ?_
      refine va_get (D := D) (ci := 4) (v := .ref yf) (C := RX4) (T := TX4) (N := 22) hx hb htg hi_X4 hown hK hP 0 rfl rfl 19 (by decide) (htg _ hm_515) (fun _ h9 => h9) rfl dX4_drop_17 ?_
      refine lv_iload_n hx hb dX4_drop_20 rfl (lv_at hl 1 rfl) ?_
      refine hw_iald hx hb hK hP 1 0 rfl rfl (j := x) (by omega) (by first | decide | omega) (v := nI (VA x)) ((hH.2.1 x (by omega)).1) dX4_drop_21 ?_
      refine hw_iald hx hb hK hP 2 0 rfl rfl (j := (VA x)) (by omega) (by first | decide | omega) (v := -1) ((hH.2.2.2 _ (by omega)).1 hn) dX4_drop_22 ?_
      refine lv_if_ge hx hb dX4_drop_23 rfl (fun hc => absurd hc (by decide)) (fun hc => ?_)
      refine lv_iconst (v := nI 2) hx hb dX4_drop_26 (by decide) ?_
      refine lv_goto hx hb dX4_drop_27 rfl ?_
      refine va_put (D := D) (ci := 4) (v := .int (nI 2)) (ty := .int) (C := RX4) (T := TX4) (N := 22) hx hb htg hi_X4 tyX4 tyX4_ok nmX4 hown hK hP hD hS 0 rfl rfl 0 (by decide) (htg _ hm_496) (fun _ h9 => h9) rfl (by decide +kernel) rfl rfl (Nat.le_of_ble_eq_true rfl) dX4_drop_31 (fun H locs hP hD hS => ?_)
      replace hP : va_P D vwCl [(y0, .inr (4, [.int (nI 2), .ref y1, .ref y2, .ref y3, .ref y4, .ref y5, .ref y6, .ref y7, .ref y8, .ref y9, .ref ya, .ref yb, .ref yc, .ref yd, .ref ye, .int md, .int o1, .int o2, .int mo, .ref yf, .ref yg, .ref yh])), (yf, .inl (cI, 5, .inl Va)), (yg, .inl (cI, 10, .inl Ha))] H := hP
      replace hD : va_D A [(y0, .inr (4, [.int (nI 2), .ref y1, .ref y2, .ref y3, .ref y4, .ref y5, .ref y6, .ref y7, .ref y8, .ref y9, .ref ya, .ref yb, .ref yc, .ref yd, .ref ye, .int md, .int o1, .int o2, .int mo, .ref yf, .ref yg, .ref yh])), (yf, .inl (cI, 5, .inl Va)), (yg, .inl (cI, 10, .inl Ha))] := hD
      refine lv_aload_n hx hb dX4_drop_34 rfl (lv_at hl 0 rfl) ?_
      refine va_get (D := D) (ci := 4) (v := .int (nI 2)) (C := RX4) (T := TX4) (N := 22) hx hb htg hi_X4 hown hK hP 0 rfl rfl 0 (by decide) (htg _ hm_496) (fun _ h9 => h9) rfl dX4_drop_35 ?_
      refine lv_if_ne hx hb dX4_drop_38 rfl (fun hc => ?_) (fun hc => absurd hc (by decide))
      exact W.vret hx hb hr (fun t9 ht9 hW9 => ⟨⟨(nI 2, Va, Ha), rfl, Or.inr (Or.inl ⟨hqx, hn, rfl⟩), by show va_P D vwCl [(y0, .inr (4, [.int (nI 2), .ref y1, .ref y2, .ref y3, .ref y4, .ref y5, .ref y6, .ref y7, .ref y8, .ref y9, .ref ya, .ref yb, .ref yc, .ref yd, .ref ye, .int md, .int o1, .int o2, .int mo, .ref yf, .ref yg, .ref yh])), (yf, .inl (cI, 5, .inl Va)), (yg, .inl (cI, 10, .inl Ha))] t9.heap; rw [ht9]; exact hP⟩, hS.F ht9⟩) hS.2.2 dX4_drop_53
    · obtain ⟨c1, c2⟩ := (hH.2.2.2 (VA x) (by omega)).2 zz hn
      refine lv_aload_n hx hb dX4_drop_12 rfl (lv_at hl 0 rfl) ?_
      refine va_get (D := D) (ci := 4) (v := .ref yg) (C := RX4) (T := TX4) (N := 22) hx hb htg hi_X4 hown hK hP 0 rfl rfl 20 (by decide) (htg _ hm_516) (fun _ h9 => h9) rfl dX4_drop_13 ?_
      refine lv_aload_n hx hb dX4_drop_16 rfl (lv_at hl 0 rfl) ?_
      refine va_get (D := D) (ci := 4) (v := .ref yf) (C := RX4) (T := TX4) (N := 22) hx hb htg hi_X4 hown hK hP 0 rfl rfl 19 (by decide) (htg _ hm_515) (fun _ h9 => h9) rfl dX4_drop_17 ?_
      refine lv_iload_n hx hb dX4_drop_20 rfl (lv_at hl 1 rfl) ?_
      refine hw_iald hx hb hK hP 1 0 rfl rfl (j := x) (by omega) (by first | decide | omega) (v := nI (VA x)) ((hH.2.1 x (by omega)).1) dX4_drop_21 ?_
      refine hw_iald hx hb hK hP 2 0 rfl rfl (j := (VA x)) (by omega) (by first | decide | omega) (v := nI zz) (c2) dX4_drop_22 ?_
      refine lv_if_ge hx hb dX4_drop_23 rfl (fun hc => ?_) (fun hc => absurd (nI_pos' (by omega)) hc)
      refine lv_iconst (v := nI 0) hx hb dX4_drop_30 (by decide) ?_
      refine va_put (D := D) (ci := 4) (v := .int (nI 0)) (ty := .int) (C := RX4) (T := TX4) (N := 22) hx hb htg hi_X4 tyX4 tyX4_ok nmX4 hown hK hP hD hS 0 rfl rfl 0 (by decide) (htg _ hm_496) (fun _ h9 => h9) rfl (by decide +kernel) rfl rfl (Nat.le_of_ble_eq_true rfl) dX4_drop_31 (fun H locs hP hD hS => ?_)
      replace hP : va_P D vwCl [(y0, .inr (4, [.int (nI 0), .ref y1, .ref y2, .ref y3, .ref y4, .ref y5, .ref y6, .ref y7, .ref y8, .ref y9, .ref ya, .ref yb, .ref yc, .ref yd, .ref ye, .int md, .int o1, .int o2, .int mo, .ref yf, .ref yg, .ref yh])), (yf, .inl (cI, 5, .inl Va)), (yg, .inl (cI, 10, .inl Ha))] H := hP
      replace hD : va_D A [(y0, .inr (4, [.int (nI 0), .ref y1, .ref y2, .ref y3, .ref y4, .ref y5, .ref y6, .ref y7, .ref y8, .ref y9, .ref ya, .ref yb, .ref yc, .ref yd, .ref ye, .int md, .int o1, .int o2, .int mo, .ref yf, .ref yg, .ref yh])), (yf, .inl (cI, 5, .inl Va)), (yg, .inl (cI, 10, .inl Ha))] := hD
      refine lv_aload_n hx hb dX4_drop_34 rfl (lv_at hl 0 rfl) ?_
      refine va_get (D := D) (ci := 4) (v := .int (nI 0)) (C := RX4) (T := TX4) (N := 22) hx hb htg hi_X4 hown hK hP 0 rfl rfl 0 (by decide) (htg _ hm_496) (fun _ h9 => h9) rfl dX4_drop_35 ?_
      refine lv_if_ne hx hb dX4_drop_38 rfl (fun hc => absurd hc (by decide)) (fun hc => ?_)
      refine lv_aload_n hx hb dX4_drop_41 rfl (lv_at hl 0 rfl) ?_
      refine va_get (D := D) (ci := 4) (v := .ref yg) (C := RX4) (T := TX4) (N := 22) hx hb htg hi_X4 hown hK hP 0 rfl rfl 20 (by decide) (htg _ hm_516) (fun _ h9 => h9) rfl dX4_drop_42 ?_
      refine lv_aload_n hx hb dX4_drop_45 rfl (lv_at hl 0 rfl) ?_
      refine va_get (D := D) (ci := 4) (v := .ref yf) (C := RX4) (T := TX4) (N := 22) hx hb htg hi_X4 hown hK hP 0 rfl rfl 19 (by decide) (htg _ hm_515) (fun _ h9 => h9) rfl dX4_drop_46 ?_
      refine lv_iload_n hx hb dX4_drop_49 rfl (lv_at hl 1 rfl) ?_
      refine hw_iald hx hb hK hP 1 0 rfl rfl (j := x) (by omega) (by first | decide | omega) (v := nI (VA x)) ((hH.2.1 x (by omega)).1) dX4_drop_50 ?_
      refine lv_iconst (v := (-1)) hx hb dX4_drop_51 (by decide) ?_
      refine hw_iast hx hb hK hP hD hS 2 0 rfl rfl (j := (VA x)) (by omega) (by first | decide | omega) dX4_drop_52 (fun H locs hP hD hS => ?_)
      replace hP : va_P D vwCl [(y0, .inr (4, [.int (nI 0), .ref y1, .ref y2, .ref y3, .ref y4, .ref y5, .ref y6, .ref y7, .ref y8, .ref y9, .ref ya, .ref yb, .ref yc, .ref yd, .ref ye, .int md, .int o1, .int o2, .int mo, .ref yf, .ref yg, .ref yh])), (yf, .inl (cI, 5, .inl Va)), (yg, .inl (cI, 10, .inl (upd Ha (VA x) (-1))))] H := hP
      replace hD : va_D A [(y0, .inr (4, [.int (nI 0), .ref y1, .ref y2, .ref y3, .ref y4, .ref y5, .ref y6, .ref y7, .ref y8, .ref y9, .ref ya, .ref yb, .ref yc, .ref yd, .ref ye, .int md, .int o1, .int o2, .int mo, .ref yf, .ref yg, .ref yh])), (yf, .inl (cI, 5, .inl Va)), (yg, .inl (cI, 10, .inl (upd Ha (VA x) (-1))))] := hD
      exact W.vret hx hb hr (fun t9 ht9 hW9 => ⟨⟨(nI 0, Va, upd Ha (VA x) (-1)), rfl, Or.inr (Or.inr ⟨hqx, by rw [hn]; exact fun q => (by cases q), rfl⟩), by show va_P D vwCl [(y0, .inr (4, [.int (nI 0), .ref y1, .ref y2, .ref y3, .ref y4, .ref y5, .ref y6, .ref y7, .ref y8, .ref y9, .ref ya, .ref yb, .ref yc, .ref yd, .ref ye, .int md, .int o1, .int o2, .int mo, .ref yf, .ref yg, .ref yh])), (yf, .inl (cI, 5, .inl Va)), (yg, .inl (cI, 10, .inl (upd Ha (VA x) (-1))))] t9.heap; rw [ht9]; exact hP⟩, hS.F ht9⟩) hS.2.2 dX4_drop_53

set_option maxHeartbeats 4000000 in
set_option maxRecDepth 100000 in
/-- make -/
theorem k_X4_make (l : Launch) (D : va_G) (cI cZ cJ : ClassId) (sz : Nat) (Va Ha : Nat → Int32) (VA : Nat → Nat) (HA : Nat → Option Nat) (x : Nat) (cd md o1 o2 mo : Int32) (y0 y1 y2 y3 y4 y5 y6 y7 y8 y9 ya yb yc yd ye yf yg yh : Nat) (hH : hr_h Va Ha VA HA) (hx9 : x < 2 ^ 32) : Met l yX4_make (Cond.code yX4_make cX4_make 3 none :: hwG) { frames := 1, cells := 0, slots := 0, locals := 20 } (hp_M [.ref y0, .int (nI x)] D cI cZ cJ [(y0, .inr (4, [.int cd, .ref y1, .ref y2, .ref y3, .ref y4, .ref y5, .ref y6, .ref y7, .ref y8, .ref y9, .ref ya, .ref yb, .ref yc, .ref yd, .ref ye, .int md, .int o1, .int o2, .int mo, .ref yf, .ref yg, .ref yh])), (yf, .inl (cI, 5, .inl Va)), (yg, .inl (cI, 10, .inl Ha))] sz) (va_Qv (S := Int32 × (Nat → Int32) × (Nat → Int32)) (fun u => (¬ x < 5 ∧ u = (nI 1, Va, Ha)) ∨ (x < 5 ∧ (∀ j, 1 ≤ j → j ≤ 9 → HA j ≠ none) ∧ u = (nI 2, Va, Ha)) ∨ (x < 5 ∧ ∃ b, 1 ≤ b ∧ b ≤ 9 ∧ HA b = none ∧ (∀ j, 1 ≤ j → j < b → HA j ≠ none) ∧ u = (nI 0, upd Va x (nI b), upd Ha b (nI 0)))) (fun u t => va_P D vwCl ([(y0, .inr (4, [.int u.1, .ref y1, .ref y2, .ref y3, .ref y4, .ref y5, .ref y6, .ref y7, .ref y8, .ref y9, .ref ya, .ref yb, .ref yc, .ref yd, .ref ye, .int md, .int o1, .int o2, .int mo, .ref yf, .ref yg, .ref yh])), (yf, .inl (cI, 5, .inl u.2.1)), (yg, .inl (cI, 10, .inl u.2.2))]) t.heap) (va_A [(y0, .inr (4, [.int cd, .ref y1, .ref y2, .ref y3, .ref y4, .ref y5, .ref y6, .ref y7, .ref y8, .ref y9, .ref ya, .ref yb, .ref yc, .ref yd, .ref ye, .int md, .int o1, .int o2, .int mo, .ref yf, .ref yg, .ref yh])), (yf, .inl (cI, 5, .inl Va)), (yg, .inl (cI, 10, .inl Ha))] sz)) 0 0 (va_A [(y0, .inr (4, [.int cd, .ref y1, .ref y2, .ref y3, .ref y4, .ref y5, .ref y6, .ref y7, .ref y8, .ref y9, .ref ya, .ref yb, .ref yc, .ref yd, .ref ye, .int md, .int o1, .int o2, .int mo, .ref yf, .ref yg, .ref yh])), (yf, .inl (cI, 5, .inl Va)), (yg, .inl (cI, 10, .inl Ha))] sz) := by
  refine Met.ofW (cc := cX4_make) (maxL := 3) (ret := none) (by decide) rfl ?_
  intro p e s m args below meth c s₁ B hml hv
  obtain ⟨rfl, hsz, hP, hz, hD0⟩ := hv
  have hx := B.exec
  have hb := B.bytes
  have hr := B.returns
  have hts := atoms_spec (ws := (Cond.code yX4_make cX4_make 3 none :: hwG)) B.pre
  have htg := fun w h => hts w (List.mem_cons_of_mem _ h)
  have hown : s.vm.findClass RX4 = some m.cls := findClass_of_methodNamed B.named
  have hlocks := B.notSynchronized
  have hK := hz.1
  subst hsz
  have hD := hD0.self (sz := s.heap.size)
  generalize hAe : va_A [(y0, .inr (4, [.int cd, .ref y1, .ref y2, .ref y3, .ref y4, .ref y5, .ref y6, .ref y7, .ref y8, .ref y9, .ref ya, .ref yb, .ref yc, .ref yd, .ref ye, .int md, .int o1, .int o2, .int mo, .ref yf, .ref yg, .ref yh])), (yf, .inl (cI, 5, .inl Va)), (yg, .inl (cI, 10, .inl Ha))] s.heap.size = A at hD ⊢
  have hA : ∀ q : Nat, s.heap.size ≤ q → A q := fun q h => by rw [← hAe]; exact Or.inr h
  have hS : va_S A s.heap s.heap [] := va_S.rf
  have hl := lv_entry ([.ref y0, .int (nI x)]) (n := 3) (Nat.le_of_ble_eq_true rfl)
  rw [lg_entry_eq]
  generalize (lg_sl ([.ref y0, .int (nI x)]) ++ List.replicate (3 - (lg_sl ([.ref y0, .int (nI x)])).length) Slot.unset).toArray = ls at hl ⊢
  replace hl : lv_has ls 3 [(0, .ref y0), (1, .int (nI x))] := hl
  replace hP : va_P D vwCl [(y0, .inr (4, [.int cd, .ref y1, .ref y2, .ref y3, .ref y4, .ref y5, .ref y6, .ref y7, .ref y8, .ref y9, .ref ya, .ref yb, .ref yc, .ref yd, .ref ye, .int md, .int o1, .int o2, .int mo, .ref yf, .ref yg, .ref yh])), (yf, .inl (cI, 5, .inl Va)), (yg, .inl (cI, 10, .inl Ha))] s.heap := hP
  refine lv_iconst (v := nI 1) hx hb dX4_make_0 (by decide) ?_
  refine lv_istore_n hx hb dX4_make_1 rfl hl (by decide) rfl (fun ls hl => ?_)
  replace hl : lv_has ls 3 [(2, .int (nI 1)), (0, .ref y0), (1, .int (nI x))] := hl
  obtain ⟨b, e_b⟩ : ∃ z : Nat, z = 1 := ⟨_, rfl⟩
  replace hl : lv_has ls 3 [(2, .int (nI b)), (0, .ref y0), (1, .int (nI x))] := by subst e_b; exact hl
  have hI : ∀ j, 1 ≤ j → j < b → HA j ≠ none := by subst e_b; exact fun j h1 h2 => absurd h2 (by omega)
  have hb1 : 1 ≤ b ∧ b ≤ 10 := by subst e_b; omega
  clear e_b
  obtain ⟨k, hk⟩ : ∃ k : Nat, k = 10 - b := ⟨_, rfl⟩
  induction k generalizing b ls  with
  | zero =>
    refine lv_iload_n hx hb dX4_make_2 rfl (lv_at hl 0 rfl) ?_
    refine lv_bipush (v := nI 10) hx hb dX4_make_3 (by decide) ?_
    refine hw_icmp_ge hx hb (by omega) (by omega) dX4_make_5 rfl (fun hc => ?_) (fun hc => absurd hc (by omega))
    refine lv_aload_n hx hb dX4_make_23 rfl (lv_at hl 1 rfl) ?_
    refine lv_iload_n hx hb dX4_make_24 rfl (lv_at hl 2 rfl) ?_
    refine hw_csi (va_runS (As := [.int (nI x)]) (rest := [.ref y0]) ⟨hx, hb, hml, hown, htg⟩ (k_X4_noVariable l D cI cZ cJ x hx9) (va_cwS 1 htg (hg_S hm_661 hm_662 hm_6 hm_663) rfl rfl rfl (by decide +kernel) ⟨Nat.le_of_ble_eq_true rfl, Nat.le_of_ble_eq_true rfl⟩) ⟨hp_R_blind, hp_R_pre (hP.sub (ws' := []) [] rfl) hz⟩ rfl rfl hl.1 rfl (lv_room (Nat.le_of_ble_eq_true rfl)) dX4_make_25 ⟨Nat.zero_le _, Nat.zero_le _⟩) (fun r hqx => ?_)
    rcases hqx with ⟨rfl, hqx⟩ | ⟨rfl, hqx⟩
    · refine lv_if_eq hx hb dX4_make_28 rfl (fun hc9 => absurd hc9 (by decide)) (fun hc9 => ?_)
      refine lv_iconst (v := nI 1) hx hb dX4_make_31 (by decide) ?_
      refine lv_goto hx hb dX4_make_32 rfl ?_
      refine va_put (D := D) (ci := 4) (v := .int (nI 1)) (ty := .int) (C := RX4) (T := TX4) (N := 22) hx hb htg hi_X4 tyX4 tyX4_ok nmX4 hown hK hP hD hS 0 rfl rfl 0 (by decide) (htg _ hm_496) (fun _ h9 => h9) rfl (by decide +kernel) rfl rfl (Nat.le_of_ble_eq_true rfl) dX4_make_46 (fun H locs hP hD hS => ?_)
      replace hP : va_P D vwCl [(y0, .inr (4, [.int (nI 1), .ref y1, .ref y2, .ref y3, .ref y4, .ref y5, .ref y6, .ref y7, .ref y8, .ref y9, .ref ya, .ref yb, .ref yc, .ref yd, .ref ye, .int md, .int o1, .int o2, .int mo, .ref yf, .ref yg, .ref yh])), (yf, .inl (cI, 5, .inl Va)), (yg, .inl (cI, 10, .inl Ha))] H := hP
      replace hD : va_D A [(y0, .inr (4, [.int (nI 1), .ref y1, .ref y2, .ref y3, .ref y4, .ref y5, .ref y6, .ref y7, .ref y8, .ref y9, .ref ya, .ref yb, .ref yc, .ref yd, .ref ye, .int md, .int o1, .int o2, .int mo, .ref yf, .ref yg, .ref yh])), (yf, .inl (cI, 5, .inl Va)), (yg, .inl (cI, 10, .inl Ha))] := hD
      refine lv_aload_n hx hb dX4_make_49 rfl (lv_at hl 1 rfl) ?_
      refine va_get (D := D) (ci := 4) (v := .int (nI 1)) (C := RX4) (T := TX4) (N := 22) hx hb htg hi_X4 hown hK hP 0 rfl rfl 0 (by decide) (htg _ hm_496) (fun _ h9 => h9) rfl dX4_make_50 ?_
      refine lv_if_le hx hb dX4_make_53 rfl (fun hc9 => absurd hc9 (by decide)) (fun hc9 => ?_)
      exact W.vret hx hb hr (fun t9 ht9 hW9 => ⟨⟨(nI 1, Va, Ha), rfl, Or.inl ⟨hqx, rfl⟩, by show va_P D vwCl [(y0, .inr (4, [.int (nI 1), .ref y1, .ref y2, .ref y3, .ref y4, .ref y5, .ref y6, .ref y7, .ref y8, .ref y9, .ref ya, .ref yb, .ref yc, .ref yd, .ref ye, .int md, .int o1, .int o2, .int mo, .ref yf, .ref yg, .ref yh])), (yf, .inl (cI, 5, .inl Va)), (yg, .inl (cI, 10, .inl Ha))] t9.heap; rw [ht9]; exact hP⟩, hS.F ht9⟩) hS.2.2 dX4_make_56
    · refine lv_if_eq hx hb dX4_make_28 rfl (fun hc9 => ?_) (fun hc9 => absurd rfl hc9)
      have hqx := Classical.not_not.mp hqx
      refine lv_iload_n hx hb dX4_make_35 rfl (lv_at hl 0 rfl) ?_
      refine lv_bipush (v := nI 10) hx hb dX4_make_36 (by decide) ?_
      refine hw_icmp_ne hx hb (by omega) (by omega) dX4_make_38 rfl (fun hc9 => absurd hc9 (by omega)) (fun hc9 => ?_)
      refine lv_iconst (v := nI 2) hx hb dX4_make_41 (by decide) ?_
      refine lv_goto hx hb dX4_make_42 rfl ?_
      refine va_put (D := D) (ci := 4) (v := .int (nI 2)) (ty := .int) (C := RX4) (T := TX4) (N := 22) hx hb htg hi_X4 tyX4 tyX4_ok nmX4 hown hK hP hD hS 0 rfl rfl 0 (by decide) (htg _ hm_496) (fun _ h9 => h9) rfl (by decide +kernel) rfl rfl (Nat.le_of_ble_eq_true rfl) dX4_make_46 (fun H locs hP hD hS => ?_)
      replace hP : va_P D vwCl [(y0, .inr (4, [.int (nI 2), .ref y1, .ref y2, .ref y3, .ref y4, .ref y5, .ref y6, .ref y7, .ref y8, .ref y9, .ref ya, .ref yb, .ref yc, .ref yd, .ref ye, .int md, .int o1, .int o2, .int mo, .ref yf, .ref yg, .ref yh])), (yf, .inl (cI, 5, .inl Va)), (yg, .inl (cI, 10, .inl Ha))] H := hP
      replace hD : va_D A [(y0, .inr (4, [.int (nI 2), .ref y1, .ref y2, .ref y3, .ref y4, .ref y5, .ref y6, .ref y7, .ref y8, .ref y9, .ref ya, .ref yb, .ref yc, .ref yd, .ref ye, .int md, .int o1, .int o2, .int mo, .ref yf, .ref yg, .ref yh])), (yf, .inl (cI, 5, .inl Va)), (yg, .inl (cI, 10, .inl Ha))] := hD
      refine lv_aload_n hx hb dX4_make_49 rfl (lv_at hl 1 rfl) ?_
      refine va_get (D := D) (ci := 4) (v := .int (nI 2)) (C := RX4) (T := TX4) (N := 22) hx hb htg hi_X4 hown hK hP 0 rfl rfl 0 (by decide) (htg _ hm_496) (fun _ h9 => h9) rfl dX4_make_50 ?_
      refine lv_if_le hx hb dX4_make_53 rfl (fun hc9 => absurd hc9 (by decide)) (fun hc9 => ?_)
      exact W.vret hx hb hr (fun t9 ht9 hW9 => ⟨⟨(nI 2, Va, Ha), rfl, Or.inr (Or.inl ⟨hqx, fun j h1 h2 => hI j h1 (by omega), rfl⟩), by show va_P D vwCl [(y0, .inr (4, [.int (nI 2), .ref y1, .ref y2, .ref y3, .ref y4, .ref y5, .ref y6, .ref y7, .ref y8, .ref y9, .ref ya, .ref yb, .ref yc, .ref yd, .ref ye, .int md, .int o1, .int o2, .int mo, .ref yf, .ref yg, .ref yh])), (yf, .inl (cI, 5, .inl Va)), (yg, .inl (cI, 10, .inl Ha))] t9.heap; rw [ht9]; exact hP⟩, hS.F ht9⟩) hS.2.2 dX4_make_56
  | succ k ih =>
    refine lv_iload_n hx hb dX4_make_2 rfl (lv_at hl 0 rfl) ?_
    refine lv_bipush (v := nI 10) hx hb dX4_make_3 (by decide) ?_
    refine hw_icmp_ge hx hb (by omega) (by omega) dX4_make_5 rfl (fun hc => absurd hc (by omega)) (fun hc => ?_)
    rcases hs_opt (HA (b)) with hn | ⟨zz, hn⟩
    · refine lv_aload_n hx hb dX4_make_8 rfl (lv_at hl 1 rfl) ?_
      refine va_get (D := D) (ci := 4) (v := .ref yg) (C := RX4) (T := TX4) (N := 22) hx hb htg hi_X4 hown hK hP 0 rfl rfl 20 (by decide) (htg _ hm_516) (fun _ h9 => h9) rfl dX4_make_9 ?_
      refine lv_iload_n hx hb dX4_make_12 rfl (lv_at hl 0 rfl) ?_
      refine hw_iald hx hb hK hP 2 0 rfl rfl (j := b) (by omega) (by first | decide | omega) (v := -1) ((hH.2.2.2 _ (by omega)).1 hn) dX4_make_13 ?_
      refine lv_if_lt hx hb dX4_make_14 rfl (fun hc9 => ?_) (fun hc9 => absurd (by decide) hc9)
      refine lv_aload_n hx hb dX4_make_23 rfl (lv_at hl 1 rfl) ?_
      refine lv_iload_n hx hb dX4_make_24 rfl (lv_at hl 2 rfl) ?_
      refine hw_csi (va_runS (As := [.int (nI x)]) (rest := [.ref y0]) ⟨hx, hb, hml, hown, htg⟩ (k_X4_noVariable l D cI cZ cJ x hx9) (va_cwS 1 htg (hg_S hm_661 hm_662 hm_6 hm_663) rfl rfl rfl (by decide +kernel) ⟨Nat.le_of_ble_eq_true rfl, Nat.le_of_ble_eq_true rfl⟩) ⟨hp_R_blind, hp_R_pre (hP.sub (ws' := []) [] rfl) hz⟩ rfl rfl hl.1 rfl (lv_room (Nat.le_of_ble_eq_true rfl)) dX4_make_25 ⟨Nat.zero_le _, Nat.zero_le _⟩) (fun r hqx => ?_)
      rcases hqx with ⟨rfl, hqx⟩ | ⟨rfl, hqx⟩
      · refine lv_if_eq hx hb dX4_make_28 rfl (fun hc9 => absurd hc9 (by decide)) (fun hc9 => ?_)
        refine lv_iconst (v := nI 1) hx hb dX4_make_31 (by decide) ?_
        refine lv_goto hx hb dX4_make_32 rfl ?_
        refine va_put (D := D) (ci := 4) (v := .int (nI 1)) (ty := .int) (C := RX4) (T := TX4) (N := 22) hx hb htg hi_X4 tyX4 tyX4_ok nmX4 hown hK hP hD hS 0 rfl rfl 0 (by decide) (htg _ hm_496) (fun _ h9 => h9) rfl (by decide +kernel) rfl rfl (Nat.le_of_ble_eq_true rfl) dX4_make_46 (fun H locs hP hD hS => ?_)
        replace hP : va_P D vwCl [(y0, .inr (4, [.int (nI 1), .ref y1, .ref y2, .ref y3, .ref y4, .ref y5, .ref y6, .ref y7, .ref y8, .ref y9, .ref ya, .ref yb, .ref yc, .ref yd, .ref ye, .int md, .int o1, .int o2, .int mo, .ref yf, .ref yg, .ref yh])), (yf, .inl (cI, 5, .inl Va)), (yg, .inl (cI, 10, .inl Ha))] H := hP
        replace hD : va_D A [(y0, .inr (4, [.int (nI 1), .ref y1, .ref y2, .ref y3, .ref y4, .ref y5, .ref y6, .ref y7, .ref y8, .ref y9, .ref ya, .ref yb, .ref yc, .ref yd, .ref ye, .int md, .int o1, .int o2, .int mo, .ref yf, .ref yg, .ref yh])), (yf, .inl (cI, 5, .inl Va)), (yg, .inl (cI, 10, .inl Ha))] := hD
        refine lv_aload_n hx hb dX4_make_49 rfl (lv_at hl 1 rfl) ?_
        refine va_get (D := D) (ci := 4) (v := .int (nI 1)) (C := RX4) (T := TX4) (N := 22) hx hb htg hi_X4 hown hK hP 0 rfl rfl 0 (by decide) (htg _ hm_496) (fun _ h9 => h9) rfl dX4_make_50 ?_
        refine lv_if_le hx hb dX4_make_53 rfl (fun hc9 => absurd hc9 (by decide)) (fun hc9 => ?_)
        exact W.vret hx hb hr (fun t9 ht9 hW9 => ⟨⟨(nI 1, Va, Ha), rfl, Or.inl ⟨hqx, rfl⟩, by show va_P D vwCl [(y0, .inr (4, [.int (nI 1), .ref y1, .ref y2, .ref y3, .ref y4, .ref y5, .ref y6, .ref y7, .ref y8, .ref y9, .ref ya, .ref yb, .ref yc, .ref yd, .ref ye, .int md, .int o1, .int o2, .int mo, .ref yf, .ref yg, .ref yh])), (yf, .inl (cI, 5, .inl Va)), (yg, .inl (cI, 10, .inl Ha))] t9.heap; rw [ht9]; exact hP⟩, hS.F ht9⟩) hS.2.2 dX4_make_56
      · refine lv_if_eq hx hb dX4_make_28 rfl (fun hc9 => ?_) (fun hc9 => absurd rfl hc9)
        have hqx := Classical.not_not.mp hqx
        refine lv_iload_n hx hb dX4_make_35 rfl (lv_at hl 0 rfl) ?_
        refine lv_bipush (v := nI 10) hx hb dX4_make_36 (by decide) ?_
        refine hw_icmp_ne hx hb (by omega) (by omega) dX4_make_38 rfl (fun hc9 => ?_) (fun hc9 => absurd hc9 (by omega))
        refine lv_iconst (v := nI 0) hx hb dX4_make_45 (by decide) ?_
        refine va_put (D := D) (ci := 4) (v := .int (nI 0)) (ty := .int) (C := RX4) (T := TX4) (N := 22) hx hb htg hi_X4 tyX4 tyX4_ok nmX4 hown hK hP hD hS 0 rfl rfl 0 (by decide) (htg _ hm_496) (fun _ h9 => h9) rfl (by decide +kernel) rfl rfl (Nat.le_of_ble_eq_true rfl) dX4_make_46 (fun H locs hP hD hS => ?_)
        replace hP : va_P D vwCl [(y0, .inr (4, [.int (nI 0), .ref y1, .ref y2, .ref y3, .ref y4, .ref y5, .ref y6, .ref y7, .ref y8, .ref y9, .ref ya, .ref yb, .ref yc, .ref yd, .ref ye, .int md, .int o1, .int o2, .int mo, .ref yf, .ref yg, .ref yh])), (yf, .inl (cI, 5, .inl Va)), (yg, .inl (cI, 10, .inl Ha))] H := hP
        replace hD : va_D A [(y0, .inr (4, [.int (nI 0), .ref y1, .ref y2, .ref y3, .ref y4, .ref y5, .ref y6, .ref y7, .ref y8, .ref y9, .ref ya, .ref yb, .ref yc, .ref yd, .ref ye, .int md, .int o1, .int o2, .int mo, .ref yf, .ref yg, .ref yh])), (yf, .inl (cI, 5, .inl Va)), (yg, .inl (cI, 10, .inl Ha))] := hD
        refine lv_aload_n hx hb dX4_make_49 rfl (lv_at hl 1 rfl) ?_
        refine va_get (D := D) (ci := 4) (v := .int (nI 0)) (C := RX4) (T := TX4) (N := 22) hx hb htg hi_X4 hown hK hP 0 rfl rfl 0 (by decide) (htg _ hm_496) (fun _ h9 => h9) rfl dX4_make_50 ?_
        refine lv_if_le hx hb dX4_make_53 rfl (fun hc9 => ?_) (fun hc9 => absurd (by decide) hc9)
        refine lv_aload_n hx hb dX4_make_57 rfl (lv_at hl 1 rfl) ?_
        refine va_get (D := D) (ci := 4) (v := .ref yg) (C := RX4) (T := TX4) (N := 22) hx hb htg hi_X4 hown hK hP 0 rfl rfl 20 (by decide) (htg _ hm_516) (fun _ h9 => h9) rfl dX4_make_58 ?_
        refine lv_iload_n hx hb dX4_make_61 rfl (lv_at hl 0 rfl) ?_
        refine lv_iconst (v := nI 0) hx hb dX4_make_62 (by decide) ?_
        refine hw_iast hx hb hK hP hD hS 2 0 rfl rfl (j := b) (by omega) (by first | decide | omega) dX4_make_63 (fun H locs hP hD hS => ?_)
        replace hP : va_P D vwCl [(y0, .inr (4, [.int (nI 0), .ref y1, .ref y2, .ref y3, .ref y4, .ref y5, .ref y6, .ref y7, .ref y8, .ref y9, .ref ya, .ref yb, .ref yc, .ref yd, .ref ye, .int md, .int o1, .int o2, .int mo, .ref yf, .ref yg, .ref yh])), (yf, .inl (cI, 5, .inl Va)), (yg, .inl (cI, 10, .inl (upd Ha b (nI 0))))] H := hP
        replace hD : va_D A [(y0, .inr (4, [.int (nI 0), .ref y1, .ref y2, .ref y3, .ref y4, .ref y5, .ref y6, .ref y7, .ref y8, .ref y9, .ref ya, .ref yb, .ref yc, .ref yd, .ref ye, .int md, .int o1, .int o2, .int mo, .ref yf, .ref yg, .ref yh])), (yf, .inl (cI, 5, .inl Va)), (yg, .inl (cI, 10, .inl (upd Ha b (nI 0))))] := hD
        refine lv_aload_n hx hb dX4_make_64 rfl (lv_at hl 1 rfl) ?_
        refine va_get (D := D) (ci := 4) (v := .ref yf) (C := RX4) (T := TX4) (N := 22) hx hb htg hi_X4 hown hK hP 0 rfl rfl 19 (by decide) (htg _ hm_515) (fun _ h9 => h9) rfl dX4_make_65 ?_
        refine lv_iload_n hx hb dX4_make_68 rfl (lv_at hl 2 rfl) ?_
        refine lv_iload_n hx hb dX4_make_69 rfl (lv_at hl 0 rfl) ?_
        refine hw_iast hx hb hK hP hD hS 1 0 rfl rfl (j := x) (by omega) (by first | decide | omega) dX4_make_70 (fun H locs hP hD hS => ?_)
        replace hP : va_P D vwCl [(y0, .inr (4, [.int (nI 0), .ref y1, .ref y2, .ref y3, .ref y4, .ref y5, .ref y6, .ref y7, .ref y8, .ref y9, .ref ya, .ref yb, .ref yc, .ref yd, .ref ye, .int md, .int o1, .int o2, .int mo, .ref yf, .ref yg, .ref yh])), (yf, .inl (cI, 5, .inl (upd Va x (nI b)))), (yg, .inl (cI, 10, .inl (upd Ha b (nI 0))))] H := hP
        replace hD : va_D A [(y0, .inr (4, [.int (nI 0), .ref y1, .ref y2, .ref y3, .ref y4, .ref y5, .ref y6, .ref y7, .ref y8, .ref y9, .ref ya, .ref yb, .ref yc, .ref yd, .ref ye, .int md, .int o1, .int o2, .int mo, .ref yf, .ref yg, .ref yh])), (yf, .inl (cI, 5, .inl (upd Va x (nI b)))), (yg, .inl (cI, 10, .inl (upd Ha b (nI 0))))] := hD
        exact W.vret hx hb hr (fun t9 ht9 hW9 => ⟨⟨(nI 0, upd Va x (nI b), upd Ha b (nI 0)), rfl, Or.inr (Or.inr ⟨hqx, b, by omega, by omega, hn, hI, rfl⟩), by show va_P D vwCl [(y0, .inr (4, [.int (nI 0), .ref y1, .ref y2, .ref y3, .ref y4, .ref y5, .ref y6, .ref y7, .ref y8, .ref y9, .ref ya, .ref yb, .ref yc, .ref yd, .ref ye, .int md, .int o1, .int o2, .int mo, .ref yf, .ref yg, .ref yh])), (yf, .inl (cI, 5, .inl (upd Va x (nI b)))), (yg, .inl (cI, 10, .inl (upd Ha b (nI 0))))] t9.heap; rw [ht9]; exact hP⟩, hS.F ht9⟩) hS.2.2 dX4_make_71
    · obtain ⟨c1, c2⟩ := (hH.2.2.2 (b) (by omega)).2 zz hn
      refine lv_aload_n hx hb dX4_make_8 rfl (lv_at hl 1 rfl) ?_
      refine va_get (D := D) (ci := 4) (v := .ref yg) (C := RX4) (T := TX4) (N := 22) hx hb htg hi_X4 hown hK hP 0 rfl rfl 20 (by decide) (htg _ hm_516) (fun _ h9 => h9) rfl dX4_make_9 ?_
      refine lv_iload_n hx hb dX4_make_12 rfl (lv_at hl 0 rfl) ?_
      refine hw_iald hx hb hK hP 2 0 rfl rfl (j := b) (by omega) (by first | decide | omega) (v := nI zz) (c2) dX4_make_13 ?_
      refine lv_if_lt hx hb dX4_make_14 rfl (fun hc9 => absurd hc9 (nI_pos (by omega))) (fun hc9 => ?_)
      refine lv_iinc (v := nI (b + 1)) (k := 0) hx hb dX4_make_17 hl rfl (hw_inc _) (by decide) rfl (fun ls hl => ?_)
      replace hl : lv_has ls 3 [(2, .int (nI (b + 1))), (0, .ref y0), (1, .int (nI x))] := hl
      refine lv_goto hx hb dX4_make_20 rfl ?_
      refine ih (hl := hl) (hI := (fun j h1 h2 => ?_)) (hb1 := (by omega)) (hk := (by omega))
      by_cases hjb : j = b
      · rw [hjb, hn]; exact fun q => (by cases q)
      · exact hI j h1 (by omega)

set_option maxHeartbeats 4000000 in
set_option maxRecDepth 100000 in
/-- value -/
theorem k_X4_value (l : Launch) (D : va_G) (cI cZ cJ : ClassId) (sz : Nat) (Va Ha : Nat → Int32) (VA : Nat → Nat) (HA : Nat → Option Nat) (t : Nat) (cd md o1 o2 mo : Int32) (y0 y1 y2 y3 y4 y5 y6 y7 y8 y9 ya yb yc yd ye yf yg yh : Nat) (hH : hr_h Va Ha VA HA) (ht : t < 2 ^ 32) : Met l yX4_value (Cond.code yX4_value cX4_value 2 (some .int) :: hwG) { frames := 1, cells := 0, slots := 0, locals := 21 } (hp_M [.ref y0, .int (nI t)] D cI cZ cJ [(y0, .inr (4, [.int cd, .ref y1, .ref y2, .ref y3, .ref y4, .ref y5, .ref y6, .ref y7, .ref y8, .ref y9, .ref ya, .ref yb, .ref yc, .ref yd, .ref ye, .int md, .int o1, .int o2, .int mo, .ref yf, .ref yg, .ref yh])), (yf, .inl (cI, 5, .inl Va))] sz) (va_Qi (S := Int32) (fun r u => (¬ t < 6 ∧ r = nI 0 ∧ u = nI 1) ∨ (t < 6 ∧ r = nI (VA t) ∧ u = nI 0)) (fun u t => va_P D vwCl ([(y0, .inr (4, [.int u, .ref y1, .ref y2, .ref y3, .ref y4, .ref y5, .ref y6, .ref y7, .ref y8, .ref y9, .ref ya, .ref yb, .ref yc, .ref yd, .ref ye, .int md, .int o1, .int o2, .int mo, .ref yf, .ref yg, .ref yh])), (yf, .inl (cI, 5, .inl Va))]) t.heap) (va_A [(y0, .inr (4, [.int cd, .ref y1, .ref y2, .ref y3, .ref y4, .ref y5, .ref y6, .ref y7, .ref y8, .ref y9, .ref ya, .ref yb, .ref yc, .ref yd, .ref ye, .int md, .int o1, .int o2, .int mo, .ref yf, .ref yg, .ref yh])), (yf, .inl (cI, 5, .inl Va))] sz)) 0 0 (va_A [(y0, .inr (4, [.int cd, .ref y1, .ref y2, .ref y3, .ref y4, .ref y5, .ref y6, .ref y7, .ref y8, .ref y9, .ref ya, .ref yb, .ref yc, .ref yd, .ref ye, .int md, .int o1, .int o2, .int mo, .ref yf, .ref yg, .ref yh])), (yf, .inl (cI, 5, .inl Va))] sz) := by
  refine Met.ofW (cc := cX4_value) (maxL := 2) (ret := (some .int)) (by decide) rfl ?_
  intro p e s m args below meth c s₁ B hml hv
  obtain ⟨rfl, hsz, hP, hz, hD0⟩ := hv
  have hx := B.exec
  have hb := B.bytes
  have hr := B.returns
  have hts := atoms_spec (ws := (Cond.code yX4_value cX4_value 2 (some .int) :: hwG)) B.pre
  have htg := fun w h => hts w (List.mem_cons_of_mem _ h)
  have hown : s.vm.findClass RX4 = some m.cls := findClass_of_methodNamed B.named
  have hlocks := B.notSynchronized
  have hK := hz.1
  subst hsz
  have hD := hD0.self (sz := s.heap.size)
  generalize hAe : va_A [(y0, .inr (4, [.int cd, .ref y1, .ref y2, .ref y3, .ref y4, .ref y5, .ref y6, .ref y7, .ref y8, .ref y9, .ref ya, .ref yb, .ref yc, .ref yd, .ref ye, .int md, .int o1, .int o2, .int mo, .ref yf, .ref yg, .ref yh])), (yf, .inl (cI, 5, .inl Va))] s.heap.size = A at hD ⊢
  have hA : ∀ q : Nat, s.heap.size ≤ q → A q := fun q h => by rw [← hAe]; exact Or.inr h
  have hS : va_S A s.heap s.heap [] := va_S.rf
  have hl := lv_entry ([.ref y0, .int (nI t)]) (n := 2) (Nat.le_of_ble_eq_true rfl)
  rw [lg_entry_eq]
  generalize (lg_sl ([.ref y0, .int (nI t)]) ++ List.replicate (2 - (lg_sl ([.ref y0, .int (nI t)])).length) Slot.unset).toArray = ls at hl ⊢
  replace hl : lv_has ls 2 [(0, .ref y0), (1, .int (nI t))] := hl
  replace hP : va_P D vwCl [(y0, .inr (4, [.int cd, .ref y1, .ref y2, .ref y3, .ref y4, .ref y5, .ref y6, .ref y7, .ref y8, .ref y9, .ref ya, .ref yb, .ref yc, .ref yd, .ref ye, .int md, .int o1, .int o2, .int mo, .ref yf, .ref yg, .ref yh])), (yf, .inl (cI, 5, .inl Va))] s.heap := hP
  refine lv_aload_n hx hb dX4_value_0 rfl (lv_at hl 0 rfl) ?_
  refine lv_iload_n hx hb dX4_value_1 rfl (lv_at hl 1 rfl) ?_
  refine hw_csi (va_runS (As := [.int (nI t)]) (rest := [.ref y0]) ⟨hx, hb, hml, hown, htg⟩ (k_X4_noTerm l D cI cZ cJ t ht) (va_cwS 1 htg (hg_S hm_574 hm_575 hm_6 hm_576) rfl rfl rfl (by decide +kernel) ⟨Nat.le_of_ble_eq_true rfl, Nat.le_of_ble_eq_true rfl⟩) ⟨hp_R_blind, hp_R_pre (hP.sub (ws' := []) [] rfl) hz⟩ rfl rfl hl.1 rfl (lv_room (Nat.le_of_ble_eq_true rfl)) dX4_value_2 ⟨Nat.zero_le _, Nat.zero_le _⟩) (fun r hqx => ?_)
  rcases hqx with ⟨rfl, hqx⟩ | ⟨rfl, hqx⟩
  · refine lv_if_eq hx hb dX4_value_5 rfl (fun hc9 => absurd hc9 (by decide)) (fun hc9 => ?_)
    refine lv_iconst (v := nI 1) hx hb dX4_value_8 (by decide) ?_
    refine lv_goto hx hb dX4_value_9 rfl ?_
    refine va_put (D := D) (ci := 4) (v := .int (nI 1)) (ty := .int) (C := RX4) (T := TX4) (N := 22) hx hb htg hi_X4 tyX4 tyX4_ok nmX4 hown hK hP hD hS 0 rfl rfl 0 (by decide) (htg _ hm_496) (fun _ h9 => h9) rfl (by decide +kernel) rfl rfl (Nat.le_of_ble_eq_true rfl) dX4_value_13 (fun H locs hP hD hS => ?_)
    replace hP : va_P D vwCl [(y0, .inr (4, [.int (nI 1), .ref y1, .ref y2, .ref y3, .ref y4, .ref y5, .ref y6, .ref y7, .ref y8, .ref y9, .ref ya, .ref yb, .ref yc, .ref yd, .ref ye, .int md, .int o1, .int o2, .int mo, .ref yf, .ref yg, .ref yh])), (yf, .inl (cI, 5, .inl Va))] H := hP
    replace hD : va_D A [(y0, .inr (4, [.int (nI 1), .ref y1, .ref y2, .ref y3, .ref y4, .ref y5, .ref y6, .ref y7, .ref y8, .ref y9, .ref ya, .ref yb, .ref yc, .ref yd, .ref ye, .int md, .int o1, .int o2, .int mo, .ref yf, .ref yg, .ref yh])), (yf, .inl (cI, 5, .inl Va))] := hD
    refine lv_aload_n hx hb dX4_value_16 rfl (lv_at hl 0 rfl) ?_
    refine va_get (D := D) (ci := 4) (v := .int (nI 1)) (C := RX4) (T := TX4) (N := 22) hx hb htg hi_X4 hown hK hP 0 rfl rfl 0 (by decide) (htg _ hm_496) (fun _ h9 => h9) rfl dX4_value_17 ?_
    refine lv_if_le hx hb dX4_value_20 rfl (fun hc9 => absurd hc9 (by decide)) (fun hc9 => ?_)
    refine lv_iconst (v := nI 0) hx hb dX4_value_23 (by decide) ?_
    refine lv_goto hx hb dX4_value_24 rfl ?_
    exact W.iret (v := nI 0) hx hb hr (fun t9 ht9 hW9 => ⟨⟨_, (nI 1), rfl, Or.inl ⟨hqx, rfl, rfl⟩, by show va_P D vwCl [(y0, .inr (4, [.int (nI 1), .ref y1, .ref y2, .ref y3, .ref y4, .ref y5, .ref y6, .ref y7, .ref y8, .ref y9, .ref ya, .ref yb, .ref yc, .ref yd, .ref ye, .int md, .int o1, .int o2, .int mo, .ref yf, .ref yg, .ref yh])), (yf, .inl (cI, 5, .inl Va))] t9.heap; rw [ht9]; exact hP⟩, hS.F ht9⟩) hS.2.2 dX4_value_32
  · refine lv_if_eq hx hb dX4_value_5 rfl (fun hc9 => ?_) (fun hc9 => absurd rfl hc9)
    have hqx := Classical.not_not.mp hqx
    refine lv_iconst (v := nI 0) hx hb dX4_value_12 (by decide) ?_
    refine va_put (D := D) (ci := 4) (v := .int (nI 0)) (ty := .int) (C := RX4) (T := TX4) (N := 22) hx hb htg hi_X4 tyX4 tyX4_ok nmX4 hown hK hP hD hS 0 rfl rfl 0 (by decide) (htg _ hm_496) (fun _ h9 => h9) rfl (by decide +kernel) rfl rfl (Nat.le_of_ble_eq_true rfl) dX4_value_13 (fun H locs hP hD hS => ?_)
    replace hP : va_P D vwCl [(y0, .inr (4, [.int (nI 0), .ref y1, .ref y2, .ref y3, .ref y4, .ref y5, .ref y6, .ref y7, .ref y8, .ref y9, .ref ya, .ref yb, .ref yc, .ref yd, .ref ye, .int md, .int o1, .int o2, .int mo, .ref yf, .ref yg, .ref yh])), (yf, .inl (cI, 5, .inl Va))] H := hP
    replace hD : va_D A [(y0, .inr (4, [.int (nI 0), .ref y1, .ref y2, .ref y3, .ref y4, .ref y5, .ref y6, .ref y7, .ref y8, .ref y9, .ref ya, .ref yb, .ref yc, .ref yd, .ref ye, .int md, .int o1, .int o2, .int mo, .ref yf, .ref yg, .ref yh])), (yf, .inl (cI, 5, .inl Va))] := hD
    refine lv_aload_n hx hb dX4_value_16 rfl (lv_at hl 0 rfl) ?_
    refine va_get (D := D) (ci := 4) (v := .int (nI 0)) (C := RX4) (T := TX4) (N := 22) hx hb htg hi_X4 hown hK hP 0 rfl rfl 0 (by decide) (htg _ hm_496) (fun _ h9 => h9) rfl dX4_value_17 ?_
    refine lv_if_le hx hb dX4_value_20 rfl (fun hc9 => ?_) (fun hc9 => absurd (by decide) hc9)
    refine lv_aload_n hx hb dX4_value_27 rfl (lv_at hl 0 rfl) ?_
    refine lv_iload_n hx hb dX4_value_28 rfl (lv_at hl 1 rfl) ?_
    refine hw_csi (va_runV (C := RX4) (b := y0) (As := [.int (nI t)]) (rest := []) ⟨hx, hb, hml, hown, htg⟩ (k_X4_valueOf l D cI cZ cJ Va Ha VA HA t (nI 0) md o1 o2 mo y0 y1 y2 y3 y4 y5 y6 y7 y8 y9 ya yb yc yd ye yf yg yh hH hqx) (cwV 1 htg (hg_V hm_672 hm_674 hs_yX4_valueOf hm_6 hm_675) rfl rfl rfl (by decide +kernel) ⟨Nat.le_of_ble_eq_true rfl, Nat.le_of_ble_eq_true rfl⟩) ⟨hp_R_blind, va_recv (q := (RX4, TX4, 22)) (q0 := 0) (ci := 4) hK hP rfl rfl, hp_R_pre (hP.sub (ws' := [(y0, .inr (4, [.int (nI 0), .ref y1, .ref y2, .ref y3, .ref y4, .ref y5, .ref y6, .ref y7, .ref y8, .ref y9, .ref ya, .ref yb, .ref yc, .ref yd, .ref ye, .int md, .int o1, .int o2, .int mo, .ref yf, .ref yg, .ref yh])), (yf, .inl (cI, 5, .inl Va))]) [0, 1] rfl) hz⟩ rfl rfl hl.1 rfl (lv_room (Nat.le_of_ble_eq_true rfl)) dX4_value_29 ⟨Nat.zero_le _, Nat.zero_le _⟩) (fun r9 hv9 => ?_)
    subst hv9
    exact W.iret (v := nI (VA t)) hx hb hr (fun t9 ht9 hW9 => ⟨⟨_, (nI 0), rfl, Or.inr ⟨hqx, rfl, rfl⟩, by show va_P D vwCl [(y0, .inr (4, [.int (nI 0), .ref y1, .ref y2, .ref y3, .ref y4, .ref y5, .ref y6, .ref y7, .ref y8, .ref y9, .ref ya, .ref yb, .ref yc, .ref yd, .ref ye, .int md, .int o1, .int o2, .int mo, .ref yf, .ref yg, .ref yh])), (yf, .inl (cI, 5, .inl Va))] t9.heap; rw [ht9]; exact hP⟩, hS.F ht9⟩) hS.2.2 dX4_value_32

set_option maxHeartbeats 4000000 in
set_option maxRecDepth 100000 in
/-- next -/
theorem k_X4_next (l : Launch) (D : va_G) (cI cZ cJ : ClassId) (sz : Nat) (Va Ha : Nat → Int32) (VA : Nat → Nat) (HA : Nat → Option Nat) (x : Nat) (cd md o1 o2 mo : Int32) (y0 y1 y2 y3 y4 y5 y6 y7 y8 y9 ya yb yc yd ye yf yg yh : Nat) (hH : hr_h Va Ha VA HA) (hx9 : x < 2 ^ 32) : Met l yX4_next (Cond.code yX4_next cX4_next 2 (some .int) :: hwG) { frames := 0, cells := 0, slots := 0, locals := 0 } (hp_M [.ref y0, .int (nI x)] D cI cZ cJ [(y0, .inr (4, [.int cd, .ref y1, .ref y2, .ref y3, .ref y4, .ref y5, .ref y6, .ref y7, .ref y8, .ref y9, .ref ya, .ref yb, .ref yc, .ref yd, .ref ye, .int md, .int o1, .int o2, .int mo, .ref yf, .ref yg, .ref yh])), (yg, .inl (cI, 10, .inl Ha))] sz) (va_Qi (S := Unit) (fun r _ => (HA x = none ∧ r = -1) ∨ ∃ z, HA x = some z ∧ r = nI z) (fun u t => va_P D vwCl ([(y0, .inr (4, [.int (nI 0), .ref y1, .ref y2, .ref y3, .ref y4, .ref y5, .ref y6, .ref y7, .ref y8, .ref y9, .ref ya, .ref yb, .ref yc, .ref yd, .ref ye, .int md, .int o1, .int o2, .int mo, .ref yf, .ref yg, .ref yh])), (yg, .inl (cI, 10, .inl Ha))]) t.heap) (va_A [(y0, .inr (4, [.int cd, .ref y1, .ref y2, .ref y3, .ref y4, .ref y5, .ref y6, .ref y7, .ref y8, .ref y9, .ref ya, .ref yb, .ref yc, .ref yd, .ref ye, .int md, .int o1, .int o2, .int mo, .ref yf, .ref yg, .ref yh])), (yg, .inl (cI, 10, .inl Ha))] sz)) 0 0 (va_A [(y0, .inr (4, [.int cd, .ref y1, .ref y2, .ref y3, .ref y4, .ref y5, .ref y6, .ref y7, .ref y8, .ref y9, .ref ya, .ref yb, .ref yc, .ref yd, .ref ye, .int md, .int o1, .int o2, .int mo, .ref yf, .ref yg, .ref yh])), (yg, .inl (cI, 10, .inl Ha))] sz) := by
  refine Met.ofW (cc := cX4_next) (maxL := 2) (ret := (some .int)) (by decide) rfl ?_
  intro p e s m args below meth c s₁ B hml hv
  obtain ⟨rfl, hsz, hP, hz, hD0⟩ := hv
  have hx := B.exec
  have hb := B.bytes
  have hr := B.returns
  have hts := atoms_spec (ws := (Cond.code yX4_next cX4_next 2 (some .int) :: hwG)) B.pre
  have htg := fun w h => hts w (List.mem_cons_of_mem _ h)
  have hown : s.vm.findClass RX4 = some m.cls := findClass_of_methodNamed B.named
  have hlocks := B.notSynchronized
  have hK := hz.1
  subst hsz
  have hD := hD0.self (sz := s.heap.size)
  generalize hAe : va_A [(y0, .inr (4, [.int cd, .ref y1, .ref y2, .ref y3, .ref y4, .ref y5, .ref y6, .ref y7, .ref y8, .ref y9, .ref ya, .ref yb, .ref yc, .ref yd, .ref ye, .int md, .int o1, .int o2, .int mo, .ref yf, .ref yg, .ref yh])), (yg, .inl (cI, 10, .inl Ha))] s.heap.size = A at hD ⊢
  have hA : ∀ q : Nat, s.heap.size ≤ q → A q := fun q h => by rw [← hAe]; exact Or.inr h
  have hS : va_S A s.heap s.heap [] := va_S.rf
  have hl := lv_entry ([.ref y0, .int (nI x)]) (n := 2) (Nat.le_of_ble_eq_true rfl)
  rw [lg_entry_eq]
  generalize (lg_sl ([.ref y0, .int (nI x)]) ++ List.replicate (2 - (lg_sl ([.ref y0, .int (nI x)])).length) Slot.unset).toArray = ls at hl ⊢
  replace hl : lv_has ls 2 [(0, .ref y0), (1, .int (nI x))] := hl
  replace hP : va_P D vwCl [(y0, .inr (4, [.int cd, .ref y1, .ref y2, .ref y3, .ref y4, .ref y5, .ref y6, .ref y7, .ref y8, .ref y9, .ref ya, .ref yb, .ref yc, .ref yd, .ref ye, .int md, .int o1, .int o2, .int mo, .ref yf, .ref yg, .ref yh])), (yg, .inl (cI, 10, .inl Ha))] s.heap := hP
  refine lv_aload_n hx hb dX4_next_0 rfl (lv_at hl 0 rfl) ?_
  refine lv_iconst (v := nI 0) hx hb dX4_next_1 (by decide) ?_
  refine va_put (D := D) (ci := 4) (v := .int (nI 0)) (ty := .int) (C := RX4) (T := TX4) (N := 22) hx hb htg hi_X4 tyX4 tyX4_ok nmX4 hown hK hP hD hS 0 rfl rfl 0 (by decide) (htg _ hm_496) (fun _ h9 => h9) rfl (by decide +kernel) rfl rfl (Nat.le_of_ble_eq_true rfl) dX4_next_2 (fun H locs hP hD hS => ?_)
  replace hP : va_P D vwCl [(y0, .inr (4, [.int (nI 0), .ref y1, .ref y2, .ref y3, .ref y4, .ref y5, .ref y6, .ref y7, .ref y8, .ref y9, .ref ya, .ref yb, .ref yc, .ref yd, .ref ye, .int md, .int o1, .int o2, .int mo, .ref yf, .ref yg, .ref yh])), (yg, .inl (cI, 10, .inl Ha))] H := hP
  replace hD : va_D A [(y0, .inr (4, [.int (nI 0), .ref y1, .ref y2, .ref y3, .ref y4, .ref y5, .ref y6, .ref y7, .ref y8, .ref y9, .ref ya, .ref yb, .ref yc, .ref yd, .ref ye, .int md, .int o1, .int o2, .int mo, .ref yf, .ref yg, .ref yh])), (yg, .inl (cI, 10, .inl Ha))] := hD
  refine lv_iload_n hx hb dX4_next_5 rfl (lv_at hl 1 rfl) ?_
  refine lv_iconst (v := nI 1) hx hb dX4_next_6 (by decide) ?_
  rcases Nat.lt_or_ge x (2 ^ 31) with hx31 | hx31
  · refine hw_icmp_lt hx hb (by omega) (by omega) dX4_next_7 rfl (fun h1 => ?_) (fun h1 => ?_)
    · refine lv_iconst (v := (-1)) hx hb dX4_next_16 (by decide) ?_
      refine lv_goto hx hb dX4_next_17 rfl ?_
      exact W.iret (v := -1) hx hb hr (fun t9 ht9 hW9 => ⟨⟨_, (), rfl, Or.inl ⟨by cases h9 : HA x with | none => rfl | some z => (have := hH.2.2.1 x (by rw [h9]; exact fun q => (by cases q)); omega), rfl⟩, by show va_P D vwCl [(y0, .inr (4, [.int (nI 0), .ref y1, .ref y2, .ref y3, .ref y4, .ref y5, .ref y6, .ref y7, .ref y8, .ref y9, .ref ya, .ref yb, .ref yc, .ref yd, .ref ye, .int md, .int o1, .int o2, .int mo, .ref yf, .ref yg, .ref yh])), (yg, .inl (cI, 10, .inl Ha))] t9.heap; rw [ht9]; exact hP⟩, hS.F ht9⟩) hS.2.2 dX4_next_26
    · refine lv_iload_n hx hb dX4_next_10 rfl (lv_at hl 1 rfl) ?_
      refine lv_bipush (v := nI 9) hx hb dX4_next_11 (by decide) ?_
      refine hw_icmp_le hx hb (by omega) (by omega) dX4_next_13 rfl (fun h2 => ?_) (fun h2 => ?_)
      · rcases hs_opt (HA x) with hn | ⟨zz, hn⟩
        · refine lv_aload_n hx hb dX4_next_20 rfl (lv_at hl 0 rfl) ?_
          refine va_get (D := D) (ci := 4) (v := .ref yg) (C := RX4) (T := TX4) (N := 22) hx hb htg hi_X4 hown hK hP 0 rfl rfl 20 (by decide) (htg _ hm_516) (fun _ h9 => h9) rfl dX4_next_21 ?_
          refine lv_iload_n hx hb dX4_next_24 rfl (lv_at hl 1 rfl) ?_
          refine hw_iald hx hb hK hP 1 0 rfl rfl (j := x) (by omega) (by first | decide | omega) (v := -1) ((hH.2.2.2 _ (by omega)).1 hn) dX4_next_25 ?_
          exact W.iret (v := -1) hx hb hr (fun t9 ht9 hW9 => ⟨⟨_, (), rfl, Or.inl ⟨hn, rfl⟩, by show va_P D vwCl [(y0, .inr (4, [.int (nI 0), .ref y1, .ref y2, .ref y3, .ref y4, .ref y5, .ref y6, .ref y7, .ref y8, .ref y9, .ref ya, .ref yb, .ref yc, .ref yd, .ref ye, .int md, .int o1, .int o2, .int mo, .ref yf, .ref yg, .ref yh])), (yg, .inl (cI, 10, .inl Ha))] t9.heap; rw [ht9]; exact hP⟩, hS.F ht9⟩) hS.2.2 dX4_next_26
        · obtain ⟨c1, c2⟩ := (hH.2.2.2 x (by omega)).2 zz hn
          refine lv_aload_n hx hb dX4_next_20 rfl (lv_at hl 0 rfl) ?_
          refine va_get (D := D) (ci := 4) (v := .ref yg) (C := RX4) (T := TX4) (N := 22) hx hb htg hi_X4 hown hK hP 0 rfl rfl 20 (by decide) (htg _ hm_516) (fun _ h9 => h9) rfl dX4_next_21 ?_
          refine lv_iload_n hx hb dX4_next_24 rfl (lv_at hl 1 rfl) ?_
          refine hw_iald hx hb hK hP 1 0 rfl rfl (j := x) (by omega) (by first | decide | omega) (v := nI zz) (c2) dX4_next_25 ?_
          exact W.iret (v := nI zz) hx hb hr (fun t9 ht9 hW9 => ⟨⟨_, (), rfl, Or.inr ⟨zz, hn, rfl⟩, by show va_P D vwCl [(y0, .inr (4, [.int (nI 0), .ref y1, .ref y2, .ref y3, .ref y4, .ref y5, .ref y6, .ref y7, .ref y8, .ref y9, .ref ya, .ref yb, .ref yc, .ref yd, .ref ye, .int md, .int o1, .int o2, .int mo, .ref yf, .ref yg, .ref yh])), (yg, .inl (cI, 10, .inl Ha))] t9.heap; rw [ht9]; exact hP⟩, hS.F ht9⟩) hS.2.2 dX4_next_26
      · refine lv_iconst (v := (-1)) hx hb dX4_next_16 (by decide) ?_
        refine lv_goto hx hb dX4_next_17 rfl ?_
        exact W.iret (v := -1) hx hb hr (fun t9 ht9 hW9 => ⟨⟨_, (), rfl, Or.inl ⟨by cases h9 : HA x with | none => rfl | some z => (have := hH.2.2.1 x (by rw [h9]; exact fun q => (by cases q)); omega), rfl⟩, by show va_P D vwCl [(y0, .inr (4, [.int (nI 0), .ref y1, .ref y2, .ref y3, .ref y4, .ref y5, .ref y6, .ref y7, .ref y8, .ref y9, .ref ya, .ref yb, .ref yc, .ref yd, .ref ye, .int md, .int o1, .int o2, .int mo, .ref yf, .ref yg, .ref yh])), (yg, .inl (cI, 10, .inl Ha))] t9.heap; rw [ht9]; exact hP⟩, hS.F ht9⟩) hS.2.2 dX4_next_26
  · refine lv_icmp_lt hx hb dX4_next_7 rfl (fun hc => ?_) (fun hc => absurd (hm_big hx31 hx9 (by omega)) hc)
    refine lv_iconst (v := (-1)) hx hb dX4_next_16 (by decide) ?_
    refine lv_goto hx hb dX4_next_17 rfl ?_
    exact W.iret (v := -1) hx hb hr (fun t9 ht9 hW9 => ⟨⟨_, (), rfl, Or.inl ⟨by cases h9 : HA x with | none => rfl | some z => (have := hH.2.2.1 x (by rw [h9]; exact fun q => (by cases q)); omega), rfl⟩, by show va_P D vwCl [(y0, .inr (4, [.int (nI 0), .ref y1, .ref y2, .ref y3, .ref y4, .ref y5, .ref y6, .ref y7, .ref y8, .ref y9, .ref ya, .ref yb, .ref yc, .ref yd, .ref ye, .int md, .int o1, .int o2, .int mo, .ref yf, .ref yg, .ref yh])), (yg, .inl (cI, 10, .inl Ha))] t9.heap; rw [ht9]; exact hP⟩, hS.F ht9⟩) hS.2.2 dX4_next_26

set_option maxHeartbeats 4000000 in
set_option maxRecDepth 100000 in
/-- count -/
theorem k_X4_count (l : Launch) (D : va_G) (cI cZ cJ : ClassId) (sz : Nat) (Va Ha : Nat → Int32) (VA : Nat → Nat) (HA : Nat → Option Nat) (cd md o1 o2 mo : Int32) (y0 y1 y2 y3 y4 y5 y6 y7 y8 y9 ya yb yc yd ye yf yg yh : Nat) (hH : hr_h Va Ha VA HA) : Met l yX4_count (Cond.code yX4_count cX4_count 3 (some .int) :: hwG) { frames := 0, cells := 0, slots := 0, locals := 0 } (hp_M [.ref y0] D cI cZ cJ [(y0, .inr (4, [.int cd, .ref y1, .ref y2, .ref y3, .ref y4, .ref y5, .ref y6, .ref y7, .ref y8, .ref y9, .ref ya, .ref yb, .ref yc, .ref yd, .ref ye, .int md, .int o1, .int o2, .int mo, .ref yf, .ref yg, .ref yh])), (yg, .inl (cI, 10, .inl Ha))] sz) (va_Qi (S := Unit) (fun r _ => r = nI (hh_c HA 9)) (fun u t => va_P D vwCl ([(y0, .inr (4, [.int (nI 0), .ref y1, .ref y2, .ref y3, .ref y4, .ref y5, .ref y6, .ref y7, .ref y8, .ref y9, .ref ya, .ref yb, .ref yc, .ref yd, .ref ye, .int md, .int o1, .int o2, .int mo, .ref yf, .ref yg, .ref yh])), (yg, .inl (cI, 10, .inl Ha))]) t.heap) (va_A [(y0, .inr (4, [.int cd, .ref y1, .ref y2, .ref y3, .ref y4, .ref y5, .ref y6, .ref y7, .ref y8, .ref y9, .ref ya, .ref yb, .ref yc, .ref yd, .ref ye, .int md, .int o1, .int o2, .int mo, .ref yf, .ref yg, .ref yh])), (yg, .inl (cI, 10, .inl Ha))] sz)) 0 0 (va_A [(y0, .inr (4, [.int cd, .ref y1, .ref y2, .ref y3, .ref y4, .ref y5, .ref y6, .ref y7, .ref y8, .ref y9, .ref ya, .ref yb, .ref yc, .ref yd, .ref ye, .int md, .int o1, .int o2, .int mo, .ref yf, .ref yg, .ref yh])), (yg, .inl (cI, 10, .inl Ha))] sz) := by
  refine Met.ofW (cc := cX4_count) (maxL := 3) (ret := (some .int)) (by decide) rfl ?_
  intro p e s m args below meth c s₁ B hml hv
  obtain ⟨rfl, hsz, hP, hz, hD0⟩ := hv
  have hx := B.exec
  have hb := B.bytes
  have hr := B.returns
  have hts := atoms_spec (ws := (Cond.code yX4_count cX4_count 3 (some .int) :: hwG)) B.pre
  have htg := fun w h => hts w (List.mem_cons_of_mem _ h)
  have hown : s.vm.findClass RX4 = some m.cls := findClass_of_methodNamed B.named
  have hlocks := B.notSynchronized
  have hK := hz.1
  subst hsz
  have hD := hD0.self (sz := s.heap.size)
  generalize hAe : va_A [(y0, .inr (4, [.int cd, .ref y1, .ref y2, .ref y3, .ref y4, .ref y5, .ref y6, .ref y7, .ref y8, .ref y9, .ref ya, .ref yb, .ref yc, .ref yd, .ref ye, .int md, .int o1, .int o2, .int mo, .ref yf, .ref yg, .ref yh])), (yg, .inl (cI, 10, .inl Ha))] s.heap.size = A at hD ⊢
  have hA : ∀ q : Nat, s.heap.size ≤ q → A q := fun q h => by rw [← hAe]; exact Or.inr h
  have hS : va_S A s.heap s.heap [] := va_S.rf
  have hl := lv_entry ([.ref y0]) (n := 3) (Nat.le_of_ble_eq_true rfl)
  rw [lg_entry_eq]
  generalize (lg_sl ([.ref y0]) ++ List.replicate (3 - (lg_sl ([.ref y0])).length) Slot.unset).toArray = ls at hl ⊢
  replace hl : lv_has ls 3 [(0, .ref y0)] := hl
  replace hP : va_P D vwCl [(y0, .inr (4, [.int cd, .ref y1, .ref y2, .ref y3, .ref y4, .ref y5, .ref y6, .ref y7, .ref y8, .ref y9, .ref ya, .ref yb, .ref yc, .ref yd, .ref ye, .int md, .int o1, .int o2, .int mo, .ref yf, .ref yg, .ref yh])), (yg, .inl (cI, 10, .inl Ha))] s.heap := hP
  refine lv_aload_n hx hb dX4_count_0 rfl (lv_at hl 0 rfl) ?_
  refine lv_iconst (v := nI 0) hx hb dX4_count_1 (by decide) ?_
  refine va_put (D := D) (ci := 4) (v := .int (nI 0)) (ty := .int) (C := RX4) (T := TX4) (N := 22) hx hb htg hi_X4 tyX4 tyX4_ok nmX4 hown hK hP hD hS 0 rfl rfl 0 (by decide) (htg _ hm_496) (fun _ h9 => h9) rfl (by decide +kernel) rfl rfl (Nat.le_of_ble_eq_true rfl) dX4_count_2 (fun H locs hP hD hS => ?_)
  replace hP : va_P D vwCl [(y0, .inr (4, [.int (nI 0), .ref y1, .ref y2, .ref y3, .ref y4, .ref y5, .ref y6, .ref y7, .ref y8, .ref y9, .ref ya, .ref yb, .ref yc, .ref yd, .ref ye, .int md, .int o1, .int o2, .int mo, .ref yf, .ref yg, .ref yh])), (yg, .inl (cI, 10, .inl Ha))] H := hP
  replace hD : va_D A [(y0, .inr (4, [.int (nI 0), .ref y1, .ref y2, .ref y3, .ref y4, .ref y5, .ref y6, .ref y7, .ref y8, .ref y9, .ref ya, .ref yb, .ref yc, .ref yd, .ref ye, .int md, .int o1, .int o2, .int mo, .ref yf, .ref yg, .ref yh])), (yg, .inl (cI, 10, .inl Ha))] := hD
  refine lv_iconst (v := nI 0) hx hb dX4_count_5 (by decide) ?_
  refine lv_istore_n hx hb dX4_count_6 rfl hl (by decide) rfl (fun ls hl => ?_)
  replace hl : lv_has ls 3 [(1, .int (nI 0)), (0, .ref y0)] := hl
  refine lv_iconst (v := nI 1) hx hb dX4_count_7 (by decide) ?_
  refine lv_istore_n hx hb dX4_count_8 rfl hl (by decide) rfl (fun ls hl => ?_)
  replace hl : lv_has ls 3 [(2, .int (nI 1)), (1, .int (nI 0)), (0, .ref y0)] := hl
  obtain ⟨b, e_b⟩ : ∃ z : Nat, z = 0 := ⟨_, rfl⟩
  obtain ⟨n9, e_n9⟩ : ∃ z : Nat, z = 0 := ⟨_, rfl⟩
  replace hl : lv_has ls 3 [(2, .int (nI (b + 1))), (1, .int (nI n9)), (0, .ref y0)] := by subst e_b e_n9; exact hl
  have hn9 : n9 = hh_c HA b := by subst e_b e_n9; rfl
  have hb9 : b ≤ 9 := by subst e_b e_n9; omega
  clear e_b e_n9
  obtain ⟨k, hk⟩ : ∃ k : Nat, k = 9 - b := ⟨_, rfl⟩
  induction k generalizing b n9 ls  with
  | zero =>
    refine lv_iload_n hx hb dX4_count_9 rfl (lv_at hl 0 rfl) ?_
    refine lv_bipush (v := nI 10) hx hb dX4_count_10 (by decide) ?_
    refine hw_icmp_ge hx hb (by omega) (by omega) dX4_count_12 rfl (fun hc => ?_) (fun hc => absurd hc (by omega))
    refine lv_iload_n hx hb dX4_count_38 rfl (lv_at hl 1 rfl) ?_
    exact W.iret (v := nI n9) hx hb hr (fun t9 ht9 hW9 => ⟨⟨_, (), rfl, by rw [hn9, show b = 9 by omega], by show va_P D vwCl [(y0, .inr (4, [.int (nI 0), .ref y1, .ref y2, .ref y3, .ref y4, .ref y5, .ref y6, .ref y7, .ref y8, .ref y9, .ref ya, .ref yb, .ref yc, .ref yd, .ref ye, .int md, .int o1, .int o2, .int mo, .ref yf, .ref yg, .ref yh])), (yg, .inl (cI, 10, .inl Ha))] t9.heap; rw [ht9]; exact hP⟩, hS.F ht9⟩) hS.2.2 dX4_count_39
  | succ k ih =>
    have hle := hh_c_le HA b
    refine lv_iload_n hx hb dX4_count_9 rfl (lv_at hl 0 rfl) ?_
    refine lv_bipush (v := nI 10) hx hb dX4_count_10 (by decide) ?_
    refine hw_icmp_ge hx hb (by omega) (by omega) dX4_count_12 rfl (fun hc => absurd hc (by omega)) (fun hc => ?_)
    rcases hs_opt (HA (b + 1)) with hn | ⟨zz, hn⟩
    · refine lv_aload_n hx hb dX4_count_15 rfl (lv_at hl 2 rfl) ?_
      refine va_get (D := D) (ci := 4) (v := .ref yg) (C := RX4) (T := TX4) (N := 22) hx hb htg hi_X4 hown hK hP 0 rfl rfl 20 (by decide) (htg _ hm_516) (fun _ h9 => h9) rfl dX4_count_16 ?_
      refine lv_iload_n hx hb dX4_count_19 rfl (lv_at hl 0 rfl) ?_
      refine hw_iald hx hb hK hP 1 0 rfl rfl (j := (b + 1)) (by omega) (by first | decide | omega) (v := -1) ((hH.2.2.2 _ (by omega)).1 hn) dX4_count_20 ?_
      refine lv_if_lt hx hb dX4_count_21 rfl (fun hc9 => ?_) (fun hc9 => absurd (by decide) hc9)
      refine lv_iload_n hx hb dX4_count_30 rfl (lv_at hl 1 rfl) ?_
      refine lv_istore_n hx hb dX4_count_31 rfl hl (by decide) rfl (fun ls hl => ?_)
      replace hl : lv_has ls 3 [(1, .int (nI n9)), (2, .int (nI (b + 1))), (0, .ref y0)] := hl
      refine lv_iinc (v := nI (b + 1 + 1)) (k := 1) hx hb dX4_count_32 hl rfl (hw_inc _) (by decide) rfl (fun ls hl => ?_)
      replace hl : lv_has ls 3 [(2, .int (nI (b + 1 + 1))), (1, .int (nI n9)), (0, .ref y0)] := hl
      refine lv_goto hx hb dX4_count_35 rfl ?_
      refine ih (b := (b + 1)) (hl := hl) (hn9 := (by show n9 = hh_c HA b + (if HA (b + 1) = none then 0 else 1); rw [if_pos hn, hn9]; rfl)) (hb9 := (by omega)) (hk := (by omega))
    · obtain ⟨c1, c2⟩ := (hH.2.2.2 (b + 1) (by omega)).2 zz hn
      refine lv_aload_n hx hb dX4_count_15 rfl (lv_at hl 2 rfl) ?_
      refine va_get (D := D) (ci := 4) (v := .ref yg) (C := RX4) (T := TX4) (N := 22) hx hb htg hi_X4 hown hK hP 0 rfl rfl 20 (by decide) (htg _ hm_516) (fun _ h9 => h9) rfl dX4_count_16 ?_
      refine lv_iload_n hx hb dX4_count_19 rfl (lv_at hl 0 rfl) ?_
      refine hw_iald hx hb hK hP 1 0 rfl rfl (j := (b + 1)) (by omega) (by first | decide | omega) (v := nI zz) (c2) dX4_count_20 ?_
      refine lv_if_lt hx hb dX4_count_21 rfl (fun hc9 => absurd hc9 (nI_pos (by omega))) (fun hc9 => ?_)
      refine lv_iload_n hx hb dX4_count_24 rfl (lv_at hl 1 rfl) ?_
      refine lv_iconst (v := nI 1) hx hb dX4_count_25 (by decide) ?_
      refine hw_iadd hx hb dX4_count_26 ?_
      refine lv_goto hx hb dX4_count_27 rfl ?_
      refine lv_istore_n hx hb dX4_count_31 rfl hl (by decide) rfl (fun ls hl => ?_)
      replace hl : lv_has ls 3 [(1, .int (nI (n9 + 1))), (2, .int (nI (b + 1))), (0, .ref y0)] := hl
      refine lv_iinc (v := nI (b + 1 + 1)) (k := 1) hx hb dX4_count_32 hl rfl (hw_inc _) (by decide) rfl (fun ls hl => ?_)
      replace hl : lv_has ls 3 [(2, .int (nI (b + 1 + 1))), (1, .int (nI (n9 + 1))), (0, .ref y0)] := hl
      refine lv_goto hx hb dX4_count_35 rfl ?_
      refine ih (b := (b + 1)) (hl := hl) (hn9 := (by show n9 + 1 = hh_c HA b + (if HA (b + 1) = none then 0 else 1); rw [if_neg (by rw [hn]; exact fun q => (by cases q)), hn9])) (hb9 := (by omega)) (hk := (by omega))
