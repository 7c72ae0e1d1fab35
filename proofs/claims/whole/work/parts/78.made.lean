set_option maxHeartbeats 4000000 in
set_option maxRecDepth 100000 in
/-- a new claim -/
theorem k_X1_init (l : Launch) (D : va_G) (cI cZ cJ : ClassId) (sz : Nat) (h : Nat) : Met l yX1_init (Cond.code yX1_init cX1_init 1 none :: hwG) { frames := 1, cells := 5, slots := 27, locals := 14 } (hp_M [.ref h] D cI cZ cJ [(h, .inr (1, [.null, .null, .null, .null, .null, .int 0, .int 0]))] sz) (va_Qv (S := Nat × Nat × Nat × Nat × Nat) (fun u => va_D (va_A [(h, .inr (1, [.null, .null, .null, .null, .null, .int 0, .int 0]))] sz) ([(h, .inr (1, [.ref u.1, .ref u.2.1, .ref u.2.2.1, .ref u.2.2.2.1, .ref u.2.2.2.2, .int 0, .int 0])), (u.1, .inl (cI, 6, .inl (fun _ => 0))), (u.2.1, .inl (cI, 6, .inl (fun _ => 0))), (u.2.2.1, .inl (cI, 5, .inl (fun _ => 0))), (u.2.2.2.1, .inl (cI, 5, .inl (fun _ => 0))), (u.2.2.2.2, .inl (cZ, 5, .inl (fun _ => 0)))]) ∧ (fun _ => True) u) (fun u t => va_P D vwCl ([(h, .inr (1, [.ref u.1, .ref u.2.1, .ref u.2.2.1, .ref u.2.2.2.1, .ref u.2.2.2.2, .int 0, .int 0])), (u.1, .inl (cI, 6, .inl (fun _ => 0))), (u.2.1, .inl (cI, 6, .inl (fun _ => 0))), (u.2.2.1, .inl (cI, 5, .inl (fun _ => 0))), (u.2.2.2.1, .inl (cI, 5, .inl (fun _ => 0))), (u.2.2.2.2, .inl (cZ, 5, .inl (fun _ => 0)))]) t.heap) (va_A [(h, .inr (1, [.null, .null, .null, .null, .null, .int 0, .int 0]))] sz)) 5 27 (va_A [(h, .inr (1, [.null, .null, .null, .null, .null, .int 0, .int 0]))] sz) := by
  refine Met.ofW (cc := cX1_init) (maxL := 1) (ret := none) (by decide) rfl ?_
  intro p e s m args below meth c s₁ B hml hv
  obtain ⟨rfl, hsz, hP, hz, hD0⟩ := hv
  have hx := B.exec
  have hb := B.bytes
  have hr := B.returns
  have hts := atoms_spec (ws := (Cond.code yX1_init cX1_init 1 none :: hwG)) B.pre
  have htg := fun w h => hts w (List.mem_cons_of_mem _ h)
  have hown : s.vm.findClass RX1 = some m.cls := findClass_of_methodNamed B.named
  have hlocks := B.notSynchronized
  have hK := hz.1
  have hin : meth.name = "<init>" := (name_of_methodNamed B.named B.method).1
  subst hsz
  have hD := hD0.self (sz := s.heap.size)
  generalize hAe : va_A [(h, .inr (1, [.null, .null, .null, .null, .null, .int 0, .int 0]))] s.heap.size = A at hD ⊢
  have hA : ∀ q : Nat, s.heap.size ≤ q → A q := fun q h => by rw [← hAe]; exact Or.inr h
  have hS : va_S A s.heap s.heap [] := va_S.rf
  have hl := lv_entry ([.ref h]) (n := 1) (Nat.le_of_ble_eq_true rfl)
  rw [lg_entry_eq]
  generalize (lg_sl ([.ref h]) ++ List.replicate (1 - (lg_sl ([.ref h])).length) Slot.unset).toArray = ls at hl ⊢
  replace hl : lv_has ls 1 [(0, .ref h)] := hl
  replace hP : va_P D vwCl [(h, .inr (1, [.null, .null, .null, .null, .null, .int 0, .int 0]))] s.heap := hP
  refine lv_aload_n hx hb dX1_init_0 rfl (lv_at hl 0 rfl) ?_
  refine W.objInit hx hb hown (idx := 3) (htg _ hm_29) (htg _ hm_22) (htg _ hm_23) rfl (hl.1.trans hml.symm) rfl dX1_init_1 (Nat.le_of_ble_eq_true rfl) (Nat.le_of_ble_eq_true rfl) ?_
  refine lv_aload_n hx hb dX1_init_4 rfl (lv_at hl 0 rfl) ?_
  refine lv_bipush (v := nI 6) hx hb dX1_init_5 (by decide) ?_
  refine hn_newa (N' := 6) (a0 := (6, .inl (fun _ => 0))) hx hb (ty := .int) rfl (htg _ hm_62) 0 hK rfl (Or.inl rfl) hP hD hS hA (fun _ => rfl) (by omega) (Nat.le_of_ble_eq_true rfl) (Nat.le_of_ble_eq_true rfl) (Nat.le_of_ble_eq_true rfl) dX1_init_7 (fun a1 H hP hD hS => ?_)
  replace hP : va_P D vwCl [(h, .inr (1, [.null, .null, .null, .null, .null, .int 0, .int 0])), (a1, .inl (cI, 6, .inl (fun _ => 0)))] H := hP
  replace hD : va_D A [(h, .inr (1, [.null, .null, .null, .null, .null, .int 0, .int 0])), (a1, .inl (cI, 6, .inl (fun _ => 0)))] := hD
  refine va_putF (D := D) (ci := 1) (v := .ref a1) (ty := .array .int) (C := RX1) (T := TX1) (N := 7) hx hb htg hi_X1 tyX1 tyX1_ok nmX1 hown hK hP hD hS 0 rfl rfl 0 (by decide) (htg _ hm_30) (fun _ h9 => h9) rfl hin rfl (by decide +kernel) rfl rfl (Nat.le_of_ble_eq_true rfl) dX1_init_9 (fun H locs hP hD hS => ?_)
  replace hP : va_P D vwCl [(h, .inr (1, [.ref a1, .null, .null, .null, .null, .int 0, .int 0])), (a1, .inl (cI, 6, .inl (fun _ => 0)))] H := hP
  replace hD : va_D A [(h, .inr (1, [.ref a1, .null, .null, .null, .null, .int 0, .int 0])), (a1, .inl (cI, 6, .inl (fun _ => 0)))] := hD
  refine lv_aload_n hx hb dX1_init_12 rfl (lv_at hl 0 rfl) ?_
  refine lv_bipush (v := nI 6) hx hb dX1_init_13 (by decide) ?_
  refine hn_newa (N' := 6) (a0 := (6, .inl (fun _ => 0))) hx hb (ty := .int) rfl (htg _ hm_62) 0 hK rfl (Or.inl rfl) hP hD hS hA (fun _ => rfl) (by omega) (Nat.le_of_ble_eq_true rfl) (Nat.le_of_ble_eq_true rfl) (Nat.le_of_ble_eq_true rfl) dX1_init_15 (fun a2 H hP hD hS => ?_)
  replace hP : va_P D vwCl [(h, .inr (1, [.ref a1, .null, .null, .null, .null, .int 0, .int 0])), (a1, .inl (cI, 6, .inl (fun _ => 0))), (a2, .inl (cI, 6, .inl (fun _ => 0)))] H := hP
  replace hD : va_D A [(h, .inr (1, [.ref a1, .null, .null, .null, .null, .int 0, .int 0])), (a1, .inl (cI, 6, .inl (fun _ => 0))), (a2, .inl (cI, 6, .inl (fun _ => 0)))] := hD
  refine va_putF (D := D) (ci := 1) (v := .ref a2) (ty := .array .int) (C := RX1) (T := TX1) (N := 7) hx hb htg hi_X1 tyX1 tyX1_ok nmX1 hown hK hP hD hS 0 rfl rfl 1 (by decide) (htg _ hm_31) (fun _ h9 => h9) rfl hin rfl (by decide +kernel) rfl rfl (Nat.le_of_ble_eq_true rfl) dX1_init_17 (fun H locs hP hD hS => ?_)
  replace hP : va_P D vwCl [(h, .inr (1, [.ref a1, .ref a2, .null, .null, .null, .int 0, .int 0])), (a1, .inl (cI, 6, .inl (fun _ => 0))), (a2, .inl (cI, 6, .inl (fun _ => 0)))] H := hP
  replace hD : va_D A [(h, .inr (1, [.ref a1, .ref a2, .null, .null, .null, .int 0, .int 0])), (a1, .inl (cI, 6, .inl (fun _ => 0))), (a2, .inl (cI, 6, .inl (fun _ => 0)))] := hD
  refine lv_aload_n hx hb dX1_init_20 rfl (lv_at hl 0 rfl) ?_
  refine lv_iconst (v := nI 5) hx hb dX1_init_21 (by decide) ?_
  refine hn_newa (N' := 5) (a0 := (5, .inl (fun _ => 0))) hx hb (ty := .int) rfl (htg _ hm_62) 0 hK rfl (Or.inl rfl) hP hD hS hA (fun _ => rfl) (by omega) (Nat.le_of_ble_eq_true rfl) (Nat.le_of_ble_eq_true rfl) (Nat.le_of_ble_eq_true rfl) dX1_init_22 (fun a3 H hP hD hS => ?_)
  replace hP : va_P D vwCl [(h, .inr (1, [.ref a1, .ref a2, .null, .null, .null, .int 0, .int 0])), (a1, .inl (cI, 6, .inl (fun _ => 0))), (a2, .inl (cI, 6, .inl (fun _ => 0))), (a3, .inl (cI, 5, .inl (fun _ => 0)))] H := hP
  replace hD : va_D A [(h, .inr (1, [.ref a1, .ref a2, .null, .null, .null, .int 0, .int 0])), (a1, .inl (cI, 6, .inl (fun _ => 0))), (a2, .inl (cI, 6, .inl (fun _ => 0))), (a3, .inl (cI, 5, .inl (fun _ => 0)))] := hD
  refine va_putF (D := D) (ci := 1) (v := .ref a3) (ty := .array .int) (C := RX1) (T := TX1) (N := 7) hx hb htg hi_X1 tyX1 tyX1_ok nmX1 hown hK hP hD hS 0 rfl rfl 2 (by decide) (htg _ hm_32) (fun _ h9 => h9) rfl hin rfl (by decide +kernel) rfl rfl (Nat.le_of_ble_eq_true rfl) dX1_init_24 (fun H locs hP hD hS => ?_)
  replace hP : va_P D vwCl [(h, .inr (1, [.ref a1, .ref a2, .ref a3, .null, .null, .int 0, .int 0])), (a1, .inl (cI, 6, .inl (fun _ => 0))), (a2, .inl (cI, 6, .inl (fun _ => 0))), (a3, .inl (cI, 5, .inl (fun _ => 0)))] H := hP
  replace hD : va_D A [(h, .inr (1, [.ref a1, .ref a2, .ref a3, .null, .null, .int 0, .int 0])), (a1, .inl (cI, 6, .inl (fun _ => 0))), (a2, .inl (cI, 6, .inl (fun _ => 0))), (a3, .inl (cI, 5, .inl (fun _ => 0)))] := hD
  refine lv_aload_n hx hb dX1_init_27 rfl (lv_at hl 0 rfl) ?_
  refine lv_iconst (v := nI 5) hx hb dX1_init_28 (by decide) ?_
  refine hn_newa (N' := 5) (a0 := (5, .inl (fun _ => 0))) hx hb (ty := .int) rfl (htg _ hm_62) 0 hK rfl (Or.inl rfl) hP hD hS hA (fun _ => rfl) (by omega) (Nat.le_of_ble_eq_true rfl) (Nat.le_of_ble_eq_true rfl) (Nat.le_of_ble_eq_true rfl) dX1_init_29 (fun a4 H hP hD hS => ?_)
  replace hP : va_P D vwCl [(h, .inr (1, [.ref a1, .ref a2, .ref a3, .null, .null, .int 0, .int 0])), (a1, .inl (cI, 6, .inl (fun _ => 0))), (a2, .inl (cI, 6, .inl (fun _ => 0))), (a3, .inl (cI, 5, .inl (fun _ => 0))), (a4, .inl (cI, 5, .inl (fun _ => 0)))] H := hP
  replace hD : va_D A [(h, .inr (1, [.ref a1, .ref a2, .ref a3, .null, .null, .int 0, .int 0])), (a1, .inl (cI, 6, .inl (fun _ => 0))), (a2, .inl (cI, 6, .inl (fun _ => 0))), (a3, .inl (cI, 5, .inl (fun _ => 0))), (a4, .inl (cI, 5, .inl (fun _ => 0)))] := hD
  refine va_putF (D := D) (ci := 1) (v := .ref a4) (ty := .array .int) (C := RX1) (T := TX1) (N := 7) hx hb htg hi_X1 tyX1 tyX1_ok nmX1 hown hK hP hD hS 0 rfl rfl 3 (by decide) (htg _ hm_35) (fun _ h9 => h9) rfl hin rfl (by decide +kernel) rfl rfl (Nat.le_of_ble_eq_true rfl) dX1_init_31 (fun H locs hP hD hS => ?_)
  replace hP : va_P D vwCl [(h, .inr (1, [.ref a1, .ref a2, .ref a3, .ref a4, .null, .int 0, .int 0])), (a1, .inl (cI, 6, .inl (fun _ => 0))), (a2, .inl (cI, 6, .inl (fun _ => 0))), (a3, .inl (cI, 5, .inl (fun _ => 0))), (a4, .inl (cI, 5, .inl (fun _ => 0)))] H := hP
  replace hD : va_D A [(h, .inr (1, [.ref a1, .ref a2, .ref a3, .ref a4, .null, .int 0, .int 0])), (a1, .inl (cI, 6, .inl (fun _ => 0))), (a2, .inl (cI, 6, .inl (fun _ => 0))), (a3, .inl (cI, 5, .inl (fun _ => 0))), (a4, .inl (cI, 5, .inl (fun _ => 0)))] := hD
  refine lv_aload_n hx hb dX1_init_34 rfl (lv_at hl 0 rfl) ?_
  refine lv_iconst (v := nI 5) hx hb dX1_init_35 (by decide) ?_
  refine hn_newa (N' := 5) (a0 := (5, .inl (fun _ => 0))) hx hb (ty := .boolean) rfl (htg _ hm_63) 1 hK rfl (Or.inr (Or.inl rfl)) hP hD hS hA (fun _ => rfl) (by omega) (Nat.le_of_ble_eq_true rfl) (Nat.le_of_ble_eq_true rfl) (Nat.le_of_ble_eq_true rfl) dX1_init_36 (fun a5 H hP hD hS => ?_)
  replace hP : va_P D vwCl [(h, .inr (1, [.ref a1, .ref a2, .ref a3, .ref a4, .null, .int 0, .int 0])), (a1, .inl (cI, 6, .inl (fun _ => 0))), (a2, .inl (cI, 6, .inl (fun _ => 0))), (a3, .inl (cI, 5, .inl (fun _ => 0))), (a4, .inl (cI, 5, .inl (fun _ => 0))), (a5, .inl (cZ, 5, .inl (fun _ => 0)))] H := hP
  replace hD : va_D A [(h, .inr (1, [.ref a1, .ref a2, .ref a3, .ref a4, .null, .int 0, .int 0])), (a1, .inl (cI, 6, .inl (fun _ => 0))), (a2, .inl (cI, 6, .inl (fun _ => 0))), (a3, .inl (cI, 5, .inl (fun _ => 0))), (a4, .inl (cI, 5, .inl (fun _ => 0))), (a5, .inl (cZ, 5, .inl (fun _ => 0)))] := hD
  refine va_putF (D := D) (ci := 1) (v := .ref a5) (ty := .array .boolean) (C := RX1) (T := TX1) (N := 7) hx hb htg hi_X1 tyX1 tyX1_ok nmX1 hown hK hP hD hS 0 rfl rfl 4 (by decide) (htg _ hm_38) (fun _ h9 => h9) rfl hin rfl (by decide +kernel) rfl rfl (Nat.le_of_ble_eq_true rfl) dX1_init_38 (fun H locs hP hD hS => ?_)
  replace hP : va_P D vwCl [(h, .inr (1, [.ref a1, .ref a2, .ref a3, .ref a4, .ref a5, .int 0, .int 0])), (a1, .inl (cI, 6, .inl (fun _ => 0))), (a2, .inl (cI, 6, .inl (fun _ => 0))), (a3, .inl (cI, 5, .inl (fun _ => 0))), (a4, .inl (cI, 5, .inl (fun _ => 0))), (a5, .inl (cZ, 5, .inl (fun _ => 0)))] H := hP
  replace hD : va_D A [(h, .inr (1, [.ref a1, .ref a2, .ref a3, .ref a4, .ref a5, .int 0, .int 0])), (a1, .inl (cI, 6, .inl (fun _ => 0))), (a2, .inl (cI, 6, .inl (fun _ => 0))), (a3, .inl (cI, 5, .inl (fun _ => 0))), (a4, .inl (cI, 5, .inl (fun _ => 0))), (a5, .inl (cZ, 5, .inl (fun _ => 0)))] := hD
  exact W.vret hx hb hr (fun t9 ht9 hW9 => ⟨⟨(a1, a2, a3, a4, a5), rfl, ⟨hD, trivial⟩, by show va_P D vwCl [(h, .inr (1, [.ref a1, .ref a2, .ref a3, .ref a4, .ref a5, .int 0, .int 0])), (a1, .inl (cI, 6, .inl (fun _ => 0))), (a2, .inl (cI, 6, .inl (fun _ => 0))), (a3, .inl (cI, 5, .inl (fun _ => 0))), (a4, .inl (cI, 5, .inl (fun _ => 0))), (a5, .inl (cZ, 5, .inl (fun _ => 0)))] t9.heap; rw [ht9]; exact hP⟩, hS.F ht9⟩) hS.2.2 dX1_init_41
