set_option maxHeartbeats 4000000 in
set_option maxRecDepth 100000 in
/-- right and more are true -/
theorem k_X4_rightTrue (l : Launch) (D : va_G) (cI cZ cJ : ClassId) (sz : Nat) (Sa Oa My Fa Ta La : Nat → Int32) (SA OA : Nat → Bool) (MA FA TA : Nat → Nat) (LA : Nat → Bool) (v : Nat → Nat) (Ga : Nat → Int32) (Ca Na Ra Ka : Nat → Int32) (nx : Nat → Option Nat) (lg : Nat → Bool) (cd md o1 o2 mo : Int32) (y0 y1 y2 y3 y4 y5 y6 y7 y8 y9 ya yb yc yd ye yf yg yh : Nat) (hM : hr_m Sa Oa My Fa Ta La SA OA MA FA TA LA) (hG : ∀ j, j < 6 → Ga j = nI (v j)) (hv : ∀ j, j < 6 → v j < 6) (hN : hk_N Ca Na Ra nx lg) : Met l yX4_rightTrue (Cond.code yX4_rightTrue cX4_rightTrue 2 (some .boolean) :: hwG) { frames := 1, cells := 0, slots := 0, locals := 24 } (hp_M [.ref y0] D cI cZ cJ [(y0, .inr (4, [.int cd, .ref y1, .ref y2, .ref y3, .ref y4, .ref y5, .ref y6, .ref y7, .ref y8, .ref y9, .ref ya, .ref yb, .ref yc, .ref yd, .ref ye, .int md, .int o1, .int o2, .int mo, .ref yf, .ref yg, .ref yh])), (y1, .inl (cZ, 72, .inl Sa)), (y2, .inl (cZ, 72, .inl Oa)), (y3, .inl (cI, 2, .inl My)), (y4, .inl (cI, 10, .inl Fa)), (y5, .inl (cI, 10, .inl Ta)), (y6, .inl (cZ, 10, .inl La)), (y7, .inl (cI, 6, .inl Ga)), (y8, .inl (cZ, 6, .inl Ca)), (y9, .inl (cI, 6, .inl Na)), (ya, .inl (cZ, 6, .inl Ra)), (yb, .inl (cZ, 6, .inl Ka))] sz) (va_Qi (S := Nat → Int32) (fun r u => hc_r r ((hk_R v SA OA MA FA TA LA mo) nx lg)) (fun u t => va_P D vwCl ([(y0, .inr (4, [.int cd, .ref y1, .ref y2, .ref y3, .ref y4, .ref y5, .ref y6, .ref y7, .ref y8, .ref y9, .ref ya, .ref yb, .ref yc, .ref yd, .ref ye, .int md, .int o1, .int o2, .int mo, .ref yf, .ref yg, .ref yh])), (y1, .inl (cZ, 72, .inl Sa)), (y2, .inl (cZ, 72, .inl Oa)), (y3, .inl (cI, 2, .inl My)), (y4, .inl (cI, 10, .inl Fa)), (y5, .inl (cI, 10, .inl Ta)), (y6, .inl (cZ, 10, .inl La)), (y7, .inl (cI, 6, .inl Ga)), (y8, .inl (cZ, 6, .inl Ca)), (y9, .inl (cI, 6, .inl Na)), (ya, .inl (cZ, 6, .inl Ra)), (yb, .inl (cZ, 6, .inl u))]) t.heap) (va_A [(y0, .inr (4, [.int cd, .ref y1, .ref y2, .ref y3, .ref y4, .ref y5, .ref y6, .ref y7, .ref y8, .ref y9, .ref ya, .ref yb, .ref yc, .ref yd, .ref ye, .int md, .int o1, .int o2, .int mo, .ref yf, .ref yg, .ref yh])), (y1, .inl (cZ, 72, .inl Sa)), (y2, .inl (cZ, 72, .inl Oa)), (y3, .inl (cI, 2, .inl My)), (y4, .inl (cI, 10, .inl Fa)), (y5, .inl (cI, 10, .inl Ta)), (y6, .inl (cZ, 10, .inl La)), (y7, .inl (cI, 6, .inl Ga)), (y8, .inl (cZ, 6, .inl Ca)), (y9, .inl (cI, 6, .inl Na)), (ya, .inl (cZ, 6, .inl Ra)), (yb, .inl (cZ, 6, .inl Ka))] sz)) 0 0 (va_A [(y0, .inr (4, [.int cd, .ref y1, .ref y2, .ref y3, .ref y4, .ref y5, .ref y6, .ref y7, .ref y8, .ref y9, .ref ya, .ref yb, .ref yc, .ref yd, .ref ye, .int md, .int o1, .int o2, .int mo, .ref yf, .ref yg, .ref yh])), (y1, .inl (cZ, 72, .inl Sa)), (y2, .inl (cZ, 72, .inl Oa)), (y3, .inl (cI, 2, .inl My)), (y4, .inl (cI, 10, .inl Fa)), (y5, .inl (cI, 10, .inl Ta)), (y6, .inl (cZ, 10, .inl La)), (y7, .inl (cI, 6, .inl Ga)), (y8, .inl (cZ, 6, .inl Ca)), (y9, .inl (cI, 6, .inl Na)), (ya, .inl (cZ, 6, .inl Ra)), (yb, .inl (cZ, 6, .inl Ka))] sz) := by
  refine Met.ofW (cc := cX4_rightTrue) (maxL := 2) (ret := (some .boolean)) (by decide) rfl ?_
  intro p e s m args below meth c s₁ B hml hv
  obtain ⟨rfl, hsz, hP, hz, hD0⟩ := hv
  have hx := B.exec
  have hb := B.bytes
  have hr := B.returns
  have hts := atoms_spec (ws := (Cond.code yX4_rightTrue cX4_rightTrue 2 (some .boolean) :: hwG)) B.pre
  have htg := fun w h => hts w (List.mem_cons_of_mem _ h)
  have hown : s.vm.findClass RX4 = some m.cls := findClass_of_methodNamed B.named
  have hlocks := B.notSynchronized
  have hK := hz.1
  subst hsz
  have hD := hD0.self (sz := s.heap.size)
  generalize hAe : va_A [(y0, .inr (4, [.int cd, .ref y1, .ref y2, .ref y3, .ref y4, .ref y5, .ref y6, .ref y7, .ref y8, .ref y9, .ref ya, .ref yb, .ref yc, .ref yd, .ref ye, .int md, .int o1, .int o2, .int mo, .ref yf, .ref yg, .ref yh])), (y1, .inl (cZ, 72, .inl Sa)), (y2, .inl (cZ, 72, .inl Oa)), (y3, .inl (cI, 2, .inl My)), (y4, .inl (cI, 10, .inl Fa)), (y5, .inl (cI, 10, .inl Ta)), (y6, .inl (cZ, 10, .inl La)), (y7, .inl (cI, 6, .inl Ga)), (y8, .inl (cZ, 6, .inl Ca)), (y9, .inl (cI, 6, .inl Na)), (ya, .inl (cZ, 6, .inl Ra)), (yb, .inl (cZ, 6, .inl Ka))] s.heap.size = A at hD ⊢
  have hA : ∀ q : Nat, s.heap.size ≤ q → A q := fun q h => by rw [← hAe]; exact Or.inr h
  have hS : va_S A s.heap s.heap [] := va_S.rf
  have hl := lv_entry ([.ref y0]) (n := 2) (Nat.le_of_ble_eq_true rfl)
  rw [lg_entry_eq]
  generalize (lg_sl ([.ref y0]) ++ List.replicate (2 - (lg_sl ([.ref y0])).length) Slot.unset).toArray = ls at hl ⊢
  replace hl : lv_has ls 2 [(0, .ref y0)] := hl
  replace hP : va_P D vwCl [(y0, .inr (4, [.int cd, .ref y1, .ref y2, .ref y3, .ref y4, .ref y5, .ref y6, .ref y7, .ref y8, .ref y9, .ref ya, .ref yb, .ref yc, .ref yd, .ref ye, .int md, .int o1, .int o2, .int mo, .ref yf, .ref yg, .ref yh])), (y1, .inl (cZ, 72, .inl Sa)), (y2, .inl (cZ, 72, .inl Oa)), (y3, .inl (cI, 2, .inl My)), (y4, .inl (cI, 10, .inl Fa)), (y5, .inl (cI, 10, .inl Ta)), (y6, .inl (cZ, 10, .inl La)), (y7, .inl (cI, 6, .inl Ga)), (y8, .inl (cZ, 6, .inl Ca)), (y9, .inl (cI, 6, .inl Na)), (ya, .inl (cZ, 6, .inl Ra)), (yb, .inl (cZ, 6, .inl Ka))] s.heap := hP
  have hm0 := (hM.2.1 0 (by omega)).2
  have hm1 := (hM.2.1 1 (by omega)).2
  refine lv_aload_n hx hb dX4_rightTrue_0 rfl (lv_at hl 0 rfl) ?_
  refine lv_iconst (v := nI 1) hx hb dX4_rightTrue_1 (by decide) ?_
  refine hw_csi (va_runV (C := RX4) (b := y0) (As := [.int (nI 1)]) (rest := []) ⟨hx, hb, hml, hown, htg⟩ (k_X4_pairsTrue l D cI cZ cJ Sa Oa My Fa Ta La SA OA MA FA TA LA v Ga 1 cd md o1 o2 mo y0 y1 y2 y3 y4 y5 y6 y7 y8 y9 ya yb yc yd ye yf yg yh hM hG hv (by omega)) (cwV 1 htg (hg_V hm_601 hm_603 hs_yX4_pairsTrue hm_6 hm_604) rfl rfl rfl (by decide +kernel) ⟨Nat.le_of_ble_eq_true rfl, Nat.le_of_ble_eq_true rfl⟩) ⟨hp_R_blind, va_recv (q := (RX4, TX4, 22)) (q0 := 0) (ci := 4) hK hP rfl rfl, hp_R_pre (hP.sub (ws' := [(y0, .inr (4, [.int cd, .ref y1, .ref y2, .ref y3, .ref y4, .ref y5, .ref y6, .ref y7, .ref y8, .ref y9, .ref ya, .ref yb, .ref yc, .ref yd, .ref ye, .int md, .int o1, .int o2, .int mo, .ref yf, .ref yg, .ref yh])), (y1, .inl (cZ, 72, .inl Sa)), (y2, .inl (cZ, 72, .inl Oa)), (y7, .inl (cI, 6, .inl Ga))]) [0, 1, 2, 7] rfl) hz⟩ rfl rfl hl.1 rfl (lv_room (Nat.le_of_ble_eq_true rfl)) dX4_rightTrue_2 ⟨Nat.zero_le _, Nat.zero_le _⟩) (fun r hq => ?_)
  rcases hq with ⟨rfl, hq⟩ | ⟨rfl, hq⟩
  · refine lv_if_ne hx hb dX4_rightTrue_5 rfl (fun hc => ?_) (fun hc => absurd hc (by decide))
    refine lv_iconst (v := nI 0) hx hb dX4_rightTrue_10 (by decide) ?_
    refine lv_istore_n hx hb dX4_rightTrue_11 rfl hl (by decide) rfl (fun ls hl => ?_)
    replace hl : lv_has ls 2 [(1, .int (nI 0)), (0, .ref y0)] := hl
    obtain ⟨H, e_H⟩ : ∃ z : Heap, z = s.heap := ⟨_, rfl⟩
    obtain ⟨locs, e_locs⟩ : ∃ z : List Loc, z = [] := ⟨_, rfl⟩
    replace hP : va_P D vwCl [(y0, .inr (4, [.int cd, .ref y1, .ref y2, .ref y3, .ref y4, .ref y5, .ref y6, .ref y7, .ref y8, .ref y9, .ref ya, .ref yb, .ref yc, .ref yd, .ref ye, .int md, .int o1, .int o2, .int mo, .ref yf, .ref yg, .ref yh])), (y1, .inl (cZ, 72, .inl Sa)), (y2, .inl (cZ, 72, .inl Oa)), (y3, .inl (cI, 2, .inl My)), (y4, .inl (cI, 10, .inl Fa)), (y5, .inl (cI, 10, .inl Ta)), (y6, .inl (cZ, 10, .inl La)), (y7, .inl (cI, 6, .inl Ga)), (y8, .inl (cZ, 6, .inl Ca)), (y9, .inl (cI, 6, .inl Na)), (ya, .inl (cZ, 6, .inl Ra)), (yb, .inl (cZ, 6, .inl Ka))] H := by subst e_H; exact hP
    replace hS : va_S A s.heap H locs := by subst e_H e_locs; exact hS
    rw [← e_H, ← e_locs]
    clear e_H e_locs
    obtain ⟨t, e_t⟩ : ∃ z : Nat, z = 0 := ⟨_, rfl⟩
    obtain ⟨K1, e_K1⟩ : ∃ z : Nat → Int32, z = Ka := ⟨_, rfl⟩
    replace hl : lv_has ls 2 [(1, .int (nI t)), (0, .ref y0)] := by subst e_t e_K1; exact hl
    replace hP : va_P D vwCl [(y0, .inr (4, [.int cd, .ref y1, .ref y2, .ref y3, .ref y4, .ref y5, .ref y6, .ref y7, .ref y8, .ref y9, .ref ya, .ref yb, .ref yc, .ref yd, .ref ye, .int md, .int o1, .int o2, .int mo, .ref yf, .ref yg, .ref yh])), (y1, .inl (cZ, 72, .inl Sa)), (y2, .inl (cZ, 72, .inl Oa)), (y3, .inl (cI, 2, .inl My)), (y4, .inl (cI, 10, .inl Fa)), (y5, .inl (cI, 10, .inl Ta)), (y6, .inl (cZ, 10, .inl La)), (y7, .inl (cI, 6, .inl Ga)), (y8, .inl (cZ, 6, .inl Ca)), (y9, .inl (cI, 6, .inl Na)), (ya, .inl (cZ, 6, .inl Ra)), (yb, .inl (cZ, 6, .inl K1))] H := by subst e_t e_K1; exact hP
    replace hD : va_D A [(y0, .inr (4, [.int cd, .ref y1, .ref y2, .ref y3, .ref y4, .ref y5, .ref y6, .ref y7, .ref y8, .ref y9, .ref ya, .ref yb, .ref yc, .ref yd, .ref ye, .int md, .int o1, .int o2, .int mo, .ref yf, .ref yg, .ref yh])), (y1, .inl (cZ, 72, .inl Sa)), (y2, .inl (cZ, 72, .inl Oa)), (y3, .inl (cI, 2, .inl My)), (y4, .inl (cI, 10, .inl Fa)), (y5, .inl (cI, 10, .inl Ta)), (y6, .inl (cZ, 10, .inl La)), (y7, .inl (cI, 6, .inl Ga)), (y8, .inl (cZ, 6, .inl Ca)), (y9, .inl (cI, 6, .inl Na)), (ya, .inl (cZ, 6, .inl Ra)), (yb, .inl (cZ, 6, .inl K1))] := by subst e_t e_K1; exact hD
    have hK1 : ∀ j, j < t → K1 j = hc_b false := by subst e_t e_K1; exact fun j hj => absurd hj (Nat.not_lt_zero _)
    have ht6 : t ≤ 6 := by subst e_t e_K1; omega
    clear e_t e_K1
    obtain ⟨k, hk⟩ : ∃ k : Nat, k = 6 - t := ⟨_, rfl⟩
    induction k generalizing t K1 ls H locs  with
    | zero =>
      refine lv_iload_n hx hb dX4_rightTrue_12 rfl (lv_at hl 0 rfl) ?_
      refine lv_bipush (v := nI 6) hx hb dX4_rightTrue_13 (by decide) ?_
      refine hw_icmp_ge hx hb (by omega) (by omega) dX4_rightTrue_15 rfl (fun hc => ?_) (fun hc => absurd hc (by omega))
      refine lv_iconst (v := nI 5) hx hb dX4_rightTrue_31 (by decide) ?_
      refine lv_istore_n hx hb dX4_rightTrue_32 rfl hl (by decide) rfl (fun ls hl => ?_)
      replace hl : lv_has ls 2 [(1, .int (nI 5)), (0, .ref y0)] := hl
      obtain ⟨i, e_i⟩ : ∃ z : Nat, z = 0 := ⟨_, rfl⟩
      obtain ⟨K2, e_K2⟩ : ∃ z : Nat → Int32, z = K1 := ⟨_, rfl⟩
      obtain ⟨T2, e_T2⟩ : ∃ z : Nat → Bool, z = (fun _ => false) := ⟨_, rfl⟩
      replace hl : lv_has ls 2 [(1, .int (nI (5 + i))), (0, .ref y0)] := by subst e_i e_K2 e_T2; exact hl
      replace hP : va_P D vwCl [(y0, .inr (4, [.int cd, .ref y1, .ref y2, .ref y3, .ref y4, .ref y5, .ref y6, .ref y7, .ref y8, .ref y9, .ref ya, .ref yb, .ref yc, .ref yd, .ref ye, .int md, .int o1, .int o2, .int mo, .ref yf, .ref yg, .ref yh])), (y1, .inl (cZ, 72, .inl Sa)), (y2, .inl (cZ, 72, .inl Oa)), (y3, .inl (cI, 2, .inl My)), (y4, .inl (cI, 10, .inl Fa)), (y5, .inl (cI, 10, .inl Ta)), (y6, .inl (cZ, 10, .inl La)), (y7, .inl (cI, 6, .inl Ga)), (y8, .inl (cZ, 6, .inl Ca)), (y9, .inl (cI, 6, .inl Na)), (ya, .inl (cZ, 6, .inl Ra)), (yb, .inl (cZ, 6, .inl K2))] H := by subst e_i e_K2 e_T2; exact hP
      replace hD : va_D A [(y0, .inr (4, [.int cd, .ref y1, .ref y2, .ref y3, .ref y4, .ref y5, .ref y6, .ref y7, .ref y8, .ref y9, .ref ya, .ref yb, .ref yc, .ref yd, .ref ye, .int md, .int o1, .int o2, .int mo, .ref yf, .ref yg, .ref yh])), (y1, .inl (cZ, 72, .inl Sa)), (y2, .inl (cZ, 72, .inl Oa)), (y3, .inl (cI, 2, .inl My)), (y4, .inl (cI, 10, .inl Fa)), (y5, .inl (cI, 10, .inl Ta)), (y6, .inl (cZ, 10, .inl La)), (y7, .inl (cI, 6, .inl Ga)), (y8, .inl (cZ, 6, .inl Ca)), (y9, .inl (cI, 6, .inl Na)), (ya, .inl (cZ, 6, .inl Ra)), (yb, .inl (cZ, 6, .inl K2))] := by subst e_i e_K2 e_T2; exact hD
      have hK2 : ∀ j, j < 6 → K2 j = hc_b (T2 j) := by subst e_i e_K2 e_T2; exact fun j hj => hK1 j (by omega)
      have hpr : hc_PR nx lg (fun i => v (FA (5 + i))) (fun i => v (TA (5 + i))) (fun i => LA (5 + i)) (fun p => bt mo p) (fun p => v (FA p)) (fun p => v (TA p)) LA i 0 T2 := by subst e_i e_K2 e_T2; exact hc_PR_0
      have hi : i ≤ MA 1 := by subst e_i e_K2 e_T2; exact Nat.zero_le _
      clear e_i e_K2 e_T2
      obtain ⟨k2, hk2⟩ : ∃ k2 : Nat, k2 = MA 1 - i := ⟨_, rfl⟩
      induction k2 generalizing i K2 T2 ls H locs  with
      | zero =>
        refine lv_iload_n hx hb dX4_rightTrue_33 rfl (lv_at hl 0 rfl) ?_
        refine lv_iconst (v := nI 5) hx hb dX4_rightTrue_34 (by decide) ?_
        refine lv_aload_n hx hb dX4_rightTrue_35 rfl (lv_at hl 1 rfl) ?_
        refine va_get (D := D) (ci := 4) (v := .ref y3) (C := RX4) (T := TX4) (N := 22) hx hb htg hi_X4 hown hK hP 0 rfl rfl 3 (by decide) (htg _ hm_499) (fun _ h9 => h9) rfl dX4_rightTrue_36 ?_
        refine lv_iconst (v := nI 1) hx hb dX4_rightTrue_39 (by decide) ?_
        refine hw_iald hx hb hK hP 3 0 rfl rfl (j := 1) (by omega) (by first | decide | omega) (v := nI (MA 1)) ((hM.2.1 1 (by omega)).1) dX4_rightTrue_40 ?_
        refine hw_iadd hx hb dX4_rightTrue_41 ?_
        refine hw_icmp_ge hx hb (by omega) (by omega) dX4_rightTrue_42 rfl (fun hc2 => ?_) (fun hc2 => absurd hc2 (by omega))
        rw [show i = MA 1 by omega] at hpr
        refine lv_iconst (v := nI 0) hx hb dX4_rightTrue_61 (by decide) ?_
        refine lv_istore_n hx hb dX4_rightTrue_62 rfl hl (by decide) rfl (fun ls hl => ?_)
        replace hl : lv_has ls 2 [(1, .int (nI 0)), (0, .ref y0)] := hl
        obtain ⟨p3, e_p3⟩ : ∃ z : Nat, z = 0 := ⟨_, rfl⟩
        obtain ⟨K3, e_K3⟩ : ∃ z : Nat → Int32, z = K2 := ⟨_, rfl⟩
        obtain ⟨T3, e_T3⟩ : ∃ z : Nat → Bool, z = T2 := ⟨_, rfl⟩
        replace hl : lv_has ls 2 [(1, .int (nI p3)), (0, .ref y0)] := by subst e_p3 e_K3 e_T3; exact hl
        replace hP : va_P D vwCl [(y0, .inr (4, [.int cd, .ref y1, .ref y2, .ref y3, .ref y4, .ref y5, .ref y6, .ref y7, .ref y8, .ref y9, .ref ya, .ref yb, .ref yc, .ref yd, .ref ye, .int md, .int o1, .int o2, .int mo, .ref yf, .ref yg, .ref yh])), (y1, .inl (cZ, 72, .inl Sa)), (y2, .inl (cZ, 72, .inl Oa)), (y3, .inl (cI, 2, .inl My)), (y4, .inl (cI, 10, .inl Fa)), (y5, .inl (cI, 10, .inl Ta)), (y6, .inl (cZ, 10, .inl La)), (y7, .inl (cI, 6, .inl Ga)), (y8, .inl (cZ, 6, .inl Ca)), (y9, .inl (cI, 6, .inl Na)), (ya, .inl (cZ, 6, .inl Ra)), (yb, .inl (cZ, 6, .inl K3))] H := by subst e_p3 e_K3 e_T3; exact hP
        replace hD : va_D A [(y0, .inr (4, [.int cd, .ref y1, .ref y2, .ref y3, .ref y4, .ref y5, .ref y6, .ref y7, .ref y8, .ref y9, .ref ya, .ref yb, .ref yc, .ref yd, .ref ye, .int md, .int o1, .int o2, .int mo, .ref yf, .ref yg, .ref yh])), (y1, .inl (cZ, 72, .inl Sa)), (y2, .inl (cZ, 72, .inl Oa)), (y3, .inl (cI, 2, .inl My)), (y4, .inl (cI, 10, .inl Fa)), (y5, .inl (cI, 10, .inl Ta)), (y6, .inl (cZ, 10, .inl La)), (y7, .inl (cI, 6, .inl Ga)), (y8, .inl (cZ, 6, .inl Ca)), (y9, .inl (cI, 6, .inl Na)), (ya, .inl (cZ, 6, .inl Ra)), (yb, .inl (cZ, 6, .inl K3))] := by subst e_p3 e_K3 e_T3; exact hD
        have hK3 : ∀ j, j < 6 → K3 j = hc_b (T3 j) := by subst e_p3 e_K3 e_T3; exact hK2
        have hp3 : hc_PR nx lg (fun i => v (FA (5 + i))) (fun i => v (TA (5 + i))) (fun i => LA (5 + i)) (fun p => bt mo p) (fun p => v (FA p)) (fun p => v (TA p)) LA (MA 1) p3 T3 := by subst e_p3 e_K3 e_T3; exact hpr
        have hi3 : p3 ≤ MA 0 := by subst e_p3 e_K3 e_T3; exact Nat.zero_le _
        clear e_p3 e_K3 e_T3
        obtain ⟨k3, hk3⟩ : ∃ k3 : Nat, k3 = MA 0 - p3 := ⟨_, rfl⟩
        induction k3 generalizing p3 K3 T3 ls H locs  with
        | zero =>
          refine lv_iload_n hx hb dX4_rightTrue_63 rfl (lv_at hl 0 rfl) ?_
          refine lv_aload_n hx hb dX4_rightTrue_64 rfl (lv_at hl 1 rfl) ?_
          refine va_get (D := D) (ci := 4) (v := .ref y3) (C := RX4) (T := TX4) (N := 22) hx hb htg hi_X4 hown hK hP 0 rfl rfl 3 (by decide) (htg _ hm_499) (fun _ h9 => h9) rfl dX4_rightTrue_65 ?_
          refine lv_iconst (v := nI 0) hx hb dX4_rightTrue_68 (by decide) ?_
          refine hw_iald hx hb hK hP 3 0 rfl rfl (j := 0) (by omega) (by first | decide | omega) (v := nI (MA 0)) ((hM.2.1 0 (by omega)).1) dX4_rightTrue_69 ?_
          refine hw_icmp_ge hx hb (by omega) (by omega) dX4_rightTrue_70 rfl (fun hc3 => ?_) (fun hc3 => absurd hc3 (by omega))
          rw [show p3 = MA 0 by omega] at hp3
          refine lv_iconst (v := nI 0) hx hb dX4_rightTrue_101 (by decide) ?_
          refine lv_istore_n hx hb dX4_rightTrue_102 rfl hl (by decide) rfl (fun ls hl => ?_)
          replace hl : lv_has ls 2 [(1, .int (nI 0)), (0, .ref y0)] := hl
          obtain ⟨g4, e_g4⟩ : ∃ z : Nat, z = 0 := ⟨_, rfl⟩
          replace hl : lv_has ls 2 [(1, .int (nI g4)), (0, .ref y0)] := by subst e_g4; exact hl
          have hI4 : ∀ j, j < g4 → nx j ≠ none → T3 j = true := by subst e_g4; exact fun j hj => absurd hj (Nat.not_lt_zero _)
          have hg4 : g4 ≤ 6 := by subst e_g4; omega
          clear e_g4
          obtain ⟨k4, hk4⟩ : ∃ k4 : Nat, k4 = 6 - g4 := ⟨_, rfl⟩
          induction k4 generalizing g4 ls  with
          | zero =>
            refine lv_iload_n hx hb dX4_rightTrue_103 rfl (lv_at hl 0 rfl) ?_
            refine lv_bipush (v := nI 6) hx hb dX4_rightTrue_104 (by decide) ?_
            refine hw_icmp_ge hx hb (by omega) (by omega) dX4_rightTrue_106 rfl (fun hc4 => ?_) (fun hc4 => absurd hc4 (by omega))
            refine lv_iconst (v := nI 1) hx hb dX4_rightTrue_135 (by decide) ?_
            exact W.zret (v := nI 1) hx hb hr (by decide +kernel) (fun t9 ht9 hW9 => ⟨⟨_, K3, rfl, Or.inl ⟨rfl, hq, (hc_PR_end hN.1 hp3).mpr (fun j hj => hI4 j (by omega))⟩, by show va_P D vwCl [(y0, .inr (4, [.int cd, .ref y1, .ref y2, .ref y3, .ref y4, .ref y5, .ref y6, .ref y7, .ref y8, .ref y9, .ref ya, .ref yb, .ref yc, .ref yd, .ref ye, .int md, .int o1, .int o2, .int mo, .ref yf, .ref yg, .ref yh])), (y1, .inl (cZ, 72, .inl Sa)), (y2, .inl (cZ, 72, .inl Oa)), (y3, .inl (cI, 2, .inl My)), (y4, .inl (cI, 10, .inl Fa)), (y5, .inl (cI, 10, .inl Ta)), (y6, .inl (cZ, 10, .inl La)), (y7, .inl (cI, 6, .inl Ga)), (y8, .inl (cZ, 6, .inl Ca)), (y9, .inl (cI, 6, .inl Na)), (ya, .inl (cZ, 6, .inl Ra)), (yb, .inl (cZ, 6, .inl K3))] t9.heap; rw [ht9]; exact hP⟩, hS.F ht9⟩) hS.2.2 dX4_rightTrue_136
          | succ k4 ih4 =>
            refine lv_iload_n hx hb dX4_rightTrue_103 rfl (lv_at hl 0 rfl) ?_
            refine lv_bipush (v := nI 6) hx hb dX4_rightTrue_104 (by decide) ?_
            refine hw_icmp_ge hx hb (by omega) (by omega) dX4_rightTrue_106 rfl (fun hc4 => absurd hc4 (by omega)) (fun hc4 => ?_)
            cases hn : nx g4 with
            | none =>
              refine lv_aload_n hx hb dX4_rightTrue_109 rfl (lv_at hl 1 rfl) ?_
              refine va_get (D := D) (ci := 4) (v := .ref y8) (C := RX4) (T := TX4) (N := 22) hx hb htg hi_X4 hown hK hP 0 rfl rfl 8 (by decide) (htg _ hm_504) (fun _ h9 => h9) rfl dX4_rightTrue_110 ?_
              refine lv_iload_n hx hb dX4_rightTrue_113 rfl (lv_at hl 0 rfl) ?_
              refine hw_zald hx hb hK hP 8 1 rfl rfl (j := g4) (by omega) (by first | decide | omega) (v := hc_b false) ((hN.2 _ (by omega)).1 hn) dX4_rightTrue_114 ?_
              refine hw_ifeq_b hx hb dX4_rightTrue_115 rfl (fun hc9 => ?_) (fun hc9 => absurd hc9 (by decide))
              refine lv_iinc (v := nI (g4 + 1)) (k := 0) hx hb dX4_rightTrue_129 hl rfl (hw_inc _) (by decide) rfl (fun ls hl => ?_)
              replace hl : lv_has ls 2 [(1, .int (nI (g4 + 1))), (0, .ref y0)] := hl
              refine lv_goto hx hb dX4_rightTrue_132 rfl ?_
              refine ih4 (hl := hl) (hI4 := (fun j hj hjn => ?_)) (hg4 := (by omega)) (hk4 := (by omega))
              by_cases hjg : j = g4
              · rw [hjg] at hjn ⊢; exact absurd hn hjn
              · exact hI4 j (by omega) hjn
            | some zz =>
              refine lv_aload_n hx hb dX4_rightTrue_109 rfl (lv_at hl 1 rfl) ?_
              refine va_get (D := D) (ci := 4) (v := .ref y8) (C := RX4) (T := TX4) (N := 22) hx hb htg hi_X4 hown hK hP 0 rfl rfl 8 (by decide) (htg _ hm_504) (fun _ h9 => h9) rfl dX4_rightTrue_110 ?_
              refine lv_iload_n hx hb dX4_rightTrue_113 rfl (lv_at hl 0 rfl) ?_
              refine hw_zald hx hb hK hP 8 1 rfl rfl (j := g4) (by omega) (by first | decide | omega) (v := hc_b true) (((hN.2 _ (by omega)).2 zz hn).1) dX4_rightTrue_114 ?_
              refine hw_ifeq_b hx hb dX4_rightTrue_115 rfl (fun hc9 => absurd hc9 (by decide)) (fun hc9 => ?_)
              refine lv_aload_n hx hb dX4_rightTrue_118 rfl (lv_at hl 1 rfl) ?_
              refine va_get (D := D) (ci := 4) (v := .ref yb) (C := RX4) (T := TX4) (N := 22) hx hb htg hi_X4 hown hK hP 0 rfl rfl 11 (by decide) (htg _ hm_507) (fun _ h9 => h9) rfl dX4_rightTrue_119 ?_
              refine lv_iload_n hx hb dX4_rightTrue_122 rfl (lv_at hl 0 rfl) ?_
              refine hw_zald hx hb hK hP 11 1 rfl rfl (j := g4) (by omega) (by first | decide | omega) (v := hc_b (T3 g4)) (hK3 g4 (by omega)) dX4_rightTrue_123 ?_
              refine hw_ifne_b hx hb dX4_rightTrue_124 rfl (fun ht3 => ?_) (fun ht3 => ?_)
              · refine lv_iinc (v := nI (g4 + 1)) (k := 0) hx hb dX4_rightTrue_129 hl rfl (hw_inc _) (by decide) rfl (fun ls hl => ?_)
                replace hl : lv_has ls 2 [(1, .int (nI (g4 + 1))), (0, .ref y0)] := hl
                refine lv_goto hx hb dX4_rightTrue_132 rfl ?_
                refine ih4 (hl := hl) (hI4 := (fun j hj hjn => ?_)) (hg4 := (by omega)) (hk4 := (by omega))
                by_cases hjg : j = g4
                · rw [hjg] at hjn ⊢; exact ht3
                · exact hI4 j (by omega) hjn
              · refine lv_iconst (v := nI 0) hx hb dX4_rightTrue_127 (by decide) ?_
                exact W.zret (v := nI 0) hx hb hr (by decide +kernel) (fun t9 ht9 hW9 => ⟨⟨_, K3, rfl, Or.inr ⟨rfl, fun h9 => (by have h8 := (hc_PR_end hN.1 hp3).mp h9.2 g4 (by omega) (by rw [hn]; exact fun q => (by cases q)); rw [ht3] at h8; cases h8)⟩, by show va_P D vwCl [(y0, .inr (4, [.int cd, .ref y1, .ref y2, .ref y3, .ref y4, .ref y5, .ref y6, .ref y7, .ref y8, .ref y9, .ref ya, .ref yb, .ref yc, .ref yd, .ref ye, .int md, .int o1, .int o2, .int mo, .ref yf, .ref yg, .ref yh])), (y1, .inl (cZ, 72, .inl Sa)), (y2, .inl (cZ, 72, .inl Oa)), (y3, .inl (cI, 2, .inl My)), (y4, .inl (cI, 10, .inl Fa)), (y5, .inl (cI, 10, .inl Ta)), (y6, .inl (cZ, 10, .inl La)), (y7, .inl (cI, 6, .inl Ga)), (y8, .inl (cZ, 6, .inl Ca)), (y9, .inl (cI, 6, .inl Na)), (ya, .inl (cZ, 6, .inl Ra)), (yb, .inl (cZ, 6, .inl K3))] t9.heap; rw [ht9]; exact hP⟩, hS.F ht9⟩) hS.2.2 dX4_rightTrue_128
        | succ k3 ih3 =>
          refine lv_iload_n hx hb dX4_rightTrue_63 rfl (lv_at hl 0 rfl) ?_
          refine lv_aload_n hx hb dX4_rightTrue_64 rfl (lv_at hl 1 rfl) ?_
          refine va_get (D := D) (ci := 4) (v := .ref y3) (C := RX4) (T := TX4) (N := 22) hx hb htg hi_X4 hown hK hP 0 rfl rfl 3 (by decide) (htg _ hm_499) (fun _ h9 => h9) rfl dX4_rightTrue_65 ?_
          refine lv_iconst (v := nI 0) hx hb dX4_rightTrue_68 (by decide) ?_
          refine hw_iald hx hb hK hP 3 0 rfl rfl (j := 0) (by omega) (by first | decide | omega) (v := nI (MA 0)) ((hM.2.1 0 (by omega)).1) dX4_rightTrue_69 ?_
          refine hw_icmp_ge hx hb (by omega) (by omega) dX4_rightTrue_70 rfl (fun hc3 => absurd hc3 (by omega)) (fun hc3 => ?_)
          refine lv_aload_n hx hb dX4_rightTrue_73 rfl (lv_at hl 1 rfl) ?_
          refine va_get (D := D) (ci := 4) (v := .int mo) (C := RX4) (T := TX4) (N := 22) hx hb htg hi_X4 hown hK hP 0 rfl rfl 18 (by decide) (htg _ hm_514) (fun _ h9 => h9) rfl dX4_rightTrue_74 ?_
          refine lv_iload_n hx hb dX4_rightTrue_77 rfl (lv_at hl 0 rfl) ?_
          refine lv_ishr hx hb dX4_rightTrue_78 ?_
          refine lv_iconst (v := nI 1) hx hb dX4_rightTrue_79 (by decide) ?_
          refine lv_iand hx hb dX4_rightTrue_80 ?_
          refine lv_iconst (v := nI 1) hx hb dX4_rightTrue_81 (by decide) ?_
          refine lv_icmp_ne hx hb dX4_rightTrue_82 rfl (fun hbt => ?_) (fun hbt => ?_)
          · refine lv_iinc (v := nI (p3 + 1)) (k := 0) hx hb dX4_rightTrue_95 hl rfl (hw_inc _) (by decide) rfl (fun ls hl => ?_)
            replace hl : lv_has ls 2 [(1, .int (nI (p3 + 1))), (0, .ref y0)] := hl
            refine lv_goto hx hb dX4_rightTrue_98 rfl ?_
            refine ih3 (hS := hS) (hl := hl) (hP := hP) (hD := hD) (hK3 := hK3) (hp3 := (hc_PR_skip hp3 (by cases h9 : bt mo p3 with | false => rfl | true => exact absurd ((hk_more p3 (by omega) mo).mpr h9) hbt))) (hi3 := (by omega)) (hk3 := (by omega))
          · have hbt := (hk_more p3 (by omega) mo).mp hbt
            refine lv_aload_n hx hb dX4_rightTrue_85 rfl (lv_at hl 1 rfl) ?_
            refine lv_iload_n hx hb dX4_rightTrue_86 rfl (lv_at hl 0 rfl) ?_
            refine hv_calli (w1 := fun u => [(y0, .inr (4, [.int cd, .ref y1, .ref y2, .ref y3, .ref y4, .ref y5, .ref y6, .ref y7, .ref y8, .ref y9, .ref ya, .ref yb, .ref yc, .ref yd, .ref ye, .int md, .int o1, .int o2, .int mo, .ref yf, .ref yg, .ref yh])), (y4, .inl (cI, 10, .inl Fa)), (y5, .inl (cI, 10, .inl Ta)), (y6, .inl (cZ, 10, .inl La)), (y7, .inl (cI, 6, .inl Ga)), (y8, .inl (cZ, 6, .inl Ca)), (y9, .inl (cI, 6, .inl Na)), (ya, .inl (cZ, 6, .inl Ra)), (yb, .inl (cZ, 6, .inl u))]) (va_runV (C := RX4) (b := y0) (As := [.int (nI p3)]) (rest := []) ⟨hx, hb, hml, hown, htg⟩ (k_X4_takes l D cI cZ cJ _ Sa Oa My Fa Ta La SA OA MA FA TA LA v Ga Ca Na Ra K3 nx lg T3 p3 cd md o1 o2 mo y0 y1 y2 y3 y4 y5 y6 y7 y8 y9 ya yb yc yd ye yf yg yh hM hG hv hN hK3 (by omega)) (cwV 1 htg (hg_V hm_629 hm_631 hs_yX4_takes hm_6 hm_632) rfl rfl rfl (by decide +kernel) ⟨Nat.le_of_ble_eq_true rfl, Nat.le_of_ble_eq_true rfl⟩) ⟨hp_M_blind, va_recv (q := (RX4, TX4, 22)) (q0 := 0) (ci := 4) hK hP rfl rfl, hp_M_pre (hP.sub (ws' := [(y0, .inr (4, [.int cd, .ref y1, .ref y2, .ref y3, .ref y4, .ref y5, .ref y6, .ref y7, .ref y8, .ref y9, .ref ya, .ref yb, .ref yc, .ref yd, .ref ye, .int md, .int o1, .int o2, .int mo, .ref yf, .ref yg, .ref yh])), (y4, .inl (cI, 10, .inl Fa)), (y5, .inl (cI, 10, .inl Ta)), (y6, .inl (cZ, 10, .inl La)), (y7, .inl (cI, 6, .inl Ga)), (y8, .inl (cZ, 6, .inl Ca)), (y9, .inl (cI, 6, .inl Na)), (ya, .inl (cZ, 6, .inl Ra)), (yb, .inl (cZ, 6, .inl K3))]) [0, 4, 5, 6, 7, 8, 9, 10, 11] rfl) (hD.sub (ws' := [(y0, .inr (4, [.int cd, .ref y1, .ref y2, .ref y3, .ref y4, .ref y5, .ref y6, .ref y7, .ref y8, .ref y9, .ref ya, .ref yb, .ref yc, .ref yd, .ref ye, .int md, .int o1, .int o2, .int mo, .ref yf, .ref yg, .ref yh])), (y4, .inl (cI, 10, .inl Fa)), (y5, .inl (cI, 10, .inl Ta)), (y6, .inl (cZ, 10, .inl La)), (y7, .inl (cI, 6, .inl Ga)), (y8, .inl (cZ, 6, .inl Ca)), (y9, .inl (cI, 6, .inl Na)), (ya, .inl (cZ, 6, .inl Ra)), (yb, .inl (cZ, 6, .inl K3))]) [0, 4, 5, 6, 7, 8, 9, 10, 11] (by decide) rfl) hz⟩ rfl rfl hl.1 rfl (lv_room (Nat.le_of_ble_eq_true rfl)) dX4_rightTrue_87 ⟨Nat.zero_le _, Nat.zero_le _⟩) hP hD hS hA [0, 4, 5, 6, 7, 8, 9, 10, 11] rfl (fun _ => rfl) (fun r K4 H locs hq4 hP hD hS => ?_)
            replace hP : va_P D vwCl [(y0, .inr (4, [.int cd, .ref y1, .ref y2, .ref y3, .ref y4, .ref y5, .ref y6, .ref y7, .ref y8, .ref y9, .ref ya, .ref yb, .ref yc, .ref yd, .ref ye, .int md, .int o1, .int o2, .int mo, .ref yf, .ref yg, .ref yh])), (y1, .inl (cZ, 72, .inl Sa)), (y2, .inl (cZ, 72, .inl Oa)), (y3, .inl (cI, 2, .inl My)), (y4, .inl (cI, 10, .inl Fa)), (y5, .inl (cI, 10, .inl Ta)), (y6, .inl (cZ, 10, .inl La)), (y7, .inl (cI, 6, .inl Ga)), (y8, .inl (cZ, 6, .inl Ca)), (y9, .inl (cI, 6, .inl Na)), (ya, .inl (cZ, 6, .inl Ra)), (yb, .inl (cZ, 6, .inl K4))] H := hP
            replace hD : va_D A [(y0, .inr (4, [.int cd, .ref y1, .ref y2, .ref y3, .ref y4, .ref y5, .ref y6, .ref y7, .ref y8, .ref y9, .ref ya, .ref yb, .ref yc, .ref yd, .ref ye, .int md, .int o1, .int o2, .int mo, .ref yf, .ref yg, .ref yh])), (y1, .inl (cZ, 72, .inl Sa)), (y2, .inl (cZ, 72, .inl Oa)), (y3, .inl (cI, 2, .inl My)), (y4, .inl (cI, 10, .inl Fa)), (y5, .inl (cI, 10, .inl Ta)), (y6, .inl (cZ, 10, .inl La)), (y7, .inl (cI, 6, .inl Ga)), (y8, .inl (cZ, 6, .inl Ca)), (y9, .inl (cI, 6, .inl Na)), (ya, .inl (cZ, 6, .inl Ra)), (yb, .inl (cZ, 6, .inl K4))] := hD
            rcases hq4 with ⟨rfl, l9, T4, h1, h2, h3, h4⟩ | ⟨rfl, hq4⟩
            · refine lv_if_ne hx hb dX4_rightTrue_90 rfl (fun hc9 => ?_) (fun hc9 => absurd hc9 (by decide))
              refine lv_iinc (v := nI (p3 + 1)) (k := 0) hx hb dX4_rightTrue_95 hl rfl (hw_inc _) (by decide) rfl (fun ls hl => ?_)
              replace hl : lv_has ls 2 [(1, .int (nI (p3 + 1))), (0, .ref y0)] := hl
              refine lv_goto hx hb dX4_rightTrue_98 rfl ?_
              refine ih3 (hS := hS) (hl := hl) (hP := hP) (hD := hD) (hK3 := h3) (hp3 := (hc_PR_more hN.1 hp3 hbt h1 h2 h4)) (hi3 := (by omega)) (hk3 := (by omega))
            · refine lv_if_ne hx hb dX4_rightTrue_90 rfl (fun hc9 => absurd rfl hc9) (fun hc9 => ?_)
              refine lv_iconst (v := nI 0) hx hb dX4_rightTrue_93 (by decide) ?_
              exact W.zret (v := nI 0) hx hb hr (by decide +kernel) (fun t9 ht9 hW9 => ⟨⟨_, K4, rfl, Or.inr ⟨rfl, fun h9 => hc_PR_more_no hN.1 (by omega) hbt hp3 hq4 h9.2⟩, by show va_P D vwCl [(y0, .inr (4, [.int cd, .ref y1, .ref y2, .ref y3, .ref y4, .ref y5, .ref y6, .ref y7, .ref y8, .ref y9, .ref ya, .ref yb, .ref yc, .ref yd, .ref ye, .int md, .int o1, .int o2, .int mo, .ref yf, .ref yg, .ref yh])), (y1, .inl (cZ, 72, .inl Sa)), (y2, .inl (cZ, 72, .inl Oa)), (y3, .inl (cI, 2, .inl My)), (y4, .inl (cI, 10, .inl Fa)), (y5, .inl (cI, 10, .inl Ta)), (y6, .inl (cZ, 10, .inl La)), (y7, .inl (cI, 6, .inl Ga)), (y8, .inl (cZ, 6, .inl Ca)), (y9, .inl (cI, 6, .inl Na)), (ya, .inl (cZ, 6, .inl Ra)), (yb, .inl (cZ, 6, .inl K4))] t9.heap; rw [ht9]; exact hP⟩, hS.F ht9⟩) hS.2.2 dX4_rightTrue_94
      | succ k2 ih2 =>
        refine lv_iload_n hx hb dX4_rightTrue_33 rfl (lv_at hl 0 rfl) ?_
        refine lv_iconst (v := nI 5) hx hb dX4_rightTrue_34 (by decide) ?_
        refine lv_aload_n hx hb dX4_rightTrue_35 rfl (lv_at hl 1 rfl) ?_
        refine va_get (D := D) (ci := 4) (v := .ref y3) (C := RX4) (T := TX4) (N := 22) hx hb htg hi_X4 hown hK hP 0 rfl rfl 3 (by decide) (htg _ hm_499) (fun _ h9 => h9) rfl dX4_rightTrue_36 ?_
        refine lv_iconst (v := nI 1) hx hb dX4_rightTrue_39 (by decide) ?_
        refine hw_iald hx hb hK hP 3 0 rfl rfl (j := 1) (by omega) (by first | decide | omega) (v := nI (MA 1)) ((hM.2.1 1 (by omega)).1) dX4_rightTrue_40 ?_
        refine hw_iadd hx hb dX4_rightTrue_41 ?_
        refine hw_icmp_ge hx hb (by omega) (by omega) dX4_rightTrue_42 rfl (fun hc2 => absurd hc2 (by omega)) (fun hc2 => ?_)
        refine lv_aload_n hx hb dX4_rightTrue_45 rfl (lv_at hl 1 rfl) ?_
        refine lv_iload_n hx hb dX4_rightTrue_46 rfl (lv_at hl 0 rfl) ?_
        refine hv_calli (w1 := fun u => [(y0, .inr (4, [.int cd, .ref y1, .ref y2, .ref y3, .ref y4, .ref y5, .ref y6, .ref y7, .ref y8, .ref y9, .ref ya, .ref yb, .ref yc, .ref yd, .ref ye, .int md, .int o1, .int o2, .int mo, .ref yf, .ref yg, .ref yh])), (y4, .inl (cI, 10, .inl Fa)), (y5, .inl (cI, 10, .inl Ta)), (y6, .inl (cZ, 10, .inl La)), (y7, .inl (cI, 6, .inl Ga)), (y8, .inl (cZ, 6, .inl Ca)), (y9, .inl (cI, 6, .inl Na)), (ya, .inl (cZ, 6, .inl Ra)), (yb, .inl (cZ, 6, .inl u))]) (va_runV (C := RX4) (b := y0) (As := [.int (nI (5 + i))]) (rest := []) ⟨hx, hb, hml, hown, htg⟩ (k_X4_takes l D cI cZ cJ _ Sa Oa My Fa Ta La SA OA MA FA TA LA v Ga Ca Na Ra K2 nx lg T2 (5 + i) cd md o1 o2 mo y0 y1 y2 y3 y4 y5 y6 y7 y8 y9 ya yb yc yd ye yf yg yh hM hG hv hN hK2 (by omega)) (cwV 1 htg (hg_V hm_629 hm_631 hs_yX4_takes hm_6 hm_632) rfl rfl rfl (by decide +kernel) ⟨Nat.le_of_ble_eq_true rfl, Nat.le_of_ble_eq_true rfl⟩) ⟨hp_M_blind, va_recv (q := (RX4, TX4, 22)) (q0 := 0) (ci := 4) hK hP rfl rfl, hp_M_pre (hP.sub (ws' := [(y0, .inr (4, [.int cd, .ref y1, .ref y2, .ref y3, .ref y4, .ref y5, .ref y6, .ref y7, .ref y8, .ref y9, .ref ya, .ref yb, .ref yc, .ref yd, .ref ye, .int md, .int o1, .int o2, .int mo, .ref yf, .ref yg, .ref yh])), (y4, .inl (cI, 10, .inl Fa)), (y5, .inl (cI, 10, .inl Ta)), (y6, .inl (cZ, 10, .inl La)), (y7, .inl (cI, 6, .inl Ga)), (y8, .inl (cZ, 6, .inl Ca)), (y9, .inl (cI, 6, .inl Na)), (ya, .inl (cZ, 6, .inl Ra)), (yb, .inl (cZ, 6, .inl K2))]) [0, 4, 5, 6, 7, 8, 9, 10, 11] rfl) (hD.sub (ws' := [(y0, .inr (4, [.int cd, .ref y1, .ref y2, .ref y3, .ref y4, .ref y5, .ref y6, .ref y7, .ref y8, .ref y9, .ref ya, .ref yb, .ref yc, .ref yd, .ref ye, .int md, .int o1, .int o2, .int mo, .ref yf, .ref yg, .ref yh])), (y4, .inl (cI, 10, .inl Fa)), (y5, .inl (cI, 10, .inl Ta)), (y6, .inl (cZ, 10, .inl La)), (y7, .inl (cI, 6, .inl Ga)), (y8, .inl (cZ, 6, .inl Ca)), (y9, .inl (cI, 6, .inl Na)), (ya, .inl (cZ, 6, .inl Ra)), (yb, .inl (cZ, 6, .inl K2))]) [0, 4, 5, 6, 7, 8, 9, 10, 11] (by decide) rfl) hz⟩ rfl rfl hl.1 rfl (lv_room (Nat.le_of_ble_eq_true rfl)) dX4_rightTrue_47 ⟨Nat.zero_le _, Nat.zero_le _⟩) hP hD hS hA [0, 4, 5, 6, 7, 8, 9, 10, 11] rfl (fun _ => rfl) (fun r K4 H locs hq4 hP hD hS => ?_)
        replace hP : va_P D vwCl [(y0, .inr (4, [.int cd, .ref y1, .ref y2, .ref y3, .ref y4, .ref y5, .ref y6, .ref y7, .ref y8, .ref y9, .ref ya, .ref yb, .ref yc, .ref yd, .ref ye, .int md, .int o1, .int o2, .int mo, .ref yf, .ref yg, .ref yh])), (y1, .inl (cZ, 72, .inl Sa)), (y2, .inl (cZ, 72, .inl Oa)), (y3, .inl (cI, 2, .inl My)), (y4, .inl (cI, 10, .inl Fa)), (y5, .inl (cI, 10, .inl Ta)), (y6, .inl (cZ, 10, .inl La)), (y7, .inl (cI, 6, .inl Ga)), (y8, .inl (cZ, 6, .inl Ca)), (y9, .inl (cI, 6, .inl Na)), (ya, .inl (cZ, 6, .inl Ra)), (yb, .inl (cZ, 6, .inl K4))] H := hP
        replace hD : va_D A [(y0, .inr (4, [.int cd, .ref y1, .ref y2, .ref y3, .ref y4, .ref y5, .ref y6, .ref y7, .ref y8, .ref y9, .ref ya, .ref yb, .ref yc, .ref yd, .ref ye, .int md, .int o1, .int o2, .int mo, .ref yf, .ref yg, .ref yh])), (y1, .inl (cZ, 72, .inl Sa)), (y2, .inl (cZ, 72, .inl Oa)), (y3, .inl (cI, 2, .inl My)), (y4, .inl (cI, 10, .inl Fa)), (y5, .inl (cI, 10, .inl Ta)), (y6, .inl (cZ, 10, .inl La)), (y7, .inl (cI, 6, .inl Ga)), (y8, .inl (cZ, 6, .inl Ca)), (y9, .inl (cI, 6, .inl Na)), (ya, .inl (cZ, 6, .inl Ra)), (yb, .inl (cZ, 6, .inl K4))] := hD
        rcases hq4 with ⟨rfl, l9, T4, h1, h2, h3, h4⟩ | ⟨rfl, hq4⟩
        · refine lv_if_ne hx hb dX4_rightTrue_50 rfl (fun hc9 => ?_) (fun hc9 => absurd hc9 (by decide))
          refine lv_iinc (v := nI (5 + i + 1)) (k := 0) hx hb dX4_rightTrue_55 hl rfl (hw_inc _) (by decide) rfl (fun ls hl => ?_)
          replace hl : lv_has ls 2 [(1, .int (nI (5 + i + 1))), (0, .ref y0)] := hl
          refine lv_goto hx hb dX4_rightTrue_58 rfl ?_
          refine ih2 (i := (i + 1)) (hS := hS) (hl := hl) (hP := hP) (hD := hD) (hK2 := h3) (hpr := (hc_PR_right hN.1 hpr h1 h2 h4)) (hi := (by omega)) (hk2 := (by omega))
        · refine lv_if_ne hx hb dX4_rightTrue_50 rfl (fun hc9 => absurd rfl hc9) (fun hc9 => ?_)
          refine lv_iconst (v := nI 0) hx hb dX4_rightTrue_53 (by decide) ?_
          exact W.zret (v := nI 0) hx hb hr (by decide +kernel) (fun t9 ht9 hW9 => ⟨⟨_, K4, rfl, Or.inr ⟨rfl, fun h9 => hc_PR_right_no hN.1 (by omega) hpr hq4 h9.2⟩, by show va_P D vwCl [(y0, .inr (4, [.int cd, .ref y1, .ref y2, .ref y3, .ref y4, .ref y5, .ref y6, .ref y7, .ref y8, .ref y9, .ref ya, .ref yb, .ref yc, .ref yd, .ref ye, .int md, .int o1, .int o2, .int mo, .ref yf, .ref yg, .ref yh])), (y1, .inl (cZ, 72, .inl Sa)), (y2, .inl (cZ, 72, .inl Oa)), (y3, .inl (cI, 2, .inl My)), (y4, .inl (cI, 10, .inl Fa)), (y5, .inl (cI, 10, .inl Ta)), (y6, .inl (cZ, 10, .inl La)), (y7, .inl (cI, 6, .inl Ga)), (y8, .inl (cZ, 6, .inl Ca)), (y9, .inl (cI, 6, .inl Na)), (ya, .inl (cZ, 6, .inl Ra)), (yb, .inl (cZ, 6, .inl K4))] t9.heap; rw [ht9]; exact hP⟩, hS.F ht9⟩) hS.2.2 dX4_rightTrue_54
    | succ k ih =>
      refine lv_iload_n hx hb dX4_rightTrue_12 rfl (lv_at hl 0 rfl) ?_
      refine lv_bipush (v := nI 6) hx hb dX4_rightTrue_13 (by decide) ?_
      refine hw_icmp_ge hx hb (by omega) (by omega) dX4_rightTrue_15 rfl (fun hc => absurd hc (by omega)) (fun hc => ?_)
      refine lv_aload_n hx hb dX4_rightTrue_18 rfl (lv_at hl 1 rfl) ?_
      refine va_get (D := D) (ci := 4) (v := .ref yb) (C := RX4) (T := TX4) (N := 22) hx hb htg hi_X4 hown hK hP 0 rfl rfl 11 (by decide) (htg _ hm_507) (fun _ h9 => h9) rfl dX4_rightTrue_19 ?_
      refine lv_iload_n hx hb dX4_rightTrue_22 rfl (lv_at hl 0 rfl) ?_
      refine lv_iconst (v := nI 0) hx hb dX4_rightTrue_23 (by decide) ?_
      refine hw_zast hx hb hK hP hD hS 11 1 rfl rfl (j := t) (by omega) (by first | decide | omega) dX4_rightTrue_24 (fun H locs hP hD hS => ?_)
      rw [hw_nar0] at hP hD
      replace hP : va_P D vwCl [(y0, .inr (4, [.int cd, .ref y1, .ref y2, .ref y3, .ref y4, .ref y5, .ref y6, .ref y7, .ref y8, .ref y9, .ref ya, .ref yb, .ref yc, .ref yd, .ref ye, .int md, .int o1, .int o2, .int mo, .ref yf, .ref yg, .ref yh])), (y1, .inl (cZ, 72, .inl Sa)), (y2, .inl (cZ, 72, .inl Oa)), (y3, .inl (cI, 2, .inl My)), (y4, .inl (cI, 10, .inl Fa)), (y5, .inl (cI, 10, .inl Ta)), (y6, .inl (cZ, 10, .inl La)), (y7, .inl (cI, 6, .inl Ga)), (y8, .inl (cZ, 6, .inl Ca)), (y9, .inl (cI, 6, .inl Na)), (ya, .inl (cZ, 6, .inl Ra)), (yb, .inl (cZ, 6, .inl (upd K1 t (hc_b false))))] H := hP
      replace hD : va_D A [(y0, .inr (4, [.int cd, .ref y1, .ref y2, .ref y3, .ref y4, .ref y5, .ref y6, .ref y7, .ref y8, .ref y9, .ref ya, .ref yb, .ref yc, .ref yd, .ref ye, .int md, .int o1, .int o2, .int mo, .ref yf, .ref yg, .ref yh])), (y1, .inl (cZ, 72, .inl Sa)), (y2, .inl (cZ, 72, .inl Oa)), (y3, .inl (cI, 2, .inl My)), (y4, .inl (cI, 10, .inl Fa)), (y5, .inl (cI, 10, .inl Ta)), (y6, .inl (cZ, 10, .inl La)), (y7, .inl (cI, 6, .inl Ga)), (y8, .inl (cZ, 6, .inl Ca)), (y9, .inl (cI, 6, .inl Na)), (ya, .inl (cZ, 6, .inl Ra)), (yb, .inl (cZ, 6, .inl (upd K1 t (hc_b false))))] := hD
      refine lv_iinc (v := nI (t + 1)) (k := 0) hx hb dX4_rightTrue_25 hl rfl (hw_inc _) (by decide) rfl (fun ls hl => ?_)
      replace hl : lv_has ls 2 [(1, .int (nI (t + 1))), (0, .ref y0)] := hl
      refine lv_goto hx hb dX4_rightTrue_28 rfl ?_
      refine ih (hS := hS) (hl := hl) (hP := hP) (hD := hD) (hK1 := (fun j hj => ?_)) (ht6 := (by omega)) (hk := (by omega))
      unfold upd
      by_cases hjt : j = t
      · rw [if_pos hjt]
      · rw [if_neg hjt]; exact hK1 j (by omega)
  · refine lv_if_ne hx hb dX4_rightTrue_5 rfl (fun hc => absurd rfl hc) (fun hc => ?_)
    refine lv_iconst (v := nI 0) hx hb dX4_rightTrue_8 (by decide) ?_
    exact W.zret (v := nI 0) hx hb hr (by decide +kernel) (fun t9 ht9 hW9 => ⟨⟨_, Ka, rfl, Or.inr ⟨rfl, fun h9 => hq h9.1⟩, by show va_P D vwCl [(y0, .inr (4, [.int cd, .ref y1, .ref y2, .ref y3, .ref y4, .ref y5, .ref y6, .ref y7, .ref y8, .ref y9, .ref ya, .ref yb, .ref yc, .ref yd, .ref ye, .int md, .int o1, .int o2, .int mo, .ref yf, .ref yg, .ref yh])), (y1, .inl (cZ, 72, .inl Sa)), (y2, .inl (cZ, 72, .inl Oa)), (y3, .inl (cI, 2, .inl My)), (y4, .inl (cI, 10, .inl Fa)), (y5, .inl (cI, 10, .inl Ta)), (y6, .inl (cZ, 10, .inl La)), (y7, .inl (cI, 6, .inl Ga)), (y8, .inl (cZ, 6, .inl Ca)), (y9, .inl (cI, 6, .inl Na)), (ya, .inl (cZ, 6, .inl Ra)), (yb, .inl (cZ, 6, .inl Ka))] t9.heap; rw [ht9]; exact hP⟩, hS.F ht9⟩) hS.2.2 dX4_rightTrue_9

set_option maxHeartbeats 4000000 in
set_option maxRecDepth 100000 in
/-- what is looked for -/
theorem k_X4_isLookedFor (l : Launch) (D : va_G) (cI cZ cJ : ClassId) (sz : Nat) (Sa Oa My Fa Ta La : Nat → Int32) (SA OA : Nat → Bool) (MA FA TA : Nat → Nat) (LA : Nat → Bool) (v : Nat → Nat) (Ga : Nat → Int32) (Ca Na Ra Ka : Nat → Int32) (nx : Nat → Option Nat) (lg : Nat → Bool) (dm oa ob : Nat) (cd mo : Int32) (y0 y1 y2 y3 y4 y5 y6 y7 y8 y9 ya yb yc yd ye yf yg yh : Nat) (hM : hr_m Sa Oa My Fa Ta La SA OA MA FA TA LA) (hG : ∀ j, j < 6 → Ga j = nI (v j)) (hv : ∀ j, j < 6 → v j < 6) (hN : hk_N Ca Na Ra nx lg) (hdm : dm ≤ 4) (hoa : oa < 6) (hob : ob < 6) : Met l yX4_isLookedFor (Cond.code yX4_isLookedFor cX4_isLookedFor 1 (some .boolean) :: hwG) { frames := 2, cells := 0, slots := 0, locals := 45 } (hp_M [.ref y0] D cI cZ cJ [(y0, .inr (4, [.int cd, .ref y1, .ref y2, .ref y3, .ref y4, .ref y5, .ref y6, .ref y7, .ref y8, .ref y9, .ref ya, .ref yb, .ref yc, .ref yd, .ref ye, .int (nI dm), .int (nI oa), .int (nI ob), .int mo, .ref yf, .ref yg, .ref yh])), (y1, .inl (cZ, 72, .inl Sa)), (y2, .inl (cZ, 72, .inl Oa)), (y3, .inl (cI, 2, .inl My)), (y4, .inl (cI, 10, .inl Fa)), (y5, .inl (cI, 10, .inl Ta)), (y6, .inl (cZ, 10, .inl La)), (y7, .inl (cI, 6, .inl Ga)), (y8, .inl (cZ, 6, .inl Ca)), (y9, .inl (cI, 6, .inl Na)), (ya, .inl (cZ, 6, .inl Ra)), (yb, .inl (cZ, 6, .inl Ka))] sz) (va_Qi (S := Nat → Int32) (fun r u => hc_r r ((hk_L dm v oa ob (hk_R v SA OA MA FA TA LA mo)) nx lg)) (fun u t => va_P D vwCl ([(y0, .inr (4, [.int cd, .ref y1, .ref y2, .ref y3, .ref y4, .ref y5, .ref y6, .ref y7, .ref y8, .ref y9, .ref ya, .ref yb, .ref yc, .ref yd, .ref ye, .int (nI dm), .int (nI oa), .int (nI ob), .int mo, .ref yf, .ref yg, .ref yh])), (y1, .inl (cZ, 72, .inl Sa)), (y2, .inl (cZ, 72, .inl Oa)), (y3, .inl (cI, 2, .inl My)), (y4, .inl (cI, 10, .inl Fa)), (y5, .inl (cI, 10, .inl Ta)), (y6, .inl (cZ, 10, .inl La)), (y7, .inl (cI, 6, .inl Ga)), (y8, .inl (cZ, 6, .inl Ca)), (y9, .inl (cI, 6, .inl Na)), (ya, .inl (cZ, 6, .inl Ra)), (yb, .inl (cZ, 6, .inl u))]) t.heap) (va_A [(y0, .inr (4, [.int cd, .ref y1, .ref y2, .ref y3, .ref y4, .ref y5, .ref y6, .ref y7, .ref y8, .ref y9, .ref ya, .ref yb, .ref yc, .ref yd, .ref ye, .int (nI dm), .int (nI oa), .int (nI ob), .int mo, .ref yf, .ref yg, .ref yh])), (y1, .inl (cZ, 72, .inl Sa)), (y2, .inl (cZ, 72, .inl Oa)), (y3, .inl (cI, 2, .inl My)), (y4, .inl (cI, 10, .inl Fa)), (y5, .inl (cI, 10, .inl Ta)), (y6, .inl (cZ, 10, .inl La)), (y7, .inl (cI, 6, .inl Ga)), (y8, .inl (cZ, 6, .inl Ca)), (y9, .inl (cI, 6, .inl Na)), (ya, .inl (cZ, 6, .inl Ra)), (yb, .inl (cZ, 6, .inl Ka))] sz)) 0 0 (va_A [(y0, .inr (4, [.int cd, .ref y1, .ref y2, .ref y3, .ref y4, .ref y5, .ref y6, .ref y7, .ref y8, .ref y9, .ref ya, .ref yb, .ref yc, .ref yd, .ref ye, .int (nI dm), .int (nI oa), .int (nI ob), .int mo, .ref yf, .ref yg, .ref yh])), (y1, .inl (cZ, 72, .inl Sa)), (y2, .inl (cZ, 72, .inl Oa)), (y3, .inl (cI, 2, .inl My)), (y4, .inl (cI, 10, .inl Fa)), (y5, .inl (cI, 10, .inl Ta)), (y6, .inl (cZ, 10, .inl La)), (y7, .inl (cI, 6, .inl Ga)), (y8, .inl (cZ, 6, .inl Ca)), (y9, .inl (cI, 6, .inl Na)), (ya, .inl (cZ, 6, .inl Ra)), (yb, .inl (cZ, 6, .inl Ka))] sz) := by
  refine Met.ofW (cc := cX4_isLookedFor) (maxL := 1) (ret := (some .boolean)) (by decide) rfl ?_
  intro p e s m args below meth c s₁ B hml hv
  obtain ⟨rfl, hsz, hP, hz, hD0⟩ := hv
  have hx := B.exec
  have hb := B.bytes
  have hr := B.returns
  have hts := atoms_spec (ws := (Cond.code yX4_isLookedFor cX4_isLookedFor 1 (some .boolean) :: hwG)) B.pre
  have htg := fun w h => hts w (List.mem_cons_of_mem _ h)
  have hown : s.vm.findClass RX4 = some m.cls := findClass_of_methodNamed B.named
  have hlocks := B.notSynchronized
  have hK := hz.1
  subst hsz
  have hD := hD0.self (sz := s.heap.size)
  generalize hAe : va_A [(y0, .inr (4, [.int cd, .ref y1, .ref y2, .ref y3, .ref y4, .ref y5, .ref y6, .ref y7, .ref y8, .ref y9, .ref ya, .ref yb, .ref yc, .ref yd, .ref ye, .int (nI dm), .int (nI oa), .int (nI ob), .int mo, .ref yf, .ref yg, .ref yh])), (y1, .inl (cZ, 72, .inl Sa)), (y2, .inl (cZ, 72, .inl Oa)), (y3, .inl (cI, 2, .inl My)), (y4, .inl (cI, 10, .inl Fa)), (y5, .inl (cI, 10, .inl Ta)), (y6, .inl (cZ, 10, .inl La)), (y7, .inl (cI, 6, .inl Ga)), (y8, .inl (cZ, 6, .inl Ca)), (y9, .inl (cI, 6, .inl Na)), (ya, .inl (cZ, 6, .inl Ra)), (yb, .inl (cZ, 6, .inl Ka))] s.heap.size = A at hD ⊢
  have hA : ∀ q : Nat, s.heap.size ≤ q → A q := fun q h => by rw [← hAe]; exact Or.inr h
  have hS : va_S A s.heap s.heap [] := va_S.rf
  have hl := lv_entry ([.ref y0]) (n := 1) (Nat.le_of_ble_eq_true rfl)
  rw [lg_entry_eq]
  generalize (lg_sl ([.ref y0]) ++ List.replicate (1 - (lg_sl ([.ref y0])).length) Slot.unset).toArray = ls at hl ⊢
  replace hl : lv_has ls 1 [(0, .ref y0)] := hl
  replace hP : va_P D vwCl [(y0, .inr (4, [.int cd, .ref y1, .ref y2, .ref y3, .ref y4, .ref y5, .ref y6, .ref y7, .ref y8, .ref y9, .ref ya, .ref yb, .ref yc, .ref yd, .ref ye, .int (nI dm), .int (nI oa), .int (nI ob), .int mo, .ref yf, .ref yg, .ref yh])), (y1, .inl (cZ, 72, .inl Sa)), (y2, .inl (cZ, 72, .inl Oa)), (y3, .inl (cI, 2, .inl My)), (y4, .inl (cI, 10, .inl Fa)), (y5, .inl (cI, 10, .inl Ta)), (y6, .inl (cZ, 10, .inl La)), (y7, .inl (cI, 6, .inl Ga)), (y8, .inl (cZ, 6, .inl Ca)), (y9, .inl (cI, 6, .inl Na)), (ya, .inl (cZ, 6, .inl Ra)), (yb, .inl (cZ, 6, .inl Ka))] s.heap := hP
  have hva := hv oa hoa
  have hvb := hv ob hob
  refine lv_aload_n hx hb dX4_isLookedFor_0 rfl (lv_at hl 0 rfl) ?_
  refine va_get (D := D) (ci := 4) (v := .int (nI dm)) (C := RX4) (T := TX4) (N := 22) hx hb htg hi_X4 hown hK hP 0 rfl rfl 15 (by decide) (htg _ hm_511) (fun _ h9 => h9) rfl dX4_isLookedFor_1 ?_
  rcases (by omega : dm = 0 ∨ dm = 1 ∨ dm = 2 ∨ dm = 3 ∨ dm = 4) with rfl | rfl | rfl | rfl | rfl
  · refine lv_tableOut hx hb dX4_isLookedFor_4 (by decide) (tgt := 126) rfl ?_
    refine lv_iconst (v := nI 1) hx hb dX4_isLookedFor_126 (by decide) ?_
    exact W.zret (v := nI 1) hx hb hr (by decide +kernel) (fun t9 ht9 hW9 => ⟨⟨_, Ka, rfl, Or.inl ⟨rfl, trivial⟩, by show va_P D vwCl [(y0, .inr (4, [.int cd, .ref y1, .ref y2, .ref y3, .ref y4, .ref y5, .ref y6, .ref y7, .ref y8, .ref y9, .ref ya, .ref yb, .ref yc, .ref yd, .ref ye, .int (nI 0), .int (nI oa), .int (nI ob), .int mo, .ref yf, .ref yg, .ref yh])), (y1, .inl (cZ, 72, .inl Sa)), (y2, .inl (cZ, 72, .inl Oa)), (y3, .inl (cI, 2, .inl My)), (y4, .inl (cI, 10, .inl Fa)), (y5, .inl (cI, 10, .inl Ta)), (y6, .inl (cZ, 10, .inl La)), (y7, .inl (cI, 6, .inl Ga)), (y8, .inl (cZ, 6, .inl Ca)), (y9, .inl (cI, 6, .inl Na)), (ya, .inl (cZ, 6, .inl Ra)), (yb, .inl (cZ, 6, .inl Ka))] t9.heap; rw [ht9]; exact hP⟩, hS.F ht9⟩) hS.2.2 dX4_isLookedFor_127
  · refine lv_tableIn hx hb dX4_isLookedFor_4 (by decide) (by decide) (off := 32) (by decide) (tgt := 36) rfl ?_
    refine lv_aload_n hx hb dX4_isLookedFor_36 rfl (lv_at hl 0 rfl) ?_
    refine hv_calli (w1 := fun u => [(y0, .inr (4, [.int cd, .ref y1, .ref y2, .ref y3, .ref y4, .ref y5, .ref y6, .ref y7, .ref y8, .ref y9, .ref ya, .ref yb, .ref yc, .ref yd, .ref ye, .int (nI 1), .int (nI oa), .int (nI ob), .int mo, .ref yf, .ref yg, .ref yh])), (y1, .inl (cZ, 72, .inl Sa)), (y2, .inl (cZ, 72, .inl Oa)), (y3, .inl (cI, 2, .inl My)), (y4, .inl (cI, 10, .inl Fa)), (y5, .inl (cI, 10, .inl Ta)), (y6, .inl (cZ, 10, .inl La)), (y7, .inl (cI, 6, .inl Ga)), (y8, .inl (cZ, 6, .inl Ca)), (y9, .inl (cI, 6, .inl Na)), (ya, .inl (cZ, 6, .inl Ra)), (yb, .inl (cZ, 6, .inl u))]) (va_runV (C := RX4) (b := y0) (As := []) (rest := []) ⟨hx, hb, hml, hown, htg⟩ (k_X4_rightTrue l D cI cZ cJ _ Sa Oa My Fa Ta La SA OA MA FA TA LA v Ga Ca Na Ra Ka nx lg cd (nI 1) (nI oa) (nI ob) mo y0 y1 y2 y3 y4 y5 y6 y7 y8 y9 ya yb yc yd ye yf yg yh hM hG hv hN) (cwV 0 htg (hg_V hm_625 hm_627 hs_yX4_rightTrue hm_6 hm_628) rfl rfl rfl (by decide +kernel) ⟨Nat.le_of_ble_eq_true rfl, Nat.le_of_ble_eq_true rfl⟩) ⟨hp_M_blind, va_recv (q := (RX4, TX4, 22)) (q0 := 0) (ci := 4) hK hP rfl rfl, hp_M_pre (hP.sub (ws' := [(y0, .inr (4, [.int cd, .ref y1, .ref y2, .ref y3, .ref y4, .ref y5, .ref y6, .ref y7, .ref y8, .ref y9, .ref ya, .ref yb, .ref yc, .ref yd, .ref ye, .int (nI 1), .int (nI oa), .int (nI ob), .int mo, .ref yf, .ref yg, .ref yh])), (y1, .inl (cZ, 72, .inl Sa)), (y2, .inl (cZ, 72, .inl Oa)), (y3, .inl (cI, 2, .inl My)), (y4, .inl (cI, 10, .inl Fa)), (y5, .inl (cI, 10, .inl Ta)), (y6, .inl (cZ, 10, .inl La)), (y7, .inl (cI, 6, .inl Ga)), (y8, .inl (cZ, 6, .inl Ca)), (y9, .inl (cI, 6, .inl Na)), (ya, .inl (cZ, 6, .inl Ra)), (yb, .inl (cZ, 6, .inl Ka))]) [0, 1, 2, 3, 4, 5, 6, 7, 8, 9, 10, 11] rfl) (hD.sub (ws' := [(y0, .inr (4, [.int cd, .ref y1, .ref y2, .ref y3, .ref y4, .ref y5, .ref y6, .ref y7, .ref y8, .ref y9, .ref ya, .ref yb, .ref yc, .ref yd, .ref ye, .int (nI 1), .int (nI oa), .int (nI ob), .int mo, .ref yf, .ref yg, .ref yh])), (y1, .inl (cZ, 72, .inl Sa)), (y2, .inl (cZ, 72, .inl Oa)), (y3, .inl (cI, 2, .inl My)), (y4, .inl (cI, 10, .inl Fa)), (y5, .inl (cI, 10, .inl Ta)), (y6, .inl (cZ, 10, .inl La)), (y7, .inl (cI, 6, .inl Ga)), (y8, .inl (cZ, 6, .inl Ca)), (y9, .inl (cI, 6, .inl Na)), (ya, .inl (cZ, 6, .inl Ra)), (yb, .inl (cZ, 6, .inl Ka))]) [0, 1, 2, 3, 4, 5, 6, 7, 8, 9, 10, 11] (by decide) rfl) hz⟩ rfl rfl hl.1 rfl (lv_room (Nat.le_of_ble_eq_true rfl)) dX4_isLookedFor_37 ⟨Nat.zero_le _, Nat.zero_le _⟩) hP hD hS hA [0, 1, 2, 3, 4, 5, 6, 7, 8, 9, 10, 11] rfl (fun _ => rfl) (fun r K4 H locs hq4 hP hD hS => ?_)
    replace hP : va_P D vwCl [(y0, .inr (4, [.int cd, .ref y1, .ref y2, .ref y3, .ref y4, .ref y5, .ref y6, .ref y7, .ref y8, .ref y9, .ref ya, .ref yb, .ref yc, .ref yd, .ref ye, .int (nI 1), .int (nI oa), .int (nI ob), .int mo, .ref yf, .ref yg, .ref yh])), (y1, .inl (cZ, 72, .inl Sa)), (y2, .inl (cZ, 72, .inl Oa)), (y3, .inl (cI, 2, .inl My)), (y4, .inl (cI, 10, .inl Fa)), (y5, .inl (cI, 10, .inl Ta)), (y6, .inl (cZ, 10, .inl La)), (y7, .inl (cI, 6, .inl Ga)), (y8, .inl (cZ, 6, .inl Ca)), (y9, .inl (cI, 6, .inl Na)), (ya, .inl (cZ, 6, .inl Ra)), (yb, .inl (cZ, 6, .inl K4))] H := hP
    replace hD : va_D A [(y0, .inr (4, [.int cd, .ref y1, .ref y2, .ref y3, .ref y4, .ref y5, .ref y6, .ref y7, .ref y8, .ref y9, .ref ya, .ref yb, .ref yc, .ref yd, .ref ye, .int (nI 1), .int (nI oa), .int (nI ob), .int mo, .ref yf, .ref yg, .ref yh])), (y1, .inl (cZ, 72, .inl Sa)), (y2, .inl (cZ, 72, .inl Oa)), (y3, .inl (cI, 2, .inl My)), (y4, .inl (cI, 10, .inl Fa)), (y5, .inl (cI, 10, .inl Ta)), (y6, .inl (cZ, 10, .inl La)), (y7, .inl (cI, 6, .inl Ga)), (y8, .inl (cZ, 6, .inl Ca)), (y9, .inl (cI, 6, .inl Na)), (ya, .inl (cZ, 6, .inl Ra)), (yb, .inl (cZ, 6, .inl K4))] := hD
    rcases hq4 with ⟨rfl, hq4⟩ | ⟨rfl, hq4⟩
    · refine lv_if_ne hx hb dX4_isLookedFor_40 rfl (fun hc9 => ?_) (fun hc9 => absurd hc9 (by decide))
      refine lv_iconst (v := nI 0) hx hb dX4_isLookedFor_47 (by decide) ?_
      exact W.zret (v := nI 0) hx hb hr (by decide +kernel) (fun t9 ht9 hW9 => ⟨⟨_, K4, rfl, Or.inr ⟨rfl, fun h9 => h9 hq4⟩, by show va_P D vwCl [(y0, .inr (4, [.int cd, .ref y1, .ref y2, .ref y3, .ref y4, .ref y5, .ref y6, .ref y7, .ref y8, .ref y9, .ref ya, .ref yb, .ref yc, .ref yd, .ref ye, .int (nI 1), .int (nI oa), .int (nI ob), .int mo, .ref yf, .ref yg, .ref yh])), (y1, .inl (cZ, 72, .inl Sa)), (y2, .inl (cZ, 72, .inl Oa)), (y3, .inl (cI, 2, .inl My)), (y4, .inl (cI, 10, .inl Fa)), (y5, .inl (cI, 10, .inl Ta)), (y6, .inl (cZ, 10, .inl La)), (y7, .inl (cI, 6, .inl Ga)), (y8, .inl (cZ, 6, .inl Ca)), (y9, .inl (cI, 6, .inl Na)), (ya, .inl (cZ, 6, .inl Ra)), (yb, .inl (cZ, 6, .inl K4))] t9.heap; rw [ht9]; exact hP⟩, hS.F ht9⟩) hS.2.2 dX4_isLookedFor_48
    · refine lv_if_ne hx hb dX4_isLookedFor_40 rfl (fun hc9 => absurd rfl hc9) (fun hc9 => ?_)
      refine lv_iconst (v := nI 1) hx hb dX4_isLookedFor_43 (by decide) ?_
      refine lv_goto hx hb dX4_isLookedFor_44 rfl ?_
      exact W.zret (v := nI 1) hx hb hr (by decide +kernel) (fun t9 ht9 hW9 => ⟨⟨_, K4, rfl, Or.inl ⟨rfl, hq4⟩, by show va_P D vwCl [(y0, .inr (4, [.int cd, .ref y1, .ref y2, .ref y3, .ref y4, .ref y5, .ref y6, .ref y7, .ref y8, .ref y9, .ref ya, .ref yb, .ref yc, .ref yd, .ref ye, .int (nI 1), .int (nI oa), .int (nI ob), .int mo, .ref yf, .ref yg, .ref yh])), (y1, .inl (cZ, 72, .inl Sa)), (y2, .inl (cZ, 72, .inl Oa)), (y3, .inl (cI, 2, .inl My)), (y4, .inl (cI, 10, .inl Fa)), (y5, .inl (cI, 10, .inl Ta)), (y6, .inl (cZ, 10, .inl La)), (y7, .inl (cI, 6, .inl Ga)), (y8, .inl (cZ, 6, .inl Ca)), (y9, .inl (cI, 6, .inl Na)), (ya, .inl (cZ, 6, .inl Ra)), (yb, .inl (cZ, 6, .inl K4))] t9.heap; rw [ht9]; exact hP⟩, hS.F ht9⟩) hS.2.2 dX4_isLookedFor_48
  · refine lv_tableIn hx hb dX4_isLookedFor_4 (by decide) (by decide) (off := 45) (by decide) (tgt := 49) rfl ?_
    refine lv_aload_n hx hb dX4_isLookedFor_49 rfl (lv_at hl 0 rfl) ?_
    refine va_get (D := D) (ci := 4) (v := .ref y7) (C := RX4) (T := TX4) (N := 22) hx hb htg hi_X4 hown hK hP 0 rfl rfl 7 (by decide) (htg _ hm_503) (fun _ h9 => h9) rfl dX4_isLookedFor_50 ?_
    refine lv_aload_n hx hb dX4_isLookedFor_53 rfl (lv_at hl 0 rfl) ?_
    refine va_get (D := D) (ci := 4) (v := .int (nI oa)) (C := RX4) (T := TX4) (N := 22) hx hb htg hi_X4 hown hK hP 0 rfl rfl 16 (by decide) (htg _ hm_512) (fun _ h9 => h9) rfl dX4_isLookedFor_54 ?_
    refine hw_iald hx hb hK hP 7 0 rfl rfl (j := oa) (by omega) (by first | decide | omega) (v := nI (v oa)) (hG oa (by first | omega | assumption)) dX4_isLookedFor_57 ?_
    refine lv_aload_n hx hb dX4_isLookedFor_58 rfl (lv_at hl 0 rfl) ?_
    refine va_get (D := D) (ci := 4) (v := .ref y7) (C := RX4) (T := TX4) (N := 22) hx hb htg hi_X4 hown hK hP 0 rfl rfl 7 (by decide) (htg _ hm_503) (fun _ h9 => h9) rfl dX4_isLookedFor_59 ?_
    refine lv_aload_n hx hb dX4_isLookedFor_62 rfl (lv_at hl 0 rfl) ?_
    refine va_get (D := D) (ci := 4) (v := .int (nI ob)) (C := RX4) (T := TX4) (N := 22) hx hb htg hi_X4 hown hK hP 0 rfl rfl 17 (by decide) (htg _ hm_513) (fun _ h9 => h9) rfl dX4_isLookedFor_63 ?_
    refine hw_iald hx hb hK hP 7 0 rfl rfl (j := ob) (by omega) (by first | decide | omega) (v := nI (v ob)) (hG ob (by first | omega | assumption)) dX4_isLookedFor_66 ?_
    refine hw_icmp_eq hx hb (by omega) (by omega) dX4_isLookedFor_67 rfl (fun he => ?_) (fun he => ?_)
    · refine lv_iconst (v := nI 0) hx hb dX4_isLookedFor_74 (by decide) ?_
      exact W.zret (v := nI 0) hx hb hr (by decide +kernel) (fun t9 ht9 hW9 => ⟨⟨_, Ka, rfl, Or.inr ⟨rfl, fun h9 => h9 he⟩, by show va_P D vwCl [(y0, .inr (4, [.int cd, .ref y1, .ref y2, .ref y3, .ref y4, .ref y5, .ref y6, .ref y7, .ref y8, .ref y9, .ref ya, .ref yb, .ref yc, .ref yd, .ref ye, .int (nI 2), .int (nI oa), .int (nI ob), .int mo, .ref yf, .ref yg, .ref yh])), (y1, .inl (cZ, 72, .inl Sa)), (y2, .inl (cZ, 72, .inl Oa)), (y3, .inl (cI, 2, .inl My)), (y4, .inl (cI, 10, .inl Fa)), (y5, .inl (cI, 10, .inl Ta)), (y6, .inl (cZ, 10, .inl La)), (y7, .inl (cI, 6, .inl Ga)), (y8, .inl (cZ, 6, .inl Ca)), (y9, .inl (cI, 6, .inl Na)), (ya, .inl (cZ, 6, .inl Ra)), (yb, .inl (cZ, 6, .inl Ka))] t9.heap; rw [ht9]; exact hP⟩, hS.F ht9⟩) hS.2.2 dX4_isLookedFor_75
    · refine lv_iconst (v := nI 1) hx hb dX4_isLookedFor_70 (by decide) ?_
      refine lv_goto hx hb dX4_isLookedFor_71 rfl ?_
      exact W.zret (v := nI 1) hx hb hr (by decide +kernel) (fun t9 ht9 hW9 => ⟨⟨_, Ka, rfl, Or.inl ⟨rfl, he⟩, by show va_P D vwCl [(y0, .inr (4, [.int cd, .ref y1, .ref y2, .ref y3, .ref y4, .ref y5, .ref y6, .ref y7, .ref y8, .ref y9, .ref ya, .ref yb, .ref yc, .ref yd, .ref ye, .int (nI 2), .int (nI oa), .int (nI ob), .int mo, .ref yf, .ref yg, .ref yh])), (y1, .inl (cZ, 72, .inl Sa)), (y2, .inl (cZ, 72, .inl Oa)), (y3, .inl (cI, 2, .inl My)), (y4, .inl (cI, 10, .inl Fa)), (y5, .inl (cI, 10, .inl Ta)), (y6, .inl (cZ, 10, .inl La)), (y7, .inl (cI, 6, .inl Ga)), (y8, .inl (cZ, 6, .inl Ca)), (y9, .inl (cI, 6, .inl Na)), (ya, .inl (cZ, 6, .inl Ra)), (yb, .inl (cZ, 6, .inl Ka))] t9.heap; rw [ht9]; exact hP⟩, hS.F ht9⟩) hS.2.2 dX4_isLookedFor_75
  · refine lv_tableIn hx hb dX4_isLookedFor_4 (by decide) (by decide) (off := 72) (by decide) (tgt := 76) rfl ?_
    refine lv_aload_n hx hb dX4_isLookedFor_76 rfl (lv_at hl 0 rfl) ?_
    refine va_get (D := D) (ci := 4) (v := .ref y7) (C := RX4) (T := TX4) (N := 22) hx hb htg hi_X4 hown hK hP 0 rfl rfl 7 (by decide) (htg _ hm_503) (fun _ h9 => h9) rfl dX4_isLookedFor_77 ?_
    refine lv_aload_n hx hb dX4_isLookedFor_80 rfl (lv_at hl 0 rfl) ?_
    refine va_get (D := D) (ci := 4) (v := .int (nI oa)) (C := RX4) (T := TX4) (N := 22) hx hb htg hi_X4 hown hK hP 0 rfl rfl 16 (by decide) (htg _ hm_512) (fun _ h9 => h9) rfl dX4_isLookedFor_81 ?_
    refine hw_iald hx hb hK hP 7 0 rfl rfl (j := oa) (by omega) (by first | decide | omega) (v := nI (v oa)) (hG oa (by first | omega | assumption)) dX4_isLookedFor_84 ?_
    refine lv_aload_n hx hb dX4_isLookedFor_85 rfl (lv_at hl 0 rfl) ?_
    refine va_get (D := D) (ci := 4) (v := .ref y7) (C := RX4) (T := TX4) (N := 22) hx hb htg hi_X4 hown hK hP 0 rfl rfl 7 (by decide) (htg _ hm_503) (fun _ h9 => h9) rfl dX4_isLookedFor_86 ?_
    refine lv_aload_n hx hb dX4_isLookedFor_89 rfl (lv_at hl 0 rfl) ?_
    refine va_get (D := D) (ci := 4) (v := .int (nI ob)) (C := RX4) (T := TX4) (N := 22) hx hb htg hi_X4 hown hK hP 0 rfl rfl 17 (by decide) (htg _ hm_513) (fun _ h9 => h9) rfl dX4_isLookedFor_90 ?_
    refine hw_iald hx hb hK hP 7 0 rfl rfl (j := ob) (by omega) (by first | decide | omega) (v := nI (v ob)) (hG ob (by first | omega | assumption)) dX4_isLookedFor_93 ?_
    refine hw_icmp_ne hx hb (by omega) (by omega) dX4_isLookedFor_94 rfl (fun he => ?_) (fun he => ?_)
    · refine lv_iconst (v := nI 0) hx hb dX4_isLookedFor_101 (by decide) ?_
      exact W.zret (v := nI 0) hx hb hr (by decide +kernel) (fun t9 ht9 hW9 => ⟨⟨_, Ka, rfl, Or.inr ⟨rfl, fun h9 => he h9⟩, by show va_P D vwCl [(y0, .inr (4, [.int cd, .ref y1, .ref y2, .ref y3, .ref y4, .ref y5, .ref y6, .ref y7, .ref y8, .ref y9, .ref ya, .ref yb, .ref yc, .ref yd, .ref ye, .int (nI 3), .int (nI oa), .int (nI ob), .int mo, .ref yf, .ref yg, .ref yh])), (y1, .inl (cZ, 72, .inl Sa)), (y2, .inl (cZ, 72, .inl Oa)), (y3, .inl (cI, 2, .inl My)), (y4, .inl (cI, 10, .inl Fa)), (y5, .inl (cI, 10, .inl Ta)), (y6, .inl (cZ, 10, .inl La)), (y7, .inl (cI, 6, .inl Ga)), (y8, .inl (cZ, 6, .inl Ca)), (y9, .inl (cI, 6, .inl Na)), (ya, .inl (cZ, 6, .inl Ra)), (yb, .inl (cZ, 6, .inl Ka))] t9.heap; rw [ht9]; exact hP⟩, hS.F ht9⟩) hS.2.2 dX4_isLookedFor_102
    · refine lv_iconst (v := nI 1) hx hb dX4_isLookedFor_97 (by decide) ?_
      refine lv_goto hx hb dX4_isLookedFor_98 rfl ?_
      exact W.zret (v := nI 1) hx hb hr (by decide +kernel) (fun t9 ht9 hW9 => ⟨⟨_, Ka, rfl, Or.inl ⟨rfl, he⟩, by show va_P D vwCl [(y0, .inr (4, [.int cd, .ref y1, .ref y2, .ref y3, .ref y4, .ref y5, .ref y6, .ref y7, .ref y8, .ref y9, .ref ya, .ref yb, .ref yc, .ref yd, .ref ye, .int (nI 3), .int (nI oa), .int (nI ob), .int mo, .ref yf, .ref yg, .ref yh])), (y1, .inl (cZ, 72, .inl Sa)), (y2, .inl (cZ, 72, .inl Oa)), (y3, .inl (cI, 2, .inl My)), (y4, .inl (cI, 10, .inl Fa)), (y5, .inl (cI, 10, .inl Ta)), (y6, .inl (cZ, 10, .inl La)), (y7, .inl (cI, 6, .inl Ga)), (y8, .inl (cZ, 6, .inl Ca)), (y9, .inl (cI, 6, .inl Na)), (ya, .inl (cZ, 6, .inl Ra)), (yb, .inl (cZ, 6, .inl Ka))] t9.heap; rw [ht9]; exact hP⟩, hS.F ht9⟩) hS.2.2 dX4_isLookedFor_102
  · refine lv_tableIn hx hb dX4_isLookedFor_4 (by decide) (by decide) (off := 99) (by decide) (tgt := 103) rfl ?_
    cases hn : nx (v oa) with
    | none =>
      refine lv_aload_n hx hb dX4_isLookedFor_103 rfl (lv_at hl 0 rfl) ?_
      refine va_get (D := D) (ci := 4) (v := .ref y8) (C := RX4) (T := TX4) (N := 22) hx hb htg hi_X4 hown hK hP 0 rfl rfl 8 (by decide) (htg _ hm_504) (fun _ h9 => h9) rfl dX4_isLookedFor_104 ?_
      refine lv_aload_n hx hb dX4_isLookedFor_107 rfl (lv_at hl 0 rfl) ?_
      refine va_get (D := D) (ci := 4) (v := .ref y7) (C := RX4) (T := TX4) (N := 22) hx hb htg hi_X4 hown hK hP 0 rfl rfl 7 (by decide) (htg _ hm_503) (fun _ h9 => h9) rfl dX4_isLookedFor_108 ?_
      refine lv_aload_n hx hb dX4_isLookedFor_111 rfl (lv_at hl 0 rfl) ?_
      refine va_get (D := D) (ci := 4) (v := .int (nI oa)) (C := RX4) (T := TX4) (N := 22) hx hb htg hi_X4 hown hK hP 0 rfl rfl 16 (by decide) (htg _ hm_512) (fun _ h9 => h9) rfl dX4_isLookedFor_112 ?_
      refine hw_iald hx hb hK hP 7 0 rfl rfl (j := oa) (by omega) (by first | decide | omega) (v := nI (v oa)) (hG oa (by first | omega | assumption)) dX4_isLookedFor_115 ?_
      refine hw_zald hx hb hK hP 8 1 rfl rfl (j := (v oa)) (by omega) (by first | decide | omega) (v := hc_b false) ((hN.2 _ hva).1 hn) dX4_isLookedFor_116 ?_
      refine hw_ifne_b hx hb dX4_isLookedFor_117 rfl (fun hc9 => absurd hc9 (by decide)) (fun hc9 => ?_)
      refine lv_iconst (v := nI 1) hx hb dX4_isLookedFor_120 (by decide) ?_
      refine lv_goto hx hb dX4_isLookedFor_121 rfl ?_
      exact W.zret (v := nI 1) hx hb hr (by decide +kernel) (fun t9 ht9 hW9 => ⟨⟨_, Ka, rfl, Or.inl ⟨rfl, hn⟩, by show va_P D vwCl [(y0, .inr (4, [.int cd, .ref y1, .ref y2, .ref y3, .ref y4, .ref y5, .ref y6, .ref y7, .ref y8, .ref y9, .ref ya, .ref yb, .ref yc, .ref yd, .ref ye, .int (nI 4), .int (nI oa), .int (nI ob), .int mo, .ref yf, .ref yg, .ref yh])), (y1, .inl (cZ, 72, .inl Sa)), (y2, .inl (cZ, 72, .inl Oa)), (y3, .inl (cI, 2, .inl My)), (y4, .inl (cI, 10, .inl Fa)), (y5, .inl (cI, 10, .inl Ta)), (y6, .inl (cZ, 10, .inl La)), (y7, .inl (cI, 6, .inl Ga)), (y8, .inl (cZ, 6, .inl Ca)), (y9, .inl (cI, 6, .inl Na)), (ya, .inl (cZ, 6, .inl Ra)), (yb, .inl (cZ, 6, .inl Ka))] t9.heap; rw [ht9]; exact hP⟩, hS.F ht9⟩) hS.2.2 dX4_isLookedFor_125
    | some zz =>
      refine lv_aload_n hx hb dX4_isLookedFor_103 rfl (lv_at hl 0 rfl) ?_
      refine va_get (D := D) (ci := 4) (v := .ref y8) (C := RX4) (T := TX4) (N := 22) hx hb htg hi_X4 hown hK hP 0 rfl rfl 8 (by decide) (htg _ hm_504) (fun _ h9 => h9) rfl dX4_isLookedFor_104 ?_
      refine lv_aload_n hx hb dX4_isLookedFor_107 rfl (lv_at hl 0 rfl) ?_
      refine va_get (D := D) (ci := 4) (v := .ref y7) (C := RX4) (T := TX4) (N := 22) hx hb htg hi_X4 hown hK hP 0 rfl rfl 7 (by decide) (htg _ hm_503) (fun _ h9 => h9) rfl dX4_isLookedFor_108 ?_
      refine lv_aload_n hx hb dX4_isLookedFor_111 rfl (lv_at hl 0 rfl) ?_
      refine va_get (D := D) (ci := 4) (v := .int (nI oa)) (C := RX4) (T := TX4) (N := 22) hx hb htg hi_X4 hown hK hP 0 rfl rfl 16 (by decide) (htg _ hm_512) (fun _ h9 => h9) rfl dX4_isLookedFor_112 ?_
      refine hw_iald hx hb hK hP 7 0 rfl rfl (j := oa) (by omega) (by first | decide | omega) (v := nI (v oa)) (hG oa (by first | omega | assumption)) dX4_isLookedFor_115 ?_
      refine hw_zald hx hb hK hP 8 1 rfl rfl (j := (v oa)) (by omega) (by first | decide | omega) (v := hc_b true) (((hN.2 _ hva).2 zz hn).1) dX4_isLookedFor_116 ?_
      refine hw_ifne_b hx hb dX4_isLookedFor_117 rfl (fun hc9 => ?_) (fun hc9 => absurd hc9 (by decide))
      refine lv_iconst (v := nI 0) hx hb dX4_isLookedFor_124 (by decide) ?_
      exact W.zret (v := nI 0) hx hb hr (by decide +kernel) (fun t9 ht9 hW9 => ⟨⟨_, Ka, rfl, Or.inr ⟨rfl, fun h9 => (by have h8 : nx (v oa) = none := h9; rw [hn] at h8; cases h8)⟩, by show va_P D vwCl [(y0, .inr (4, [.int cd, .ref y1, .ref y2, .ref y3, .ref y4, .ref y5, .ref y6, .ref y7, .ref y8, .ref y9, .ref ya, .ref yb, .ref yc, .ref yd, .ref ye, .int (nI 4), .int (nI oa), .int (nI ob), .int mo, .ref yf, .ref yg, .ref yh])), (y1, .inl (cZ, 72, .inl Sa)), (y2, .inl (cZ, 72, .inl Oa)), (y3, .inl (cI, 2, .inl My)), (y4, .inl (cI, 10, .inl Fa)), (y5, .inl (cI, 10, .inl Ta)), (y6, .inl (cZ, 10, .inl La)), (y7, .inl (cI, 6, .inl Ga)), (y8, .inl (cZ, 6, .inl Ca)), (y9, .inl (cI, 6, .inl Na)), (ya, .inl (cZ, 6, .inl Ra)), (yb, .inl (cZ, 6, .inl Ka))] t9.heap; rw [ht9]; exact hP⟩, hS.F ht9⟩) hS.2.2 dX4_isLookedFor_125
