set_option maxHeartbeats 4000000 in
set_option maxRecDepth 100000 in
/-- the next grouping -/
theorem k_X4_nextGroups (l : Launch) (D : va_G) (cI cZ cJ : ClassId) (sz : Nat) (l0 : List Nat) (V : Nat → Int32) (cd md o1 o2 mo : Int32) (y0 y1 y2 y3 y4 y5 y6 y7 y8 y9 ya yb yc yd ye yf yg yh : Nat) (hV : ∀ j, j < 6 → V j = nI (l0.getD j 0)) (hB : ∀ j, j < 6 → l0.getD j 0 < 2 ^ 30) : Met l yX4_nextGroups (Cond.code yX4_nextGroups cX4_nextGroups 4 (some .boolean) :: hwG) { frames := 0, cells := 0, slots := 0, locals := 0 } (hp_M [.ref y0] D cI cZ cJ [(y0, .inr (4, [.int cd, .ref y1, .ref y2, .ref y3, .ref y4, .ref y5, .ref y6, .ref y7, .ref y8, .ref y9, .ref ya, .ref yb, .ref yc, .ref yd, .ref ye, .int md, .int o1, .int o2, .int mo, .ref yf, .ref yg, .ref yh])), (y7, .inl (cI, 6, .inl V))] sz) (va_Qi (S := Nat → Int32) (fun r u => (r = nI 1 ∧ ∃ l2, hc_ng 5 l0 = some l2 ∧ ∀ j, j < 6 → u j = nI (l2.getD j 0)) ∨ (r = nI 0 ∧ hc_ng 5 l0 = none)) (fun u t => va_P D vwCl ([(y0, .inr (4, [.int cd, .ref y1, .ref y2, .ref y3, .ref y4, .ref y5, .ref y6, .ref y7, .ref y8, .ref y9, .ref ya, .ref yb, .ref yc, .ref yd, .ref ye, .int md, .int o1, .int o2, .int mo, .ref yf, .ref yg, .ref yh])), (y7, .inl (cI, 6, .inl u))]) t.heap) (va_A [(y0, .inr (4, [.int cd, .ref y1, .ref y2, .ref y3, .ref y4, .ref y5, .ref y6, .ref y7, .ref y8, .ref y9, .ref ya, .ref yb, .ref yc, .ref yd, .ref ye, .int md, .int o1, .int o2, .int mo, .ref yf, .ref yg, .ref yh])), (y7, .inl (cI, 6, .inl V))] sz)) 0 0 (va_A [(y0, .inr (4, [.int cd, .ref y1, .ref y2, .ref y3, .ref y4, .ref y5, .ref y6, .ref y7, .ref y8, .ref y9, .ref ya, .ref yb, .ref yc, .ref yd, .ref ye, .int md, .int o1, .int o2, .int mo, .ref yf, .ref yg, .ref yh])), (y7, .inl (cI, 6, .inl V))] sz) := by
  refine Met.ofW (cc := cX4_nextGroups) (maxL := 4) (ret := (some .boolean)) (by decide) rfl ?_
  intro p e s m args below meth c s₁ B hml hv
  obtain ⟨rfl, hsz, hP, hz, hD0⟩ := hv
  have hx := B.exec
  have hb := B.bytes
  have hr := B.returns
  have hts := atoms_spec (ws := (Cond.code yX4_nextGroups cX4_nextGroups 4 (some .boolean) :: hwG)) B.pre
  have htg := fun w h => hts w (List.mem_cons_of_mem _ h)
  have hown : s.vm.findClass RX4 = some m.cls := findClass_of_methodNamed B.named
  have hlocks := B.notSynchronized
  have hK := hz.1
  subst hsz
  have hD := hD0.self (sz := s.heap.size)
  generalize hAe : va_A [(y0, .inr (4, [.int cd, .ref y1, .ref y2, .ref y3, .ref y4, .ref y5, .ref y6, .ref y7, .ref y8, .ref y9, .ref ya, .ref yb, .ref yc, .ref yd, .ref ye, .int md, .int o1, .int o2, .int mo, .ref yf, .ref yg, .ref yh])), (y7, .inl (cI, 6, .inl V))] s.heap.size = A at hD ⊢
  have hA : ∀ q : Nat, s.heap.size ≤ q → A q := fun q h => by rw [← hAe]; exact Or.inr h
  have hS : va_S A s.heap s.heap [] := va_S.rf
  have hl := lv_entry ([.ref y0]) (n := 4) (Nat.le_of_ble_eq_true rfl)
  rw [lg_entry_eq]
  generalize (lg_sl ([.ref y0]) ++ List.replicate (4 - (lg_sl ([.ref y0])).length) Slot.unset).toArray = ls at hl ⊢
  replace hl : lv_has ls 4 [(0, .ref y0)] := hl
  replace hP : va_P D vwCl [(y0, .inr (4, [.int cd, .ref y1, .ref y2, .ref y3, .ref y4, .ref y5, .ref y6, .ref y7, .ref y8, .ref y9, .ref ya, .ref yb, .ref yc, .ref yd, .ref ye, .int md, .int o1, .int o2, .int mo, .ref yf, .ref yg, .ref yh])), (y7, .inl (cI, 6, .inl V))] s.heap := hP
  refine lv_iconst (v := nI 5) hx hb dX4_nextGroups_0 (by decide) ?_
  refine lv_istore_n hx hb dX4_nextGroups_1 rfl hl (by decide) rfl (fun ls hl => ?_)
  replace hl : lv_has ls 4 [(1, .int (nI 5)), (0, .ref y0)] := hl
  obtain ⟨H, e_H⟩ : ∃ z : Heap, z = s.heap := ⟨_, rfl⟩
  obtain ⟨locs, e_locs⟩ : ∃ z : List Loc, z = [] := ⟨_, rfl⟩
  replace hP : va_P D vwCl [(y0, .inr (4, [.int cd, .ref y1, .ref y2, .ref y3, .ref y4, .ref y5, .ref y6, .ref y7, .ref y8, .ref y9, .ref ya, .ref yb, .ref yc, .ref yd, .ref ye, .int md, .int o1, .int o2, .int mo, .ref yf, .ref yg, .ref yh])), (y7, .inl (cI, 6, .inl V))] H := by subst e_H; exact hP
  replace hS : va_S A s.heap H locs := by subst e_H e_locs; exact hS
  rw [← e_H, ← e_locs]
  clear e_H e_locs
  obtain ⟨t1, e_t1⟩ : ∃ z : Nat, z = 5 := ⟨_, rfl⟩
  replace hl : lv_has ls 4 [(1, .int (nI t1)), (0, .ref y0)] := by subst e_t1; exact hl
  have hav : hc_ng 5 l0 = hc_ng t1 l0 := by subst e_t1; rfl
  have ht5 : t1 ≤ 5 := by subst e_t1; omega
  clear e_t1
  obtain ⟨k, hk⟩ : ∃ k : Nat, k = t1 := ⟨_, rfl⟩
  induction k generalizing t1 ls  with
  | zero =>
    subst hk
    refine lv_iload_n hx hb dX4_nextGroups_2 rfl (lv_at hl 0 rfl) ?_
    refine lv_if_le hx hb dX4_nextGroups_3 rfl (fun hc => ?_) (fun hc => absurd (by decide) hc)
    refine lv_iconst (v := nI 0) hx hb dX4_nextGroups_93 (by decide) ?_
    exact W.zret (v := nI 0) hx hb hr (by decide +kernel) (fun t9 ht9 hW9 => ⟨⟨_, V, rfl, Or.inr ⟨rfl, hav⟩, by show va_P D vwCl [(y0, .inr (4, [.int cd, .ref y1, .ref y2, .ref y3, .ref y4, .ref y5, .ref y6, .ref y7, .ref y8, .ref y9, .ref ya, .ref yb, .ref yc, .ref yd, .ref ye, .int md, .int o1, .int o2, .int mo, .ref yf, .ref yg, .ref yh])), (y7, .inl (cI, 6, .inl V))] t9.heap; rw [ht9]; exact hP⟩, hS.F ht9⟩) hS.2.2 dX4_nextGroups_94
  | succ k ih =>
    refine lv_iload_n hx hb dX4_nextGroups_2 rfl (lv_at hl 0 rfl) ?_
    refine lv_if_le hx hb dX4_nextGroups_3 rfl (fun hc => absurd hc (hm_le0 (by omega) (by omega))) (fun hc => ?_)
    refine lv_iconst (v := nI 0) hx hb dX4_nextGroups_6 (by decide) ?_
    refine lv_istore_n hx hb dX4_nextGroups_7 rfl hl (by decide) rfl (fun ls hl => ?_)
    replace hl : lv_has ls 4 [(2, .int (nI 0)), (1, .int (nI t1)), (0, .ref y0)] := hl
    refine lv_iconst (v := nI 0) hx hb dX4_nextGroups_8 (by decide) ?_
    refine lv_istore_n hx hb dX4_nextGroups_9 rfl hl (by decide) rfl (fun ls hl => ?_)
    replace hl : lv_has ls 4 [(3, .int (nI 0)), (2, .int (nI 0)), (1, .int (nI t1)), (0, .ref y0)] := hl
    obtain ⟨i, e_i⟩ : ∃ z : Nat, z = 0 := ⟨_, rfl⟩
    obtain ⟨r9, e_r9⟩ : ∃ z : Nat, z = 0 := ⟨_, rfl⟩
    replace hl : lv_has ls 4 [(3, .int (nI i)), (2, .int (nI r9)), (1, .int (nI t1)), (0, .ref y0)] := by subst e_i e_r9; exact hl
    have hr9 : r9 = hc_mx l0 i := by subst e_i e_r9; rfl
    have hit : i ≤ t1 := by subst e_i e_r9; omega
    clear e_i e_r9
    obtain ⟨k2, hk2⟩ : ∃ k2 : Nat, k2 = t1 - i := ⟨_, rfl⟩
    induction k2 generalizing i r9 ls  with
    | zero =>
      have hm1 : hc_mx l0 i < 2 ^ 30 := hc_mx_lt (by decide) hB i (by omega)
      have hm2 := hB t1 (by omega)
      refine lv_iload_n hx hb dX4_nextGroups_10 rfl (lv_at hl 0 rfl) ?_
      refine lv_iload_n hx hb dX4_nextGroups_11 rfl (lv_at hl 2 rfl) ?_
      refine hw_icmp_ge hx hb (by omega) (by omega) dX4_nextGroups_12 rfl (fun hc2 => ?_) (fun hc2 => absurd hc2 (by omega))
      have hii : i = t1 := by omega
      refine lv_aload_n hx hb dX4_nextGroups_42 rfl (lv_at hl 3 rfl) ?_
      refine va_get (D := D) (ci := 4) (v := .ref y7) (C := RX4) (T := TX4) (N := 22) hx hb htg hi_X4 hown hK hP 0 rfl rfl 7 (by decide) (htg _ hm_503) (fun _ h9 => h9) rfl dX4_nextGroups_43 ?_
      refine lv_iload_n hx hb dX4_nextGroups_46 rfl (lv_at hl 2 rfl) ?_
      refine hw_iald hx hb hK hP 1 0 rfl rfl (j := t1) (by omega) (by first | decide | omega) (v := nI (l0.getD t1 0)) (hV t1 (by omega)) dX4_nextGroups_47 ?_
      refine lv_iload_n hx hb dX4_nextGroups_48 rfl (lv_at hl 1 rfl) ?_
      refine hw_icmp_gt hx hb (by omega) (by omega) dX4_nextGroups_49 rfl (fun h3 => ?_) (fun h3 => ?_)
      · refine lv_iinc (v := nI (t1 - 1)) (k := 2) hx hb dX4_nextGroups_87 hl rfl (hw_dec (by omega)) (by decide) rfl (fun ls hl => ?_)
        replace hl : lv_has ls 4 [(1, .int (nI (t1 - 1))), (3, .int (nI i)), (2, .int (nI r9)), (0, .ref y0)] := hl
        refine lv_goto hx hb dX4_nextGroups_90 rfl ?_
        replace hl : lv_has ls 4 [(1, .int (nI (t1 - 1))), (0, .ref y0)] := lv_sub hl [0, 3] rfl
        refine ih (hl := hl) (hav := (by rw [hav, ← hk]; show (if l0.getD (k + 1) 0 ≤ hc_mx l0 (k + 1) then _ else _) = _; exact if_neg (by rw [hk, ← hii, ← hr9, hii]; omega))) (ht5 := (by omega)) (hk := (by omega))
      · refine lv_aload_n hx hb dX4_nextGroups_52 rfl (lv_at hl 3 rfl) ?_
        refine va_get (D := D) (ci := 4) (v := .ref y7) (C := RX4) (T := TX4) (N := 22) hx hb htg hi_X4 hown hK hP 0 rfl rfl 7 (by decide) (htg _ hm_503) (fun _ h9 => h9) rfl dX4_nextGroups_53 ?_
        refine lv_iload_n hx hb dX4_nextGroups_56 rfl (lv_at hl 2 rfl) ?_
        refine lv_dup2_11 hx hb dX4_nextGroups_57 rfl rfl ?_
        refine hw_iald hx hb hK hP 1 0 rfl rfl (j := t1) (by omega) (by first | decide | omega) (v := nI (l0.getD t1 0)) (hV t1 (by omega)) dX4_nextGroups_58 ?_
        refine lv_iconst (v := nI 1) hx hb dX4_nextGroups_59 (by decide) ?_
        refine hw_iadd hx hb dX4_nextGroups_60 ?_
        refine hw_iast hx hb hK hP hD hS 1 0 rfl rfl (j := t1) (by omega) (by first | decide | omega) dX4_nextGroups_61 (fun H locs hP hD hS => ?_)
        replace hP : va_P D vwCl [(y0, .inr (4, [.int cd, .ref y1, .ref y2, .ref y3, .ref y4, .ref y5, .ref y6, .ref y7, .ref y8, .ref y9, .ref ya, .ref yb, .ref yc, .ref yd, .ref ye, .int md, .int o1, .int o2, .int mo, .ref yf, .ref yg, .ref yh])), (y7, .inl (cI, 6, .inl (upd V t1 (nI (l0.getD t1 0 + 1)))))] H := hP
        replace hD : va_D A [(y0, .inr (4, [.int cd, .ref y1, .ref y2, .ref y3, .ref y4, .ref y5, .ref y6, .ref y7, .ref y8, .ref y9, .ref ya, .ref yb, .ref yc, .ref yd, .ref ye, .int md, .int o1, .int o2, .int mo, .ref yf, .ref yg, .ref yh])), (y7, .inl (cI, 6, .inl (upd V t1 (nI (l0.getD t1 0 + 1)))))] := hD
        refine lv_iload_n hx hb dX4_nextGroups_62 rfl (lv_at hl 2 rfl) ?_
        refine lv_iconst (v := nI 1) hx hb dX4_nextGroups_63 (by decide) ?_
        refine hw_iadd hx hb dX4_nextGroups_64 ?_
        refine lv_istore_n hx hb dX4_nextGroups_65 rfl hl (by decide) rfl (fun ls hl => ?_)
        replace hl : lv_has ls 4 [(3, .int (nI (t1 + 1))), (2, .int (nI r9)), (1, .int (nI t1)), (0, .ref y0)] := hl
        obtain ⟨i3, e_i3⟩ : ∃ z : Nat, z = t1 + 1 := ⟨_, rfl⟩
        obtain ⟨V3, e_V3⟩ : ∃ z : Nat → Int32, z = upd V t1 (nI (l0.getD t1 0 + 1)) := ⟨_, rfl⟩
        replace hl : lv_has ls 4 [(3, .int (nI i3)), (2, .int (nI r9)), (1, .int (nI t1)), (0, .ref y0)] := by subst e_i3 e_V3; exact hl
        replace hP : va_P D vwCl [(y0, .inr (4, [.int cd, .ref y1, .ref y2, .ref y3, .ref y4, .ref y5, .ref y6, .ref y7, .ref y8, .ref y9, .ref ya, .ref yb, .ref yc, .ref yd, .ref ye, .int md, .int o1, .int o2, .int mo, .ref yf, .ref yg, .ref yh])), (y7, .inl (cI, 6, .inl V3))] H := by subst e_i3 e_V3; exact hP
        replace hD : va_D A [(y0, .inr (4, [.int cd, .ref y1, .ref y2, .ref y3, .ref y4, .ref y5, .ref y6, .ref y7, .ref y8, .ref y9, .ref ya, .ref yb, .ref yc, .ref yd, .ref ye, .int md, .int o1, .int o2, .int mo, .ref yf, .ref yg, .ref yh])), (y7, .inl (cI, 6, .inl V3))] := by subst e_i3 e_V3; exact hD
        have hV3 : ∀ j, j < 6 → V3 j = nI (if j < t1 then l0.getD j 0 else if j = t1 then l0.getD j 0 + 1 else if j < i3 then 0 else l0.getD j 0) := by subst e_i3 e_V3; (intro j hj; unfold upd; by_cases hjt : j = t1; (rw [if_pos hjt, if_neg (by omega), if_pos hjt, hjt]); (rw [if_neg hjt, if_neg hjt, hV j hj]; by_cases hj2 : j < t1; (rw [if_pos hj2]); (rw [if_neg hj2, if_neg (by omega)])))
        have hi3 : t1 < i3 ∧ i3 ≤ 6 := by subst e_i3 e_V3; omega
        clear e_i3 e_V3
        obtain ⟨k3, hk3⟩ : ∃ k3 : Nat, k3 = 6 - i3 := ⟨_, rfl⟩
        induction k3 generalizing i3 V3 ls H locs  with
        | zero =>
          refine lv_iload_n hx hb dX4_nextGroups_66 rfl (lv_at hl 0 rfl) ?_
          refine lv_bipush (v := nI 6) hx hb dX4_nextGroups_67 (by decide) ?_
          refine hw_icmp_ge hx hb (by omega) (by omega) dX4_nextGroups_69 rfl (fun hc3 => ?_) (fun hc3 => absurd hc3 (by omega))
          refine lv_iconst (v := nI 1) hx hb dX4_nextGroups_85 (by decide) ?_
          exact W.zret (v := nI 1) hx hb hr (by decide +kernel) (fun t9 ht9 hW9 => ⟨⟨_, V3, rfl, Or.inl ⟨rfl, _, by rw [hav, ← hk]; show (if l0.getD (k + 1) 0 ≤ hc_mx l0 (k + 1) then _ else _) = _; rw [if_pos (by rw [hk, ← hii, ← hr9, hii]; omega)], fun j hj => by rw [hm_rg j hj, hV3 j hj, hk]; congr 1; by_cases hjt : j < t1; (rw [if_pos hjt, if_pos hjt]); (rw [if_neg hjt, if_neg hjt]; by_cases hjt2 : j = t1; (rw [if_pos hjt2, if_pos hjt2]); (rw [if_neg hjt2, if_neg hjt2, if_pos (by omega)]))⟩, by show va_P D vwCl [(y0, .inr (4, [.int cd, .ref y1, .ref y2, .ref y3, .ref y4, .ref y5, .ref y6, .ref y7, .ref y8, .ref y9, .ref ya, .ref yb, .ref yc, .ref yd, .ref ye, .int md, .int o1, .int o2, .int mo, .ref yf, .ref yg, .ref yh])), (y7, .inl (cI, 6, .inl V3))] t9.heap; rw [ht9]; exact hP⟩, hS.F ht9⟩) hS.2.2 dX4_nextGroups_86
        | succ k3 ih3 =>
          refine lv_iload_n hx hb dX4_nextGroups_66 rfl (lv_at hl 0 rfl) ?_
          refine lv_bipush (v := nI 6) hx hb dX4_nextGroups_67 (by decide) ?_
          refine hw_icmp_ge hx hb (by omega) (by omega) dX4_nextGroups_69 rfl (fun hc3 => absurd hc3 (by omega)) (fun hc3 => ?_)
          refine lv_aload_n hx hb dX4_nextGroups_72 rfl (lv_at hl 3 rfl) ?_
          refine va_get (D := D) (ci := 4) (v := .ref y7) (C := RX4) (T := TX4) (N := 22) hx hb htg hi_X4 hown hK hP 0 rfl rfl 7 (by decide) (htg _ hm_503) (fun _ h9 => h9) rfl dX4_nextGroups_73 ?_
          refine lv_iload_n hx hb dX4_nextGroups_76 rfl (lv_at hl 0 rfl) ?_
          refine lv_iconst (v := nI 0) hx hb dX4_nextGroups_77 (by decide) ?_
          refine hw_iast hx hb hK hP hD hS 1 0 rfl rfl (j := i3) (by omega) (by first | decide | omega) dX4_nextGroups_78 (fun H locs hP hD hS => ?_)
          replace hP : va_P D vwCl [(y0, .inr (4, [.int cd, .ref y1, .ref y2, .ref y3, .ref y4, .ref y5, .ref y6, .ref y7, .ref y8, .ref y9, .ref ya, .ref yb, .ref yc, .ref yd, .ref ye, .int md, .int o1, .int o2, .int mo, .ref yf, .ref yg, .ref yh])), (y7, .inl (cI, 6, .inl (upd V3 i3 (nI 0))))] H := hP
          replace hD : va_D A [(y0, .inr (4, [.int cd, .ref y1, .ref y2, .ref y3, .ref y4, .ref y5, .ref y6, .ref y7, .ref y8, .ref y9, .ref ya, .ref yb, .ref yc, .ref yd, .ref ye, .int md, .int o1, .int o2, .int mo, .ref yf, .ref yg, .ref yh])), (y7, .inl (cI, 6, .inl (upd V3 i3 (nI 0))))] := hD
          refine lv_iinc (v := nI (i3 + 1)) (k := 0) hx hb dX4_nextGroups_79 hl rfl (hw_inc _) (by decide) rfl (fun ls hl => ?_)
          replace hl : lv_has ls 4 [(3, .int (nI (i3 + 1))), (2, .int (nI r9)), (1, .int (nI t1)), (0, .ref y0)] := hl
          refine lv_goto hx hb dX4_nextGroups_82 rfl ?_
          refine ih3 (hS := hS) (hl := hl) (hP := hP) (hD := hD) (hV3 := (fun j hj => ?_)) (hi3 := (by omega)) (hk3 := (by omega))
          unfold upd
          by_cases hjt : j = i3
          · rw [if_pos hjt, if_neg (by omega), if_neg (by omega), if_pos (by omega)]
          · rw [if_neg hjt, hV3 j hj]; congr 1; by_cases hj1 : j < t1
            · rw [if_pos hj1, if_pos hj1]
            · rw [if_neg hj1, if_neg hj1]; by_cases hj2 : j = t1
              · rw [if_pos hj2, if_pos hj2]
              · rw [if_neg hj2, if_neg hj2]; by_cases hj3 : j < i3
                · rw [if_pos hj3, if_pos (by omega)]
                · rw [if_neg hj3, if_neg (by omega)]
    | succ k2 ih2 =>
      have hm1 : hc_mx l0 i < 2 ^ 30 := hc_mx_lt (by decide) hB i (by omega)
      have hm2 := hB i (by omega)
      refine lv_iload_n hx hb dX4_nextGroups_10 rfl (lv_at hl 0 rfl) ?_
      refine lv_iload_n hx hb dX4_nextGroups_11 rfl (lv_at hl 2 rfl) ?_
      refine hw_icmp_ge hx hb (by omega) (by omega) dX4_nextGroups_12 rfl (fun hc2 => absurd hc2 (by omega)) (fun hc2 => ?_)
      refine lv_aload_n hx hb dX4_nextGroups_15 rfl (lv_at hl 3 rfl) ?_
      refine va_get (D := D) (ci := 4) (v := .ref y7) (C := RX4) (T := TX4) (N := 22) hx hb htg hi_X4 hown hK hP 0 rfl rfl 7 (by decide) (htg _ hm_503) (fun _ h9 => h9) rfl dX4_nextGroups_16 ?_
      refine lv_iload_n hx hb dX4_nextGroups_19 rfl (lv_at hl 0 rfl) ?_
      refine hw_iald hx hb hK hP 1 0 rfl rfl (j := i) (by omega) (by first | decide | omega) (v := nI (l0.getD i 0)) (hV i (by omega)) dX4_nextGroups_20 ?_
      refine lv_iload_n hx hb dX4_nextGroups_21 rfl (lv_at hl 1 rfl) ?_
      refine hw_icmp_le hx hb (by omega) (by omega) dX4_nextGroups_22 rfl (fun h4 => ?_) (fun h4 => ?_)
      · refine lv_iload_n hx hb dX4_nextGroups_34 rfl (lv_at hl 1 rfl) ?_
        refine lv_istore_n hx hb dX4_nextGroups_35 rfl hl (by decide) rfl (fun ls hl => ?_)
        replace hl : lv_has ls 4 [(2, .int (nI r9)), (3, .int (nI i)), (1, .int (nI t1)), (0, .ref y0)] := hl
        refine lv_iinc (v := nI (i + 1)) (k := 1) hx hb dX4_nextGroups_36 hl rfl (hw_inc _) (by decide) rfl (fun ls hl => ?_)
        replace hl : lv_has ls 4 [(3, .int (nI (i + 1))), (2, .int (nI r9)), (1, .int (nI t1)), (0, .ref y0)] := hl
        refine lv_goto hx hb dX4_nextGroups_39 rfl ?_
        refine ih2 (hl := hl) (hr9 := (by rw [hr9]; show hc_mx l0 i = max (hc_mx l0 i) (l0.getD i 0); omega)) (hit := (by omega)) (hk2 := (by omega))
      · refine lv_aload_n hx hb dX4_nextGroups_25 rfl (lv_at hl 3 rfl) ?_
        refine va_get (D := D) (ci := 4) (v := .ref y7) (C := RX4) (T := TX4) (N := 22) hx hb htg hi_X4 hown hK hP 0 rfl rfl 7 (by decide) (htg _ hm_503) (fun _ h9 => h9) rfl dX4_nextGroups_26 ?_
        refine lv_iload_n hx hb dX4_nextGroups_29 rfl (lv_at hl 0 rfl) ?_
        refine hw_iald hx hb hK hP 1 0 rfl rfl (j := i) (by omega) (by first | decide | omega) (v := nI (l0.getD i 0)) (hV i (by omega)) dX4_nextGroups_30 ?_
        refine lv_goto hx hb dX4_nextGroups_31 rfl ?_
        refine lv_istore_n hx hb dX4_nextGroups_35 rfl hl (by decide) rfl (fun ls hl => ?_)
        replace hl : lv_has ls 4 [(2, .int (nI (l0.getD i 0))), (3, .int (nI i)), (1, .int (nI t1)), (0, .ref y0)] := hl
        refine lv_iinc (v := nI (i + 1)) (k := 1) hx hb dX4_nextGroups_36 hl rfl (hw_inc _) (by decide) rfl (fun ls hl => ?_)
        replace hl : lv_has ls 4 [(3, .int (nI (i + 1))), (2, .int (nI (l0.getD i 0))), (1, .int (nI t1)), (0, .ref y0)] := hl
        refine lv_goto hx hb dX4_nextGroups_39 rfl ?_
        refine ih2 (hl := hl) (hr9 := (by show l0.getD i 0 = max (hc_mx l0 i) (l0.getD i 0); omega)) (hit := (by omega)) (hk2 := (by omega))

set_option maxHeartbeats 4000000 in
set_option maxRecDepth 100000 in
/-- the pieces have begun -/
theorem k_X4_begun (l : Launch) (D : va_G) (cI cZ cJ : ClassId) (sz : Nat) (Sa Oa My Fa Ta La : Nat → Int32) (SA OA : Nat → Bool) (MA FA TA : Nat → Nat) (LA : Nat → Bool) (v : Nat → Nat) (Ga : Nat → Int32) (Ca Na Ra : Nat → Int32) (cx : Nat) (cd md o1 o2 mo : Int32) (y0 y1 y2 y3 y4 y5 y6 y7 y8 y9 ya yb yc yd ye yf yg yh : Nat) (hM : hr_m Sa Oa My Fa Ta La SA OA MA FA TA LA) (hG : ∀ j, j < 6 → Ga j = nI (v j)) (hv : ∀ j, j < 6 → v j < 6) (hc0 : cx < 2) : Met l yX4_begun (Cond.code yX4_begun cX4_begun 4 (some .boolean) :: hwG) { frames := 1, cells := 0, slots := 0, locals := 21 } (hp_M [.ref y0, .int (nI cx)] D cI cZ cJ [(y0, .inr (4, [.int cd, .ref y1, .ref y2, .ref y3, .ref y4, .ref y5, .ref y6, .ref y7, .ref y8, .ref y9, .ref ya, .ref yb, .ref yc, .ref yd, .ref ye, .int md, .int o1, .int o2, .int mo, .ref yf, .ref yg, .ref yh])), (y3, .inl (cI, 2, .inl My)), (y4, .inl (cI, 10, .inl Fa)), (y5, .inl (cI, 10, .inl Ta)), (y6, .inl (cZ, 10, .inl La)), (y7, .inl (cI, 6, .inl Ga)), (y8, .inl (cZ, 6, .inl Ca)), (y9, .inl (cI, 6, .inl Na)), (ya, .inl (cZ, 6, .inl Ra))] sz) (va_Qi (S := (Nat → Int32) × (Nat → Int32) × (Nat → Int32)) (fun r u => hc_r r (hc_BG (v 5) (MA cx) (fun i => v (FA (5 * cx + i))) (fun i => v (TA (5 * cx + i))) (fun i => LA (5 * cx + i))) ∧ (r = nI 1 → ∃ CA, hg_I (v 5) (fun i => v (FA (5 * cx + i))) (fun i => v (TA (5 * cx + i))) (fun i => LA (5 * cx + i)) (MA cx) u.1 u.2.1 u.2.2 CA)) (fun u t => va_P D vwCl ([(y0, .inr (4, [.int cd, .ref y1, .ref y2, .ref y3, .ref y4, .ref y5, .ref y6, .ref y7, .ref y8, .ref y9, .ref ya, .ref yb, .ref yc, .ref yd, .ref ye, .int md, .int o1, .int o2, .int mo, .ref yf, .ref yg, .ref yh])), (y3, .inl (cI, 2, .inl My)), (y4, .inl (cI, 10, .inl Fa)), (y5, .inl (cI, 10, .inl Ta)), (y6, .inl (cZ, 10, .inl La)), (y7, .inl (cI, 6, .inl Ga)), (y8, .inl (cZ, 6, .inl u.1)), (y9, .inl (cI, 6, .inl u.2.1)), (ya, .inl (cZ, 6, .inl u.2.2))]) t.heap) (va_A [(y0, .inr (4, [.int cd, .ref y1, .ref y2, .ref y3, .ref y4, .ref y5, .ref y6, .ref y7, .ref y8, .ref y9, .ref ya, .ref yb, .ref yc, .ref yd, .ref ye, .int md, .int o1, .int o2, .int mo, .ref yf, .ref yg, .ref yh])), (y3, .inl (cI, 2, .inl My)), (y4, .inl (cI, 10, .inl Fa)), (y5, .inl (cI, 10, .inl Ta)), (y6, .inl (cZ, 10, .inl La)), (y7, .inl (cI, 6, .inl Ga)), (y8, .inl (cZ, 6, .inl Ca)), (y9, .inl (cI, 6, .inl Na)), (ya, .inl (cZ, 6, .inl Ra))] sz)) 0 0 (va_A [(y0, .inr (4, [.int cd, .ref y1, .ref y2, .ref y3, .ref y4, .ref y5, .ref y6, .ref y7, .ref y8, .ref y9, .ref ya, .ref yb, .ref yc, .ref yd, .ref ye, .int md, .int o1, .int o2, .int mo, .ref yf, .ref yg, .ref yh])), (y3, .inl (cI, 2, .inl My)), (y4, .inl (cI, 10, .inl Fa)), (y5, .inl (cI, 10, .inl Ta)), (y6, .inl (cZ, 10, .inl La)), (y7, .inl (cI, 6, .inl Ga)), (y8, .inl (cZ, 6, .inl Ca)), (y9, .inl (cI, 6, .inl Na)), (ya, .inl (cZ, 6, .inl Ra))] sz) := by
  refine Met.ofW (cc := cX4_begun) (maxL := 4) (ret := (some .boolean)) (by decide) rfl ?_
  intro p e s m args below meth c s₁ B hml hv
  obtain ⟨rfl, hsz, hP, hz, hD0⟩ := hv
  have hx := B.exec
  have hb := B.bytes
  have hr := B.returns
  have hts := atoms_spec (ws := (Cond.code yX4_begun cX4_begun 4 (some .boolean) :: hwG)) B.pre
  have htg := fun w h => hts w (List.mem_cons_of_mem _ h)
  have hown : s.vm.findClass RX4 = some m.cls := findClass_of_methodNamed B.named
  have hlocks := B.notSynchronized
  have hK := hz.1
  subst hsz
  have hD := hD0.self (sz := s.heap.size)
  generalize hAe : va_A [(y0, .inr (4, [.int cd, .ref y1, .ref y2, .ref y3, .ref y4, .ref y5, .ref y6, .ref y7, .ref y8, .ref y9, .ref ya, .ref yb, .ref yc, .ref yd, .ref ye, .int md, .int o1, .int o2, .int mo, .ref yf, .ref yg, .ref yh])), (y3, .inl (cI, 2, .inl My)), (y4, .inl (cI, 10, .inl Fa)), (y5, .inl (cI, 10, .inl Ta)), (y6, .inl (cZ, 10, .inl La)), (y7, .inl (cI, 6, .inl Ga)), (y8, .inl (cZ, 6, .inl Ca)), (y9, .inl (cI, 6, .inl Na)), (ya, .inl (cZ, 6, .inl Ra))] s.heap.size = A at hD ⊢
  have hA : ∀ q : Nat, s.heap.size ≤ q → A q := fun q h => by rw [← hAe]; exact Or.inr h
  have hS : va_S A s.heap s.heap [] := va_S.rf
  have hl := lv_entry ([.ref y0, .int (nI cx)]) (n := 4) (Nat.le_of_ble_eq_true rfl)
  rw [lg_entry_eq]
  generalize (lg_sl ([.ref y0, .int (nI cx)]) ++ List.replicate (4 - (lg_sl ([.ref y0, .int (nI cx)])).length) Slot.unset).toArray = ls at hl ⊢
  replace hl : lv_has ls 4 [(0, .ref y0), (1, .int (nI cx))] := hl
  replace hP : va_P D vwCl [(y0, .inr (4, [.int cd, .ref y1, .ref y2, .ref y3, .ref y4, .ref y5, .ref y6, .ref y7, .ref y8, .ref y9, .ref ya, .ref yb, .ref yc, .ref yd, .ref ye, .int md, .int o1, .int o2, .int mo, .ref yf, .ref yg, .ref yh])), (y3, .inl (cI, 2, .inl My)), (y4, .inl (cI, 10, .inl Fa)), (y5, .inl (cI, 10, .inl Ta)), (y6, .inl (cZ, 10, .inl La)), (y7, .inl (cI, 6, .inl Ga)), (y8, .inl (cZ, 6, .inl Ca)), (y9, .inl (cI, 6, .inl Na)), (ya, .inl (cZ, 6, .inl Ra))] s.heap := hP
  have hm5 := (hM.2.1 cx hc0).2
  have hv5 := hv 5 (by omega)
  refine lv_iconst (v := nI 0) hx hb dX4_begun_0 (by decide) ?_
  refine lv_istore_n hx hb dX4_begun_1 rfl hl (by decide) rfl (fun ls hl => ?_)
  replace hl : lv_has ls 4 [(2, .int (nI 0)), (0, .ref y0), (1, .int (nI cx))] := hl
  obtain ⟨H, e_H⟩ : ∃ z : Heap, z = s.heap := ⟨_, rfl⟩
  obtain ⟨locs, e_locs⟩ : ∃ z : List Loc, z = [] := ⟨_, rfl⟩
  replace hP : va_P D vwCl [(y0, .inr (4, [.int cd, .ref y1, .ref y2, .ref y3, .ref y4, .ref y5, .ref y6, .ref y7, .ref y8, .ref y9, .ref ya, .ref yb, .ref yc, .ref yd, .ref ye, .int md, .int o1, .int o2, .int mo, .ref yf, .ref yg, .ref yh])), (y3, .inl (cI, 2, .inl My)), (y4, .inl (cI, 10, .inl Fa)), (y5, .inl (cI, 10, .inl Ta)), (y6, .inl (cZ, 10, .inl La)), (y7, .inl (cI, 6, .inl Ga)), (y8, .inl (cZ, 6, .inl Ca)), (y9, .inl (cI, 6, .inl Na)), (ya, .inl (cZ, 6, .inl Ra))] H := by subst e_H; exact hP
  replace hS : va_S A s.heap H locs := by subst e_H e_locs; exact hS
  rw [← e_H, ← e_locs]
  clear e_H e_locs
  obtain ⟨t, e_t⟩ : ∃ z : Nat, z = 0 := ⟨_, rfl⟩
  obtain ⟨C1, e_C1⟩ : ∃ z : Nat → Int32, z = Ca := ⟨_, rfl⟩
  replace hl : lv_has ls 4 [(2, .int (nI t)), (0, .ref y0), (1, .int (nI cx))] := by subst e_t e_C1; exact hl
  replace hP : va_P D vwCl [(y0, .inr (4, [.int cd, .ref y1, .ref y2, .ref y3, .ref y4, .ref y5, .ref y6, .ref y7, .ref y8, .ref y9, .ref ya, .ref yb, .ref yc, .ref yd, .ref ye, .int md, .int o1, .int o2, .int mo, .ref yf, .ref yg, .ref yh])), (y3, .inl (cI, 2, .inl My)), (y4, .inl (cI, 10, .inl Fa)), (y5, .inl (cI, 10, .inl Ta)), (y6, .inl (cZ, 10, .inl La)), (y7, .inl (cI, 6, .inl Ga)), (y8, .inl (cZ, 6, .inl C1)), (y9, .inl (cI, 6, .inl Na)), (ya, .inl (cZ, 6, .inl Ra))] H := by subst e_t e_C1; exact hP
  replace hD : va_D A [(y0, .inr (4, [.int cd, .ref y1, .ref y2, .ref y3, .ref y4, .ref y5, .ref y6, .ref y7, .ref y8, .ref y9, .ref ya, .ref yb, .ref yc, .ref yd, .ref ye, .int md, .int o1, .int o2, .int mo, .ref yf, .ref yg, .ref yh])), (y3, .inl (cI, 2, .inl My)), (y4, .inl (cI, 10, .inl Fa)), (y5, .inl (cI, 10, .inl Ta)), (y6, .inl (cZ, 10, .inl La)), (y7, .inl (cI, 6, .inl Ga)), (y8, .inl (cZ, 6, .inl C1)), (y9, .inl (cI, 6, .inl Na)), (ya, .inl (cZ, 6, .inl Ra))] := by subst e_t e_C1; exact hD
  have hC1 : ∀ j, j < t → C1 j = hc_b false := by subst e_t e_C1; exact fun j hj => absurd hj (Nat.not_lt_zero _)
  have ht6 : t ≤ 6 := by subst e_t e_C1; omega
  clear e_t e_C1
  obtain ⟨k, hk⟩ : ∃ k : Nat, k = 6 - t := ⟨_, rfl⟩
  induction k generalizing t C1 ls H locs  with
  | zero =>
    refine lv_iload_n hx hb dX4_begun_2 rfl (lv_at hl 0 rfl) ?_
    refine lv_bipush (v := nI 6) hx hb dX4_begun_3 (by decide) ?_
    refine hw_icmp_ge hx hb (by omega) (by omega) dX4_begun_5 rfl (fun hc => ?_) (fun hc => absurd hc (by omega))
    refine lv_iconst (v := nI 5) hx hb dX4_begun_21 (by decide) ?_
    refine lv_iload_n hx hb dX4_begun_22 rfl (lv_at hl 2 rfl) ?_
    refine hw_imul hx hb dX4_begun_23 ?_
    refine lv_istore_n hx hb dX4_begun_24 rfl hl (by decide) rfl (fun ls hl => ?_)
    replace hl : lv_has ls 4 [(2, .int (nI (5 * cx))), (0, .ref y0), (1, .int (nI cx))] := hl
    obtain ⟨px, e_px⟩ : ∃ z : Nat, z = 0 := ⟨_, rfl⟩
    obtain ⟨C2, e_C2⟩ : ∃ z : Nat → Int32, z = C1 := ⟨_, rfl⟩
    obtain ⟨N2, e_N2⟩ : ∃ z : Nat → Int32, z = Na := ⟨_, rfl⟩
    obtain ⟨R2, e_R2⟩ : ∃ z : Nat → Int32, z = Ra := ⟨_, rfl⟩
    obtain ⟨CA, e_CA⟩ : ∃ z : Nat → Bool, z = (fun _ => false) := ⟨_, rfl⟩
    replace hl : lv_has ls 4 [(2, .int (nI (5 * cx + px))), (0, .ref y0), (1, .int (nI cx))] := by subst e_px e_C2 e_N2 e_R2 e_CA; exact hl
    replace hP : va_P D vwCl [(y0, .inr (4, [.int cd, .ref y1, .ref y2, .ref y3, .ref y4, .ref y5, .ref y6, .ref y7, .ref y8, .ref y9, .ref ya, .ref yb, .ref yc, .ref yd, .ref ye, .int md, .int o1, .int o2, .int mo, .ref yf, .ref yg, .ref yh])), (y3, .inl (cI, 2, .inl My)), (y4, .inl (cI, 10, .inl Fa)), (y5, .inl (cI, 10, .inl Ta)), (y6, .inl (cZ, 10, .inl La)), (y7, .inl (cI, 6, .inl Ga)), (y8, .inl (cZ, 6, .inl C2)), (y9, .inl (cI, 6, .inl N2)), (ya, .inl (cZ, 6, .inl R2))] H := by subst e_px e_C2 e_N2 e_R2 e_CA; exact hP
    replace hD : va_D A [(y0, .inr (4, [.int cd, .ref y1, .ref y2, .ref y3, .ref y4, .ref y5, .ref y6, .ref y7, .ref y8, .ref y9, .ref ya, .ref yb, .ref yc, .ref yd, .ref ye, .int md, .int o1, .int o2, .int mo, .ref yf, .ref yg, .ref yh])), (y3, .inl (cI, 2, .inl My)), (y4, .inl (cI, 10, .inl Fa)), (y5, .inl (cI, 10, .inl Ta)), (y6, .inl (cZ, 10, .inl La)), (y7, .inl (cI, 6, .inl Ga)), (y8, .inl (cZ, 6, .inl C2)), (y9, .inl (cI, 6, .inl N2)), (ya, .inl (cZ, 6, .inl R2))] := by subst e_px e_C2 e_N2 e_R2 e_CA; exact hD
    have hg : hg_I (v 5) (fun i => v (FA (5 * cx + i))) (fun i => v (TA (5 * cx + i))) (fun i => LA (5 * cx + i)) px C2 N2 R2 CA := by subst e_px e_C2 e_N2 e_R2 e_CA; exact hg_0 (fun j hj => hC1 j (by omega))
    have hpx : px ≤ MA cx := by subst e_px e_C2 e_N2 e_R2 e_CA; exact Nat.zero_le _
    clear e_px e_C2 e_N2 e_R2 e_CA
    obtain ⟨k2, hk2⟩ : ∃ k2 : Nat, k2 = MA cx - px := ⟨_, rfl⟩
    induction k2 generalizing px C2 N2 R2 CA ls H locs  with
    | zero =>
      refine lv_iload_n hx hb dX4_begun_25 rfl (lv_at hl 0 rfl) ?_
      refine lv_iconst (v := nI 5) hx hb dX4_begun_26 (by decide) ?_
      refine lv_iload_n hx hb dX4_begun_27 rfl (lv_at hl 2 rfl) ?_
      refine hw_imul hx hb dX4_begun_28 ?_
      refine lv_aload_n hx hb dX4_begun_29 rfl (lv_at hl 1 rfl) ?_
      refine va_get (D := D) (ci := 4) (v := .ref y3) (C := RX4) (T := TX4) (N := 22) hx hb htg hi_X4 hown hK hP 0 rfl rfl 3 (by decide) (htg _ hm_499) (fun _ h9 => h9) rfl dX4_begun_30 ?_
      refine lv_iload_n hx hb dX4_begun_33 rfl (lv_at hl 2 rfl) ?_
      refine hw_iald hx hb hK hP 1 0 rfl rfl (j := cx) (by omega) (by first | decide | omega) (v := nI (MA cx)) ((hM.2.1 cx (by omega)).1) dX4_begun_34 ?_
      refine hw_iadd hx hb dX4_begun_35 ?_
      refine hw_icmp_ge hx hb (by omega) (by omega) dX4_begun_36 rfl (fun hc2 => ?_) (fun hc2 => absurd hc2 (by omega))
      refine lv_iconst (v := nI 1) hx hb dX4_begun_117 (by decide) ?_
      rw [show px = MA cx by omega] at hg
      exact W.zret (v := nI 1) hx hb hr (by decide +kernel) (fun t9 ht9 hW9 => ⟨⟨_, (C2, N2, R2), rfl, ⟨Or.inl ⟨rfl, hg.1⟩, fun _ => ⟨CA, hg⟩⟩, by show va_P D vwCl [(y0, .inr (4, [.int cd, .ref y1, .ref y2, .ref y3, .ref y4, .ref y5, .ref y6, .ref y7, .ref y8, .ref y9, .ref ya, .ref yb, .ref yc, .ref yd, .ref ye, .int md, .int o1, .int o2, .int mo, .ref yf, .ref yg, .ref yh])), (y3, .inl (cI, 2, .inl My)), (y4, .inl (cI, 10, .inl Fa)), (y5, .inl (cI, 10, .inl Ta)), (y6, .inl (cZ, 10, .inl La)), (y7, .inl (cI, 6, .inl Ga)), (y8, .inl (cZ, 6, .inl C2)), (y9, .inl (cI, 6, .inl N2)), (ya, .inl (cZ, 6, .inl R2))] t9.heap; rw [ht9]; exact hP⟩, hS.F ht9⟩) hS.2.2 dX4_begun_118
    | succ k2 ih2 =>
      refine lv_iload_n hx hb dX4_begun_25 rfl (lv_at hl 0 rfl) ?_
      refine lv_iconst (v := nI 5) hx hb dX4_begun_26 (by decide) ?_
      refine lv_iload_n hx hb dX4_begun_27 rfl (lv_at hl 2 rfl) ?_
      refine hw_imul hx hb dX4_begun_28 ?_
      refine lv_aload_n hx hb dX4_begun_29 rfl (lv_at hl 1 rfl) ?_
      refine va_get (D := D) (ci := 4) (v := .ref y3) (C := RX4) (T := TX4) (N := 22) hx hb htg hi_X4 hown hK hP 0 rfl rfl 3 (by decide) (htg _ hm_499) (fun _ h9 => h9) rfl dX4_begun_30 ?_
      refine lv_iload_n hx hb dX4_begun_33 rfl (lv_at hl 2 rfl) ?_
      refine hw_iald hx hb hK hP 1 0 rfl rfl (j := cx) (by omega) (by first | decide | omega) (v := nI (MA cx)) ((hM.2.1 cx (by omega)).1) dX4_begun_34 ?_
      refine hw_iadd hx hb dX4_begun_35 ?_
      refine hw_icmp_ge hx hb (by omega) (by omega) dX4_begun_36 rfl (fun hc2 => absurd hc2 (by omega)) (fun hc2 => ?_)
      obtain ⟨f1, f2, f3, f4, f5⟩ := hM.2.2 (5 * cx + px) (by omega)
      have hvf := hv _ f2
      have hvt := hv _ f4
      refine lv_aload_n hx hb dX4_begun_39 rfl (lv_at hl 1 rfl) ?_
      refine va_get (D := D) (ci := 4) (v := .ref y7) (C := RX4) (T := TX4) (N := 22) hx hb htg hi_X4 hown hK hP 0 rfl rfl 7 (by decide) (htg _ hm_503) (fun _ h9 => h9) rfl dX4_begun_40 ?_
      refine lv_aload_n hx hb dX4_begun_43 rfl (lv_at hl 1 rfl) ?_
      refine va_get (D := D) (ci := 4) (v := .ref y4) (C := RX4) (T := TX4) (N := 22) hx hb htg hi_X4 hown hK hP 0 rfl rfl 4 (by decide) (htg _ hm_500) (fun _ h9 => h9) rfl dX4_begun_44 ?_
      refine lv_iload_n hx hb dX4_begun_47 rfl (lv_at hl 0 rfl) ?_
      refine hw_iald hx hb hK hP 2 0 rfl rfl (j := (5 * cx + px)) (by omega) (by first | decide | omega) (v := nI (FA (5 * cx + px))) ((hM.2.2 (5 * cx + px) (by omega)).1) dX4_begun_48 ?_
      refine hw_iald hx hb hK hP 5 0 rfl rfl (j := (FA (5 * cx + px))) (by omega) (by first | decide | omega) (v := nI (v (FA (5 * cx + px)))) (hG (FA (5 * cx + px)) (by first | omega | assumption)) dX4_begun_49 ?_
      refine lv_istore_n hx hb dX4_begun_50 rfl hl (by decide) rfl (fun ls hl => ?_)
      replace hl : lv_has ls 4 [(3, .int (nI (v (FA (5 * cx + px))))), (2, .int (nI (5 * cx + px))), (0, .ref y0), (1, .int (nI cx))] := hl
      refine lv_aload_n hx hb dX4_begun_51 rfl (lv_at hl 2 rfl) ?_
      refine lv_iload_n hx hb dX4_begun_52 rfl (lv_at hl 1 rfl) ?_
      refine hw_csi (va_runV (C := RX4) (b := y0) (As := [.int (nI (5 * cx + px))]) (rest := []) ⟨hx, hb, hml, hown, htg⟩ (k_X4_isEmpty l D cI cZ cJ Sa Oa My Fa Ta La SA OA MA FA TA LA v Ga (5 * cx + px) cd md o1 o2 mo y0 y1 y2 y3 y4 y5 y6 y7 y8 y9 ya yb yc yd ye yf yg yh hM hG hv (by omega)) (cwV 1 htg (hg_V hm_609 hm_611 hs_yX4_isEmpty hm_6 hm_612) rfl rfl rfl (by decide +kernel) ⟨Nat.le_of_ble_eq_true rfl, Nat.le_of_ble_eq_true rfl⟩) ⟨hp_R_blind, va_recv (q := (RX4, TX4, 22)) (q0 := 0) (ci := 4) hK hP rfl rfl, hp_R_pre (hP.sub (ws' := [(y0, .inr (4, [.int cd, .ref y1, .ref y2, .ref y3, .ref y4, .ref y5, .ref y6, .ref y7, .ref y8, .ref y9, .ref ya, .ref yb, .ref yc, .ref yd, .ref ye, .int md, .int o1, .int o2, .int mo, .ref yf, .ref yg, .ref yh])), (y4, .inl (cI, 10, .inl Fa)), (y5, .inl (cI, 10, .inl Ta)), (y6, .inl (cZ, 10, .inl La)), (y7, .inl (cI, 6, .inl Ga))]) [0, 2, 3, 4, 5] rfl) hz⟩ rfl rfl hl.1 rfl (lv_room (Nat.le_of_ble_eq_true rfl)) dX4_begun_53 ⟨Nat.zero_le _, Nat.zero_le _⟩) (fun r hq => ?_)
      rcases hq with ⟨rfl, hq⟩ | ⟨rfl, hq⟩
      · refine lv_if_ne hx hb dX4_begun_56 rfl (fun hc2 => ?_) (fun hc2 => absurd hc2 (by decide))
        refine lv_iinc (v := nI (5 * cx + px + 1)) (k := 1) hx hb dX4_begun_111 hl rfl (hw_inc _) (by decide) rfl (fun ls hl => ?_)
        replace hl : lv_has ls 4 [(2, .int (nI (5 * cx + px + 1))), (3, .int (nI (v (FA (5 * cx + px))))), (0, .ref y0), (1, .int (nI cx))] := hl
        refine lv_goto hx hb dX4_begun_114 rfl ?_
        replace hl : lv_has ls 4 [(2, .int (nI (5 * cx + px + 1))), (0, .ref y0), (1, .int (nI cx))] := lv_sub hl [0, 2, 3] rfl
        refine ih2 (px := (px + 1)) (hS := hS) (hl := hl) (hP := hP) (hD := hD) (hg := (hg_skip hg (fun h9 => h9 hq.1 hq.2))) (hpx := (by omega)) (hk2 := (by omega))
      · refine lv_if_ne hx hb dX4_begun_56 rfl (fun hc2 => absurd rfl hc2) (fun hc2 => ?_)
        have hN : hc_N (fun i => v (FA (5 * cx + i))) (fun i => v (TA (5 * cx + i))) (fun i => LA (5 * cx + i)) px := fun h1 h2 => hq ⟨h1, h2⟩
        refine lv_iload_n hx hb dX4_begun_59 rfl (lv_at hl 0 rfl) ?_
        refine lv_aload_n hx hb dX4_begun_60 rfl (lv_at hl 2 rfl) ?_
        refine va_get (D := D) (ci := 4) (v := .ref y7) (C := RX4) (T := TX4) (N := 22) hx hb htg hi_X4 hown hK hP 0 rfl rfl 7 (by decide) (htg _ hm_503) (fun _ h9 => h9) rfl dX4_begun_61 ?_
        refine lv_iconst (v := nI 5) hx hb dX4_begun_64 (by decide) ?_
        refine hw_iald hx hb hK hP 5 0 rfl rfl (j := 5) (by omega) (by first | decide | omega) (v := nI (v 5)) (hG 5 (by first | omega | assumption)) dX4_begun_65 ?_
        refine hw_icmp_eq hx hb (by omega) (by omega) dX4_begun_66 rfl (fun h1 => ?_) (fun h1 => ?_)
        · refine lv_iconst (v := nI 0) hx hb dX4_begun_78 (by decide) ?_
          exact W.zret (v := nI 0) hx hb hr (by decide +kernel) (fun t9 ht9 hW9 => ⟨⟨_, (C2, N2, R2), rfl, ⟨Or.inr ⟨rfl, fun hB => (hB px (by omega) hN).1 h1⟩, fun h9 => absurd h9 (by decide)⟩, by show va_P D vwCl [(y0, .inr (4, [.int cd, .ref y1, .ref y2, .ref y3, .ref y4, .ref y5, .ref y6, .ref y7, .ref y8, .ref y9, .ref ya, .ref yb, .ref yc, .ref yd, .ref ye, .int md, .int o1, .int o2, .int mo, .ref yf, .ref yg, .ref yh])), (y3, .inl (cI, 2, .inl My)), (y4, .inl (cI, 10, .inl Fa)), (y5, .inl (cI, 10, .inl Ta)), (y6, .inl (cZ, 10, .inl La)), (y7, .inl (cI, 6, .inl Ga)), (y8, .inl (cZ, 6, .inl C2)), (y9, .inl (cI, 6, .inl N2)), (ya, .inl (cZ, 6, .inl R2))] t9.heap; rw [ht9]; exact hP⟩, hS.F ht9⟩) hS.2.2 dX4_begun_79
        · refine lv_aload_n hx hb dX4_begun_69 rfl (lv_at hl 2 rfl) ?_
          refine va_get (D := D) (ci := 4) (v := .ref y8) (C := RX4) (T := TX4) (N := 22) hx hb htg hi_X4 hown hK hP 0 rfl rfl 8 (by decide) (htg _ hm_504) (fun _ h9 => h9) rfl dX4_begun_70 ?_
          refine lv_iload_n hx hb dX4_begun_73 rfl (lv_at hl 0 rfl) ?_
          refine hw_zald hx hb hK hP 6 1 rfl rfl (j := (v (FA (5 * cx + px)))) (by omega) (by first | decide | omega) (v := hc_b (CA (v (FA (5 * cx + px))))) (hg.2.1 (v (FA (5 * cx + px))) (by omega)) dX4_begun_74 ?_
          refine hw_ifeq_b hx hb dX4_begun_75 rfl (fun h2 => ?_) (fun h2 => ?_)
          · refine lv_aload_n hx hb dX4_begun_80 rfl (lv_at hl 2 rfl) ?_
            refine va_get (D := D) (ci := 4) (v := .ref y8) (C := RX4) (T := TX4) (N := 22) hx hb htg hi_X4 hown hK hP 0 rfl rfl 8 (by decide) (htg _ hm_504) (fun _ h9 => h9) rfl dX4_begun_81 ?_
            refine lv_iload_n hx hb dX4_begun_84 rfl (lv_at hl 0 rfl) ?_
            refine lv_iconst (v := nI 1) hx hb dX4_begun_85 (by decide) ?_
            refine hw_zast hx hb hK hP hD hS 6 1 rfl rfl (j := (v (FA (5 * cx + px)))) (by omega) (by first | decide | omega) dX4_begun_86 (fun H locs hP hD hS => ?_)
            rw [hw_nar1] at hP hD
            replace hP : va_P D vwCl [(y0, .inr (4, [.int cd, .ref y1, .ref y2, .ref y3, .ref y4, .ref y5, .ref y6, .ref y7, .ref y8, .ref y9, .ref ya, .ref yb, .ref yc, .ref yd, .ref ye, .int md, .int o1, .int o2, .int mo, .ref yf, .ref yg, .ref yh])), (y3, .inl (cI, 2, .inl My)), (y4, .inl (cI, 10, .inl Fa)), (y5, .inl (cI, 10, .inl Ta)), (y6, .inl (cZ, 10, .inl La)), (y7, .inl (cI, 6, .inl Ga)), (y8, .inl (cZ, 6, .inl (upd C2 (v (FA (5 * cx + px))) (hc_b true)))), (y9, .inl (cI, 6, .inl N2)), (ya, .inl (cZ, 6, .inl R2))] H := hP
            replace hD : va_D A [(y0, .inr (4, [.int cd, .ref y1, .ref y2, .ref y3, .ref y4, .ref y5, .ref y6, .ref y7, .ref y8, .ref y9, .ref ya, .ref yb, .ref yc, .ref yd, .ref ye, .int md, .int o1, .int o2, .int mo, .ref yf, .ref yg, .ref yh])), (y3, .inl (cI, 2, .inl My)), (y4, .inl (cI, 10, .inl Fa)), (y5, .inl (cI, 10, .inl Ta)), (y6, .inl (cZ, 10, .inl La)), (y7, .inl (cI, 6, .inl Ga)), (y8, .inl (cZ, 6, .inl (upd C2 (v (FA (5 * cx + px))) (hc_b true)))), (y9, .inl (cI, 6, .inl N2)), (ya, .inl (cZ, 6, .inl R2))] := hD
            refine lv_aload_n hx hb dX4_begun_87 rfl (lv_at hl 2 rfl) ?_
            refine va_get (D := D) (ci := 4) (v := .ref y9) (C := RX4) (T := TX4) (N := 22) hx hb htg hi_X4 hown hK hP 0 rfl rfl 9 (by decide) (htg _ hm_505) (fun _ h9 => h9) rfl dX4_begun_88 ?_
            refine lv_iload_n hx hb dX4_begun_91 rfl (lv_at hl 0 rfl) ?_
            refine lv_aload_n hx hb dX4_begun_92 rfl (lv_at hl 2 rfl) ?_
            refine va_get (D := D) (ci := 4) (v := .ref y7) (C := RX4) (T := TX4) (N := 22) hx hb htg hi_X4 hown hK hP 0 rfl rfl 7 (by decide) (htg _ hm_503) (fun _ h9 => h9) rfl dX4_begun_93 ?_
            refine lv_aload_n hx hb dX4_begun_96 rfl (lv_at hl 2 rfl) ?_
            refine va_get (D := D) (ci := 4) (v := .ref y5) (C := RX4) (T := TX4) (N := 22) hx hb htg hi_X4 hown hK hP 0 rfl rfl 5 (by decide) (htg _ hm_501) (fun _ h9 => h9) rfl dX4_begun_97 ?_
            refine lv_iload_n hx hb dX4_begun_100 rfl (lv_at hl 1 rfl) ?_
            refine hw_iald hx hb hK hP 3 0 rfl rfl (j := (5 * cx + px)) (by omega) (by first | decide | omega) (v := nI (TA (5 * cx + px))) ((hM.2.2 (5 * cx + px) (by omega)).2.2.1) dX4_begun_101 ?_
            refine hw_iald hx hb hK hP 5 0 rfl rfl (j := (TA (5 * cx + px))) (by omega) (by first | decide | omega) (v := nI (v (TA (5 * cx + px)))) (hG (TA (5 * cx + px)) (by first | omega | assumption)) dX4_begun_102 ?_
            refine hw_iast hx hb hK hP hD hS 7 0 rfl rfl (j := (v (FA (5 * cx + px)))) (by omega) (by first | decide | omega) dX4_begun_103 (fun H locs hP hD hS => ?_)
            replace hP : va_P D vwCl [(y0, .inr (4, [.int cd, .ref y1, .ref y2, .ref y3, .ref y4, .ref y5, .ref y6, .ref y7, .ref y8, .ref y9, .ref ya, .ref yb, .ref yc, .ref yd, .ref ye, .int md, .int o1, .int o2, .int mo, .ref yf, .ref yg, .ref yh])), (y3, .inl (cI, 2, .inl My)), (y4, .inl (cI, 10, .inl Fa)), (y5, .inl (cI, 10, .inl Ta)), (y6, .inl (cZ, 10, .inl La)), (y7, .inl (cI, 6, .inl Ga)), (y8, .inl (cZ, 6, .inl (upd C2 (v (FA (5 * cx + px))) (hc_b true)))), (y9, .inl (cI, 6, .inl (upd N2 (v (FA (5 * cx + px))) (nI (v (TA (5 * cx + px))))))), (ya, .inl (cZ, 6, .inl R2))] H := hP
            replace hD : va_D A [(y0, .inr (4, [.int cd, .ref y1, .ref y2, .ref y3, .ref y4, .ref y5, .ref y6, .ref y7, .ref y8, .ref y9, .ref ya, .ref yb, .ref yc, .ref yd, .ref ye, .int md, .int o1, .int o2, .int mo, .ref yf, .ref yg, .ref yh])), (y3, .inl (cI, 2, .inl My)), (y4, .inl (cI, 10, .inl Fa)), (y5, .inl (cI, 10, .inl Ta)), (y6, .inl (cZ, 10, .inl La)), (y7, .inl (cI, 6, .inl Ga)), (y8, .inl (cZ, 6, .inl (upd C2 (v (FA (5 * cx + px))) (hc_b true)))), (y9, .inl (cI, 6, .inl (upd N2 (v (FA (5 * cx + px))) (nI (v (TA (5 * cx + px))))))), (ya, .inl (cZ, 6, .inl R2))] := hD
            refine lv_aload_n hx hb dX4_begun_104 rfl (lv_at hl 2 rfl) ?_
            refine va_get (D := D) (ci := 4) (v := .ref ya) (C := RX4) (T := TX4) (N := 22) hx hb htg hi_X4 hown hK hP 0 rfl rfl 10 (by decide) (htg _ hm_506) (fun _ h9 => h9) rfl dX4_begun_105 ?_
            refine lv_iload_n hx hb dX4_begun_108 rfl (lv_at hl 0 rfl) ?_
            refine lv_iconst (v := nI 0) hx hb dX4_begun_109 (by decide) ?_
            refine hw_zast hx hb hK hP hD hS 8 1 rfl rfl (j := (v (FA (5 * cx + px)))) (by omega) (by first | decide | omega) dX4_begun_110 (fun H locs hP hD hS => ?_)
            rw [hw_nar0] at hP hD
            replace hP : va_P D vwCl [(y0, .inr (4, [.int cd, .ref y1, .ref y2, .ref y3, .ref y4, .ref y5, .ref y6, .ref y7, .ref y8, .ref y9, .ref ya, .ref yb, .ref yc, .ref yd, .ref ye, .int md, .int o1, .int o2, .int mo, .ref yf, .ref yg, .ref yh])), (y3, .inl (cI, 2, .inl My)), (y4, .inl (cI, 10, .inl Fa)), (y5, .inl (cI, 10, .inl Ta)), (y6, .inl (cZ, 10, .inl La)), (y7, .inl (cI, 6, .inl Ga)), (y8, .inl (cZ, 6, .inl (upd C2 (v (FA (5 * cx + px))) (hc_b true)))), (y9, .inl (cI, 6, .inl (upd N2 (v (FA (5 * cx + px))) (nI (v (TA (5 * cx + px))))))), (ya, .inl (cZ, 6, .inl (upd R2 (v (FA (5 * cx + px))) (hc_b false))))] H := hP
            replace hD : va_D A [(y0, .inr (4, [.int cd, .ref y1, .ref y2, .ref y3, .ref y4, .ref y5, .ref y6, .ref y7, .ref y8, .ref y9, .ref ya, .ref yb, .ref yc, .ref yd, .ref ye, .int md, .int o1, .int o2, .int mo, .ref yf, .ref yg, .ref yh])), (y3, .inl (cI, 2, .inl My)), (y4, .inl (cI, 10, .inl Fa)), (y5, .inl (cI, 10, .inl Ta)), (y6, .inl (cZ, 10, .inl La)), (y7, .inl (cI, 6, .inl Ga)), (y8, .inl (cZ, 6, .inl (upd C2 (v (FA (5 * cx + px))) (hc_b true)))), (y9, .inl (cI, 6, .inl (upd N2 (v (FA (5 * cx + px))) (nI (v (TA (5 * cx + px))))))), (ya, .inl (cZ, 6, .inl (upd R2 (v (FA (5 * cx + px))) (hc_b false))))] := hD
            refine lv_iinc (v := nI (5 * cx + px + 1)) (k := 1) hx hb dX4_begun_111 hl rfl (hw_inc _) (by decide) rfl (fun ls hl => ?_)
            replace hl : lv_has ls 4 [(2, .int (nI (5 * cx + px + 1))), (3, .int (nI (v (FA (5 * cx + px))))), (0, .ref y0), (1, .int (nI cx))] := hl
            refine lv_goto hx hb dX4_begun_114 rfl ?_
            replace hl : lv_has ls 4 [(2, .int (nI (5 * cx + px + 1))), (0, .ref y0), (1, .int (nI cx))] := lv_sub hl [0, 2, 3] rfl
            refine ih2 (px := (px + 1)) (hS := hS) (hl := hl) (hP := hP) (hD := hD) (hg := (hg_set hg hN h1 hvf h2)) (hpx := (by omega)) (hk2 := (by omega))
          · refine lv_iconst (v := nI 0) hx hb dX4_begun_78 (by decide) ?_
            exact W.zret (v := nI 0) hx hb hr (by decide +kernel) (fun t9 ht9 hW9 => ⟨⟨_, (C2, N2, R2), rfl, ⟨Or.inr ⟨rfl, hg_no hg (by omega) hN hvf h2⟩, fun h9 => absurd h9 (by decide)⟩, by show va_P D vwCl [(y0, .inr (4, [.int cd, .ref y1, .ref y2, .ref y3, .ref y4, .ref y5, .ref y6, .ref y7, .ref y8, .ref y9, .ref ya, .ref yb, .ref yc, .ref yd, .ref ye, .int md, .int o1, .int o2, .int mo, .ref yf, .ref yg, .ref yh])), (y3, .inl (cI, 2, .inl My)), (y4, .inl (cI, 10, .inl Fa)), (y5, .inl (cI, 10, .inl Ta)), (y6, .inl (cZ, 10, .inl La)), (y7, .inl (cI, 6, .inl Ga)), (y8, .inl (cZ, 6, .inl C2)), (y9, .inl (cI, 6, .inl N2)), (ya, .inl (cZ, 6, .inl R2))] t9.heap; rw [ht9]; exact hP⟩, hS.F ht9⟩) hS.2.2 dX4_begun_79
  | succ k ih =>
    refine lv_iload_n hx hb dX4_begun_2 rfl (lv_at hl 0 rfl) ?_
    refine lv_bipush (v := nI 6) hx hb dX4_begun_3 (by decide) ?_
    refine hw_icmp_ge hx hb (by omega) (by omega) dX4_begun_5 rfl (fun hc => absurd hc (by omega)) (fun hc => ?_)
    refine lv_aload_n hx hb dX4_begun_8 rfl (lv_at hl 1 rfl) ?_
    refine va_get (D := D) (ci := 4) (v := .ref y8) (C := RX4) (T := TX4) (N := 22) hx hb htg hi_X4 hown hK hP 0 rfl rfl 8 (by decide) (htg _ hm_504) (fun _ h9 => h9) rfl dX4_begun_9 ?_
    refine lv_iload_n hx hb dX4_begun_12 rfl (lv_at hl 0 rfl) ?_
    refine lv_iconst (v := nI 0) hx hb dX4_begun_13 (by decide) ?_
    refine hw_zast hx hb hK hP hD hS 6 1 rfl rfl (j := t) (by omega) (by first | decide | omega) dX4_begun_14 (fun H locs hP hD hS => ?_)
    rw [hw_nar0] at hP hD
    replace hP : va_P D vwCl [(y0, .inr (4, [.int cd, .ref y1, .ref y2, .ref y3, .ref y4, .ref y5, .ref y6, .ref y7, .ref y8, .ref y9, .ref ya, .ref yb, .ref yc, .ref yd, .ref ye, .int md, .int o1, .int o2, .int mo, .ref yf, .ref yg, .ref yh])), (y3, .inl (cI, 2, .inl My)), (y4, .inl (cI, 10, .inl Fa)), (y5, .inl (cI, 10, .inl Ta)), (y6, .inl (cZ, 10, .inl La)), (y7, .inl (cI, 6, .inl Ga)), (y8, .inl (cZ, 6, .inl (upd C1 t (hc_b false)))), (y9, .inl (cI, 6, .inl Na)), (ya, .inl (cZ, 6, .inl Ra))] H := hP
    replace hD : va_D A [(y0, .inr (4, [.int cd, .ref y1, .ref y2, .ref y3, .ref y4, .ref y5, .ref y6, .ref y7, .ref y8, .ref y9, .ref ya, .ref yb, .ref yc, .ref yd, .ref ye, .int md, .int o1, .int o2, .int mo, .ref yf, .ref yg, .ref yh])), (y3, .inl (cI, 2, .inl My)), (y4, .inl (cI, 10, .inl Fa)), (y5, .inl (cI, 10, .inl Ta)), (y6, .inl (cZ, 10, .inl La)), (y7, .inl (cI, 6, .inl Ga)), (y8, .inl (cZ, 6, .inl (upd C1 t (hc_b false)))), (y9, .inl (cI, 6, .inl Na)), (ya, .inl (cZ, 6, .inl Ra))] := hD
    refine lv_iinc (v := nI (t + 1)) (k := 0) hx hb dX4_begun_15 hl rfl (hw_inc _) (by decide) rfl (fun ls hl => ?_)
    replace hl : lv_has ls 4 [(2, .int (nI (t + 1))), (0, .ref y0), (1, .int (nI cx))] := hl
    refine lv_goto hx hb dX4_begun_18 rfl ?_
    refine ih (hS := hS) (hl := hl) (hP := hP) (hD := hD) (hC1 := (fun j hj => ?_)) (ht6 := (by omega)) (hk := (by omega))
    unfold upd
    by_cases hjt : j = t
    · rw [if_pos hjt]
    · rw [if_neg hjt]; exact hC1 j (by omega)

set_option maxHeartbeats 4000000 in
set_option maxRecDepth 100000 in
/-- a piece takes its cells -/
theorem k_X4_takes (l : Launch) (D : va_G) (cI cZ cJ : ClassId) (sz : Nat) (Sa Oa My Fa Ta La : Nat → Int32) (SA OA : Nat → Bool) (MA FA TA : Nat → Nat) (LA : Nat → Bool) (v : Nat → Nat) (Ga : Nat → Int32) (Ca Na Ra Ka : Nat → Int32) (nx : Nat → Option Nat) (lg T : Nat → Bool) (px : Nat) (cd md o1 o2 mo : Int32) (y0 y1 y2 y3 y4 y5 y6 y7 y8 y9 ya yb yc yd ye yf yg yh : Nat) (hM : hr_m Sa Oa My Fa Ta La SA OA MA FA TA LA) (hG : ∀ j, j < 6 → Ga j = nI (v j)) (hv : ∀ j, j < 6 → v j < 6) (hN : hk_N Ca Na Ra nx lg) (hT : ∀ j, j < 6 → Ka j = hc_b (T j)) (hp : px < 10) : Met l yX4_takes (Cond.code yX4_takes cX4_takes 4 (some .boolean) :: hwG) { frames := 0, cells := 0, slots := 0, locals := 0 } (hp_M [.ref y0, .int (nI px)] D cI cZ cJ [(y0, .inr (4, [.int cd, .ref y1, .ref y2, .ref y3, .ref y4, .ref y5, .ref y6, .ref y7, .ref y8, .ref y9, .ref ya, .ref yb, .ref yc, .ref yd, .ref ye, .int md, .int o1, .int o2, .int mo, .ref yf, .ref yg, .ref yh])), (y4, .inl (cI, 10, .inl Fa)), (y5, .inl (cI, 10, .inl Ta)), (y6, .inl (cZ, 10, .inl La)), (y7, .inl (cI, 6, .inl Ga)), (y8, .inl (cZ, 6, .inl Ca)), (y9, .inl (cI, 6, .inl Na)), (ya, .inl (cZ, 6, .inl Ra)), (yb, .inl (cZ, 6, .inl Ka))] sz) (va_Qi (S := Nat → Int32) (fun r u => (r = nI 1 ∧ ∃ (l : List Nat) (T2 : Nat → Bool), hc_pp nx lg (v (FA px)) (v (TA px)) (LA px) l ∧ (∀ a, a ∈ l → T a = false) ∧ (∀ j, j < 6 → u j = hc_b (T2 j)) ∧ ∀ j, j < 6 → T2 j = (T j || decide (j ∈ l))) ∨ (r = nI 0 ∧ ¬ ∃ l, hc_pp nx lg (v (FA px)) (v (TA px)) (LA px) l ∧ ∀ a, a ∈ l → T a = false)) (fun u t => va_P D vwCl ([(y0, .inr (4, [.int cd, .ref y1, .ref y2, .ref y3, .ref y4, .ref y5, .ref y6, .ref y7, .ref y8, .ref y9, .ref ya, .ref yb, .ref yc, .ref yd, .ref ye, .int md, .int o1, .int o2, .int mo, .ref yf, .ref yg, .ref yh])), (y4, .inl (cI, 10, .inl Fa)), (y5, .inl (cI, 10, .inl Ta)), (y6, .inl (cZ, 10, .inl La)), (y7, .inl (cI, 6, .inl Ga)), (y8, .inl (cZ, 6, .inl Ca)), (y9, .inl (cI, 6, .inl Na)), (ya, .inl (cZ, 6, .inl Ra)), (yb, .inl (cZ, 6, .inl u))]) t.heap) (va_A [(y0, .inr (4, [.int cd, .ref y1, .ref y2, .ref y3, .ref y4, .ref y5, .ref y6, .ref y7, .ref y8, .ref y9, .ref ya, .ref yb, .ref yc, .ref yd, .ref ye, .int md, .int o1, .int o2, .int mo, .ref yf, .ref yg, .ref yh])), (y4, .inl (cI, 10, .inl Fa)), (y5, .inl (cI, 10, .inl Ta)), (y6, .inl (cZ, 10, .inl La)), (y7, .inl (cI, 6, .inl Ga)), (y8, .inl (cZ, 6, .inl Ca)), (y9, .inl (cI, 6, .inl Na)), (ya, .inl (cZ, 6, .inl Ra)), (yb, .inl (cZ, 6, .inl Ka))] sz)) 0 0 (va_A [(y0, .inr (4, [.int cd, .ref y1, .ref y2, .ref y3, .ref y4, .ref y5, .ref y6, .ref y7, .ref y8, .ref y9, .ref ya, .ref yb, .ref yc, .ref yd, .ref ye, .int md, .int o1, .int o2, .int mo, .ref yf, .ref yg, .ref yh])), (y4, .inl (cI, 10, .inl Fa)), (y5, .inl (cI, 10, .inl Ta)), (y6, .inl (cZ, 10, .inl La)), (y7, .inl (cI, 6, .inl Ga)), (y8, .inl (cZ, 6, .inl Ca)), (y9, .inl (cI, 6, .inl Na)), (ya, .inl (cZ, 6, .inl Ra)), (yb, .inl (cZ, 6, .inl Ka))] sz) := by
  refine Met.ofW (cc := cX4_takes) (maxL := 4) (ret := (some .boolean)) (by decide) rfl ?_
  intro p e s m args below meth c s₁ B hml hv
  obtain ⟨rfl, hsz, hP, hz, hD0⟩ := hv
  have hx := B.exec
  have hb := B.bytes
  have hr := B.returns
  have hts := atoms_spec (ws := (Cond.code yX4_takes cX4_takes 4 (some .boolean) :: hwG)) B.pre
  have htg := fun w h => hts w (List.mem_cons_of_mem _ h)
  have hown : s.vm.findClass RX4 = some m.cls := findClass_of_methodNamed B.named
  have hlocks := B.notSynchronized
  have hK := hz.1
  subst hsz
  have hD := hD0.self (sz := s.heap.size)
  generalize hAe : va_A [(y0, .inr (4, [.int cd, .ref y1, .ref y2, .ref y3, .ref y4, .ref y5, .ref y6, .ref y7, .ref y8, .ref y9, .ref ya, .ref yb, .ref yc, .ref yd, .ref ye, .int md, .int o1, .int o2, .int mo, .ref yf, .ref yg, .ref yh])), (y4, .inl (cI, 10, .inl Fa)), (y5, .inl (cI, 10, .inl Ta)), (y6, .inl (cZ, 10, .inl La)), (y7, .inl (cI, 6, .inl Ga)), (y8, .inl (cZ, 6, .inl Ca)), (y9, .inl (cI, 6, .inl Na)), (ya, .inl (cZ, 6, .inl Ra)), (yb, .inl (cZ, 6, .inl Ka))] s.heap.size = A at hD ⊢
  have hA : ∀ q : Nat, s.heap.size ≤ q → A q := fun q h => by rw [← hAe]; exact Or.inr h
  have hS : va_S A s.heap s.heap [] := va_S.rf
  have hl := lv_entry ([.ref y0, .int (nI px)]) (n := 4) (Nat.le_of_ble_eq_true rfl)
  rw [lg_entry_eq]
  generalize (lg_sl ([.ref y0, .int (nI px)]) ++ List.replicate (4 - (lg_sl ([.ref y0, .int (nI px)])).length) Slot.unset).toArray = ls at hl ⊢
  replace hl : lv_has ls 4 [(0, .ref y0), (1, .int (nI px))] := hl
  replace hP : va_P D vwCl [(y0, .inr (4, [.int cd, .ref y1, .ref y2, .ref y3, .ref y4, .ref y5, .ref y6, .ref y7, .ref y8, .ref y9, .ref ya, .ref yb, .ref yc, .ref yd, .ref ye, .int md, .int o1, .int o2, .int mo, .ref yf, .ref yg, .ref yh])), (y4, .inl (cI, 10, .inl Fa)), (y5, .inl (cI, 10, .inl Ta)), (y6, .inl (cZ, 10, .inl La)), (y7, .inl (cI, 6, .inl Ga)), (y8, .inl (cZ, 6, .inl Ca)), (y9, .inl (cI, 6, .inl Na)), (ya, .inl (cZ, 6, .inl Ra)), (yb, .inl (cZ, 6, .inl Ka))] s.heap := hP
  obtain ⟨f1, f2, f3, f4, f5⟩ := hM.2.2 px hp
  have hvf := hv _ f2
  have hvt := hv _ f4
  refine lv_aload_n hx hb dX4_takes_0 rfl (lv_at hl 0 rfl) ?_
  refine va_get (D := D) (ci := 4) (v := .ref y7) (C := RX4) (T := TX4) (N := 22) hx hb htg hi_X4 hown hK hP 0 rfl rfl 7 (by decide) (htg _ hm_503) (fun _ h9 => h9) rfl dX4_takes_1 ?_
  refine lv_aload_n hx hb dX4_takes_4 rfl (lv_at hl 0 rfl) ?_
  refine va_get (D := D) (ci := 4) (v := .ref y4) (C := RX4) (T := TX4) (N := 22) hx hb htg hi_X4 hown hK hP 0 rfl rfl 4 (by decide) (htg _ hm_500) (fun _ h9 => h9) rfl dX4_takes_5 ?_
  refine lv_iload_n hx hb dX4_takes_8 rfl (lv_at hl 1 rfl) ?_
  refine hw_iald hx hb hK hP 1 0 rfl rfl (j := px) (by omega) (by first | decide | omega) (v := nI (FA px)) ((hM.2.2 px (by omega)).1) dX4_takes_9 ?_
  refine hw_iald hx hb hK hP 4 0 rfl rfl (j := (FA px)) (by omega) (by first | decide | omega) (v := nI (v (FA px))) (hG (FA px) (by first | omega | assumption)) dX4_takes_10 ?_
  refine lv_istore_n hx hb dX4_takes_11 rfl hl (by decide) rfl (fun ls hl => ?_)
  replace hl : lv_has ls 4 [(2, .int (nI (v (FA px)))), (0, .ref y0), (1, .int (nI px))] := hl
  refine lv_aload_n hx hb dX4_takes_12 rfl (lv_at hl 1 rfl) ?_
  refine va_get (D := D) (ci := 4) (v := .ref y7) (C := RX4) (T := TX4) (N := 22) hx hb htg hi_X4 hown hK hP 0 rfl rfl 7 (by decide) (htg _ hm_503) (fun _ h9 => h9) rfl dX4_takes_13 ?_
  refine lv_aload_n hx hb dX4_takes_16 rfl (lv_at hl 1 rfl) ?_
  refine va_get (D := D) (ci := 4) (v := .ref y5) (C := RX4) (T := TX4) (N := 22) hx hb htg hi_X4 hown hK hP 0 rfl rfl 5 (by decide) (htg _ hm_501) (fun _ h9 => h9) rfl dX4_takes_17 ?_
  refine lv_iload_n hx hb dX4_takes_20 rfl (lv_at hl 2 rfl) ?_
  refine hw_iald hx hb hK hP 2 0 rfl rfl (j := px) (by omega) (by first | decide | omega) (v := nI (TA px)) ((hM.2.2 px (by omega)).2.2.1) dX4_takes_21 ?_
  refine hw_iald hx hb hK hP 4 0 rfl rfl (j := (TA px)) (by omega) (by first | decide | omega) (v := nI (v (TA px))) (hG (TA px) (by first | omega | assumption)) dX4_takes_22 ?_
  refine lv_istore_n hx hb dX4_takes_23 rfl hl (by decide) rfl (fun ls hl => ?_)
  replace hl : lv_has ls 4 [(3, .int (nI (v (TA px)))), (2, .int (nI (v (FA px)))), (0, .ref y0), (1, .int (nI px))] := hl
  refine lv_aload_n hx hb dX4_takes_24 rfl (lv_at hl 2 rfl) ?_
  refine va_get (D := D) (ci := 4) (v := .ref y6) (C := RX4) (T := TX4) (N := 22) hx hb htg hi_X4 hown hK hP 0 rfl rfl 6 (by decide) (htg _ hm_502) (fun _ h9 => h9) rfl dX4_takes_25 ?_
  refine lv_iload_n hx hb dX4_takes_28 rfl (lv_at hl 3 rfl) ?_
  refine hw_zald hx hb hK hP 3 1 rfl rfl (j := px) (by omega) (by first | decide | omega) (v := hc_b (LA px)) ((hM.2.2 px (by omega)).2.2.2.2) dX4_takes_29 ?_
  refine hw_ifne_b hx hb dX4_takes_30 rfl (fun hI => ?_) (fun hI => ?_)
  · obtain ⟨H, e_H⟩ : ∃ z : Heap, z = s.heap := ⟨_, rfl⟩
    obtain ⟨locs, e_locs⟩ : ∃ z : List Loc, z = [] := ⟨_, rfl⟩
    replace hP : va_P D vwCl [(y0, .inr (4, [.int cd, .ref y1, .ref y2, .ref y3, .ref y4, .ref y5, .ref y6, .ref y7, .ref y8, .ref y9, .ref ya, .ref yb, .ref yc, .ref yd, .ref ye, .int md, .int o1, .int o2, .int mo, .ref yf, .ref yg, .ref yh])), (y4, .inl (cI, 10, .inl Fa)), (y5, .inl (cI, 10, .inl Ta)), (y6, .inl (cZ, 10, .inl La)), (y7, .inl (cI, 6, .inl Ga)), (y8, .inl (cZ, 6, .inl Ca)), (y9, .inl (cI, 6, .inl Na)), (ya, .inl (cZ, 6, .inl Ra)), (yb, .inl (cZ, 6, .inl Ka))] H := by subst e_H; exact hP
    replace hS : va_S A s.heap H locs := by subst e_H e_locs; exact hS
    rw [← e_H, ← e_locs]
    clear e_H e_locs
    obtain ⟨gg, e_gg⟩ : ∃ z : Nat, z = v (FA px) := ⟨_, rfl⟩
    obtain ⟨T1, e_T1⟩ : ∃ z : Nat → Bool, z = T := ⟨_, rfl⟩
    obtain ⟨K1, e_K1⟩ : ∃ z : Nat → Int32, z = Ka := ⟨_, rfl⟩
    replace hl : lv_has ls 4 [(3, .int (nI (v (TA px)))), (2, .int (nI gg)), (0, .ref y0), (1, .int (nI px))] := by subst e_gg e_T1 e_K1; exact hl
    replace hP : va_P D vwCl [(y0, .inr (4, [.int cd, .ref y1, .ref y2, .ref y3, .ref y4, .ref y5, .ref y6, .ref y7, .ref y8, .ref y9, .ref ya, .ref yb, .ref yc, .ref yd, .ref ye, .int md, .int o1, .int o2, .int mo, .ref yf, .ref yg, .ref yh])), (y4, .inl (cI, 10, .inl Fa)), (y5, .inl (cI, 10, .inl Ta)), (y6, .inl (cZ, 10, .inl La)), (y7, .inl (cI, 6, .inl Ga)), (y8, .inl (cZ, 6, .inl Ca)), (y9, .inl (cI, 6, .inl Na)), (ya, .inl (cZ, 6, .inl Ra)), (yb, .inl (cZ, 6, .inl K1))] H := by subst e_gg e_T1 e_K1; exact hP
    replace hD : va_D A [(y0, .inr (4, [.int cd, .ref y1, .ref y2, .ref y3, .ref y4, .ref y5, .ref y6, .ref y7, .ref y8, .ref y9, .ref ya, .ref yb, .ref yc, .ref yd, .ref ye, .int md, .int o1, .int o2, .int mo, .ref yf, .ref yg, .ref yh])), (y4, .inl (cI, 10, .inl Fa)), (y5, .inl (cI, 10, .inl Ta)), (y6, .inl (cZ, 10, .inl La)), (y7, .inl (cI, 6, .inl Ga)), (y8, .inl (cZ, 6, .inl Ca)), (y9, .inl (cI, 6, .inl Na)), (ya, .inl (cZ, 6, .inl Ra)), (yb, .inl (cZ, 6, .inl K1))] := by subst e_gg e_T1 e_K1; exact hD
    have hi : hk_I nx (v (TA px)) T T1 (v (FA px)) gg := by subst e_gg e_T1 e_K1; exact hk_I0
    have hK1 : ∀ j, j < 6 → K1 j = hc_b (T1 j) := by subst e_gg e_T1 e_K1; exact hT
    have hg6 : gg < 6 := by subst e_gg e_T1 e_K1; exact hvf
    clear e_gg e_T1 e_K1
    obtain ⟨k, hk⟩ : ∃ k : Nat, k = hk_c T1 + 1 := ⟨_, rfl⟩
    induction k generalizing gg T1 K1 ls H locs  with
    | zero =>
      omega
    | succ k ih =>
      refine lv_iload_n hx hb dX4_takes_81 rfl (lv_at hl 1 rfl) ?_
      refine lv_iload_n hx hb dX4_takes_82 rfl (lv_at hl 0 rfl) ?_
      refine hw_icmp_eq hx hb (by omega) (by omega) dX4_takes_83 rfl (fun hc => ?_) (fun hc => ?_)
      · rw [hc] at hi
        refine lv_iconst (v := nI 1) hx hb dX4_takes_123 (by decide) ?_
        exact W.zret (v := nI 1) hx hb hr (by decide +kernel) (fun t9 ht9 hW9 => ⟨⟨_, K1, rfl, Or.inl ⟨rfl, by obtain ⟨l9, h1, h2, h3⟩ := hk_Ie hi; exact ⟨l9, T1, ⟨fun _ => h1, fun q => absurd (hI.symm.trans q) (by decide)⟩, h2, hK1, fun j _ => h3 j⟩⟩, by show va_P D vwCl [(y0, .inr (4, [.int cd, .ref y1, .ref y2, .ref y3, .ref y4, .ref y5, .ref y6, .ref y7, .ref y8, .ref y9, .ref ya, .ref yb, .ref yc, .ref yd, .ref ye, .int md, .int o1, .int o2, .int mo, .ref yf, .ref yg, .ref yh])), (y4, .inl (cI, 10, .inl Fa)), (y5, .inl (cI, 10, .inl Ta)), (y6, .inl (cZ, 10, .inl La)), (y7, .inl (cI, 6, .inl Ga)), (y8, .inl (cZ, 6, .inl Ca)), (y9, .inl (cI, 6, .inl Na)), (ya, .inl (cZ, 6, .inl Ra)), (yb, .inl (cZ, 6, .inl K1))] t9.heap; rw [ht9]; exact hP⟩, hS.F ht9⟩) hS.2.2 dX4_takes_124
      · cases hn : nx gg with
        | none =>
          refine lv_aload_n hx hb dX4_takes_86 rfl (lv_at hl 2 rfl) ?_
          refine va_get (D := D) (ci := 4) (v := .ref y8) (C := RX4) (T := TX4) (N := 22) hx hb htg hi_X4 hown hK hP 0 rfl rfl 8 (by decide) (htg _ hm_504) (fun _ h9 => h9) rfl dX4_takes_87 ?_
          refine lv_iload_n hx hb dX4_takes_90 rfl (lv_at hl 1 rfl) ?_
          refine hw_zald hx hb hK hP 5 1 rfl rfl (j := gg) (by omega) (by first | decide | omega) (v := hc_b false) ((hN.2 _ hg6).1 hn) dX4_takes_91 ?_
          refine hw_ifeq_b hx hb dX4_takes_92 rfl (fun hc9 => ?_) (fun hc9 => absurd hc9 (by decide))
          refine lv_iconst (v := nI 0) hx hb dX4_takes_104 (by decide) ?_
          exact W.zret (v := nI 0) hx hb hr (by decide +kernel) (fun t9 ht9 hW9 => ⟨⟨_, K1, rfl, Or.inr ⟨rfl, fun ⟨l9, h1, h2⟩ => hk_In hi hc (fun z hz => by rw [hn] at hz; cases hz) ⟨l9, h1.1 hI, h2⟩⟩, by show va_P D vwCl [(y0, .inr (4, [.int cd, .ref y1, .ref y2, .ref y3, .ref y4, .ref y5, .ref y6, .ref y7, .ref y8, .ref y9, .ref ya, .ref yb, .ref yc, .ref yd, .ref ye, .int md, .int o1, .int o2, .int mo, .ref yf, .ref yg, .ref yh])), (y4, .inl (cI, 10, .inl Fa)), (y5, .inl (cI, 10, .inl Ta)), (y6, .inl (cZ, 10, .inl La)), (y7, .inl (cI, 6, .inl Ga)), (y8, .inl (cZ, 6, .inl Ca)), (y9, .inl (cI, 6, .inl Na)), (ya, .inl (cZ, 6, .inl Ra)), (yb, .inl (cZ, 6, .inl K1))] t9.heap; rw [ht9]; exact hP⟩, hS.F ht9⟩) hS.2.2 dX4_takes_105
        | some zz =>
          obtain ⟨c1, c2, c3, c4⟩ := (hN.2 _ hg6).2 zz hn
          refine lv_aload_n hx hb dX4_takes_86 rfl (lv_at hl 2 rfl) ?_
          refine va_get (D := D) (ci := 4) (v := .ref y8) (C := RX4) (T := TX4) (N := 22) hx hb htg hi_X4 hown hK hP 0 rfl rfl 8 (by decide) (htg _ hm_504) (fun _ h9 => h9) rfl dX4_takes_87 ?_
          refine lv_iload_n hx hb dX4_takes_90 rfl (lv_at hl 1 rfl) ?_
          refine hw_zald hx hb hK hP 5 1 rfl rfl (j := gg) (by omega) (by first | decide | omega) (v := hc_b true) (c1) dX4_takes_91 ?_
          refine hw_ifeq_b hx hb dX4_takes_92 rfl (fun hc9 => absurd hc9 (by decide)) (fun hc9 => ?_)
          refine lv_aload_n hx hb dX4_takes_95 rfl (lv_at hl 2 rfl) ?_
          refine va_get (D := D) (ci := 4) (v := .ref yb) (C := RX4) (T := TX4) (N := 22) hx hb htg hi_X4 hown hK hP 0 rfl rfl 11 (by decide) (htg _ hm_507) (fun _ h9 => h9) rfl dX4_takes_96 ?_
          refine lv_iload_n hx hb dX4_takes_99 rfl (lv_at hl 1 rfl) ?_
          refine hw_zald hx hb hK hP 8 1 rfl rfl (j := gg) (by omega) (by first | decide | omega) (v := hc_b (T1 gg)) (hK1 gg (by omega)) dX4_takes_100 ?_
          refine hw_ifeq_b hx hb dX4_takes_101 rfl (fun ht1 => ?_) (fun ht1 => ?_)
          · refine lv_aload_n hx hb dX4_takes_106 rfl (lv_at hl 2 rfl) ?_
            refine va_get (D := D) (ci := 4) (v := .ref yb) (C := RX4) (T := TX4) (N := 22) hx hb htg hi_X4 hown hK hP 0 rfl rfl 11 (by decide) (htg _ hm_507) (fun _ h9 => h9) rfl dX4_takes_107 ?_
            refine lv_iload_n hx hb dX4_takes_110 rfl (lv_at hl 1 rfl) ?_
            refine lv_iconst (v := nI 1) hx hb dX4_takes_111 (by decide) ?_
            refine hw_zast hx hb hK hP hD hS 8 1 rfl rfl (j := gg) (by omega) (by first | decide | omega) dX4_takes_112 (fun H locs hP hD hS => ?_)
            rw [hw_nar1] at hP hD
            replace hP : va_P D vwCl [(y0, .inr (4, [.int cd, .ref y1, .ref y2, .ref y3, .ref y4, .ref y5, .ref y6, .ref y7, .ref y8, .ref y9, .ref ya, .ref yb, .ref yc, .ref yd, .ref ye, .int md, .int o1, .int o2, .int mo, .ref yf, .ref yg, .ref yh])), (y4, .inl (cI, 10, .inl Fa)), (y5, .inl (cI, 10, .inl Ta)), (y6, .inl (cZ, 10, .inl La)), (y7, .inl (cI, 6, .inl Ga)), (y8, .inl (cZ, 6, .inl Ca)), (y9, .inl (cI, 6, .inl Na)), (ya, .inl (cZ, 6, .inl Ra)), (yb, .inl (cZ, 6, .inl (upd K1 gg (hc_b true))))] H := hP
            replace hD : va_D A [(y0, .inr (4, [.int cd, .ref y1, .ref y2, .ref y3, .ref y4, .ref y5, .ref y6, .ref y7, .ref y8, .ref y9, .ref ya, .ref yb, .ref yc, .ref yd, .ref ye, .int md, .int o1, .int o2, .int mo, .ref yf, .ref yg, .ref yh])), (y4, .inl (cI, 10, .inl Fa)), (y5, .inl (cI, 10, .inl Ta)), (y6, .inl (cZ, 10, .inl La)), (y7, .inl (cI, 6, .inl Ga)), (y8, .inl (cZ, 6, .inl Ca)), (y9, .inl (cI, 6, .inl Na)), (ya, .inl (cZ, 6, .inl Ra)), (yb, .inl (cZ, 6, .inl (upd K1 gg (hc_b true))))] := hD
            refine lv_aload_n hx hb dX4_takes_113 rfl (lv_at hl 2 rfl) ?_
            refine va_get (D := D) (ci := 4) (v := .ref y9) (C := RX4) (T := TX4) (N := 22) hx hb htg hi_X4 hown hK hP 0 rfl rfl 9 (by decide) (htg _ hm_505) (fun _ h9 => h9) rfl dX4_takes_114 ?_
            refine lv_iload_n hx hb dX4_takes_117 rfl (lv_at hl 1 rfl) ?_
            refine hw_iald hx hb hK hP 6 0 rfl rfl (j := gg) (by omega) (by first | decide | omega) (v := nI zz) (c3) dX4_takes_118 ?_
            refine lv_istore_n hx hb dX4_takes_119 rfl hl (by decide) rfl (fun ls hl => ?_)
            replace hl : lv_has ls 4 [(2, .int (nI zz)), (3, .int (nI (v (TA px)))), (0, .ref y0), (1, .int (nI px))] := hl
            refine lv_goto hx hb dX4_takes_120 rfl ?_
            replace hl : lv_has ls 4 [(3, .int (nI (v (TA px)))), (2, .int (nI zz)), (0, .ref y0), (1, .int (nI px))] := lv_sub hl [1, 0, 2, 3] rfl
            refine ih (hS := hS) (hl := hl) (hP := hP) (hD := hD) (hi := (hk_I1 hi hc hn ht1)) (hK1 := (fun j hj => hw_updb hK1 _ true j hj)) (hg6 := c2) (hk := (by have := hk_c_up hg6 ht1; omega))
          · refine lv_iconst (v := nI 0) hx hb dX4_takes_104 (by decide) ?_
            exact W.zret (v := nI 0) hx hb hr (by decide +kernel) (fun t9 ht9 hW9 => ⟨⟨_, K1, rfl, Or.inr ⟨rfl, fun ⟨l9, h1, h2⟩ => hk_In hi hc (fun z hz => ht1) ⟨l9, h1.1 hI, h2⟩⟩, by show va_P D vwCl [(y0, .inr (4, [.int cd, .ref y1, .ref y2, .ref y3, .ref y4, .ref y5, .ref y6, .ref y7, .ref y8, .ref y9, .ref ya, .ref yb, .ref yc, .ref yd, .ref ye, .int md, .int o1, .int o2, .int mo, .ref yf, .ref yg, .ref yh])), (y4, .inl (cI, 10, .inl Fa)), (y5, .inl (cI, 10, .inl Ta)), (y6, .inl (cZ, 10, .inl La)), (y7, .inl (cI, 6, .inl Ga)), (y8, .inl (cZ, 6, .inl Ca)), (y9, .inl (cI, 6, .inl Na)), (ya, .inl (cZ, 6, .inl Ra)), (yb, .inl (cZ, 6, .inl K1))] t9.heap; rw [ht9]; exact hP⟩, hS.F ht9⟩) hS.2.2 dX4_takes_105
  · cases hn : nx (v (FA px)) with
    | none =>
      refine lv_aload_n hx hb dX4_takes_33 rfl (lv_at hl 2 rfl) ?_
      refine va_get (D := D) (ci := 4) (v := .ref y8) (C := RX4) (T := TX4) (N := 22) hx hb htg hi_X4 hown hK hP 0 rfl rfl 8 (by decide) (htg _ hm_504) (fun _ h9 => h9) rfl dX4_takes_34 ?_
      refine lv_iload_n hx hb dX4_takes_37 rfl (lv_at hl 1 rfl) ?_
      refine hw_zald hx hb hK hP 5 1 rfl rfl (j := (v (FA px))) (by omega) (by first | decide | omega) (v := hc_b false) ((hN.2 _ hvf).1 hn) dX4_takes_38 ?_
      refine hw_ifeq_b hx hb dX4_takes_39 rfl (fun hc9 => ?_) (fun hc9 => absurd hc9 (by decide))
      refine lv_iconst (v := nI 0) hx hb dX4_takes_70 (by decide) ?_
      exact W.zret (v := nI 0) hx hb hr (by decide +kernel) (fun t9 ht9 hW9 => ⟨⟨_, Ka, rfl, Or.inr ⟨rfl, fun ⟨l9, h1, h2⟩ => (by have h9 := (h1.2 hI).2.1; rw [hn] at h9; cases h9)⟩, by show va_P D vwCl [(y0, .inr (4, [.int cd, .ref y1, .ref y2, .ref y3, .ref y4, .ref y5, .ref y6, .ref y7, .ref y8, .ref y9, .ref ya, .ref yb, .ref yc, .ref yd, .ref ye, .int md, .int o1, .int o2, .int mo, .ref yf, .ref yg, .ref yh])), (y4, .inl (cI, 10, .inl Fa)), (y5, .inl (cI, 10, .inl Ta)), (y6, .inl (cZ, 10, .inl La)), (y7, .inl (cI, 6, .inl Ga)), (y8, .inl (cZ, 6, .inl Ca)), (y9, .inl (cI, 6, .inl Na)), (ya, .inl (cZ, 6, .inl Ra)), (yb, .inl (cZ, 6, .inl Ka))] t9.heap; rw [ht9]; exact hP⟩, hS.F ht9⟩) hS.2.2 dX4_takes_71
    | some zz =>
      obtain ⟨c1, c2, c3, c4⟩ := (hN.2 _ hvf).2 zz hn
      refine lv_aload_n hx hb dX4_takes_33 rfl (lv_at hl 2 rfl) ?_
      refine va_get (D := D) (ci := 4) (v := .ref y8) (C := RX4) (T := TX4) (N := 22) hx hb htg hi_X4 hown hK hP 0 rfl rfl 8 (by decide) (htg _ hm_504) (fun _ h9 => h9) rfl dX4_takes_34 ?_
      refine lv_iload_n hx hb dX4_takes_37 rfl (lv_at hl 1 rfl) ?_
      refine hw_zald hx hb hK hP 5 1 rfl rfl (j := (v (FA px))) (by omega) (by first | decide | omega) (v := hc_b true) (c1) dX4_takes_38 ?_
      refine hw_ifeq_b hx hb dX4_takes_39 rfl (fun hc9 => absurd hc9 (by decide)) (fun hc9 => ?_)
      refine lv_aload_n hx hb dX4_takes_42 rfl (lv_at hl 2 rfl) ?_
      refine va_get (D := D) (ci := 4) (v := .ref yb) (C := RX4) (T := TX4) (N := 22) hx hb htg hi_X4 hown hK hP 0 rfl rfl 11 (by decide) (htg _ hm_507) (fun _ h9 => h9) rfl dX4_takes_43 ?_
      refine lv_iload_n hx hb dX4_takes_46 rfl (lv_at hl 1 rfl) ?_
      refine hw_zald hx hb hK hP 8 1 rfl rfl (j := (v (FA px))) (by omega) (by first | decide | omega) (v := hc_b (T (v (FA px)))) (hT (v (FA px)) (by omega)) dX4_takes_47 ?_
      refine hw_ifne_b hx hb dX4_takes_48 rfl (fun h3 => ?_) (fun h3 => ?_)
      · refine lv_iconst (v := nI 0) hx hb dX4_takes_70 (by decide) ?_
        exact W.zret (v := nI 0) hx hb hr (by decide +kernel) (fun t9 ht9 hW9 => ⟨⟨_, Ka, rfl, Or.inr ⟨rfl, fun ⟨l9, h1, h2⟩ => (by have h9 := h2 (v (FA px)) (by rw [(h1.2 hI).1]; exact List.mem_cons_self); rw [h3] at h9; cases h9)⟩, by show va_P D vwCl [(y0, .inr (4, [.int cd, .ref y1, .ref y2, .ref y3, .ref y4, .ref y5, .ref y6, .ref y7, .ref y8, .ref y9, .ref ya, .ref yb, .ref yc, .ref yd, .ref ye, .int md, .int o1, .int o2, .int mo, .ref yf, .ref yg, .ref yh])), (y4, .inl (cI, 10, .inl Fa)), (y5, .inl (cI, 10, .inl Ta)), (y6, .inl (cZ, 10, .inl La)), (y7, .inl (cI, 6, .inl Ga)), (y8, .inl (cZ, 6, .inl Ca)), (y9, .inl (cI, 6, .inl Na)), (ya, .inl (cZ, 6, .inl Ra)), (yb, .inl (cZ, 6, .inl Ka))] t9.heap; rw [ht9]; exact hP⟩, hS.F ht9⟩) hS.2.2 dX4_takes_71
      · refine lv_aload_n hx hb dX4_takes_51 rfl (lv_at hl 2 rfl) ?_
        refine va_get (D := D) (ci := 4) (v := .ref ya) (C := RX4) (T := TX4) (N := 22) hx hb htg hi_X4 hown hK hP 0 rfl rfl 10 (by decide) (htg _ hm_506) (fun _ h9 => h9) rfl dX4_takes_52 ?_
        refine lv_iload_n hx hb dX4_takes_55 rfl (lv_at hl 1 rfl) ?_
        refine hw_zald hx hb hK hP 7 1 rfl rfl (j := (v (FA px))) (by omega) (by first | decide | omega) (v := hc_b (lg (v (FA px)))) (c4) dX4_takes_56 ?_
        refine hw_ifne_b hx hb dX4_takes_57 rfl (fun h4 => ?_) (fun h4 => ?_)
        · refine lv_iconst (v := nI 0) hx hb dX4_takes_70 (by decide) ?_
          exact W.zret (v := nI 0) hx hb hr (by decide +kernel) (fun t9 ht9 hW9 => ⟨⟨_, Ka, rfl, Or.inr ⟨rfl, fun ⟨l9, h1, h2⟩ => (by have h9 := (h1.2 hI).2.2; rw [h4] at h9; cases h9)⟩, by show va_P D vwCl [(y0, .inr (4, [.int cd, .ref y1, .ref y2, .ref y3, .ref y4, .ref y5, .ref y6, .ref y7, .ref y8, .ref y9, .ref ya, .ref yb, .ref yc, .ref yd, .ref ye, .int md, .int o1, .int o2, .int mo, .ref yf, .ref yg, .ref yh])), (y4, .inl (cI, 10, .inl Fa)), (y5, .inl (cI, 10, .inl Ta)), (y6, .inl (cZ, 10, .inl La)), (y7, .inl (cI, 6, .inl Ga)), (y8, .inl (cZ, 6, .inl Ca)), (y9, .inl (cI, 6, .inl Na)), (ya, .inl (cZ, 6, .inl Ra)), (yb, .inl (cZ, 6, .inl Ka))] t9.heap; rw [ht9]; exact hP⟩, hS.F ht9⟩) hS.2.2 dX4_takes_71
        · refine lv_aload_n hx hb dX4_takes_60 rfl (lv_at hl 2 rfl) ?_
          refine va_get (D := D) (ci := 4) (v := .ref y9) (C := RX4) (T := TX4) (N := 22) hx hb htg hi_X4 hown hK hP 0 rfl rfl 9 (by decide) (htg _ hm_505) (fun _ h9 => h9) rfl dX4_takes_61 ?_
          refine lv_iload_n hx hb dX4_takes_64 rfl (lv_at hl 1 rfl) ?_
          refine hw_iald hx hb hK hP 6 0 rfl rfl (j := (v (FA px))) (by omega) (by first | decide | omega) (v := nI zz) (c3) dX4_takes_65 ?_
          refine lv_iload_n hx hb dX4_takes_66 rfl (lv_at hl 0 rfl) ?_
          refine hw_icmp_eq hx hb (by omega) (by omega) dX4_takes_67 rfl (fun h5 => ?_) (fun h5 => ?_)
          · refine lv_aload_n hx hb dX4_takes_72 rfl (lv_at hl 2 rfl) ?_
            refine va_get (D := D) (ci := 4) (v := .ref yb) (C := RX4) (T := TX4) (N := 22) hx hb htg hi_X4 hown hK hP 0 rfl rfl 11 (by decide) (htg _ hm_507) (fun _ h9 => h9) rfl dX4_takes_73 ?_
            refine lv_iload_n hx hb dX4_takes_76 rfl (lv_at hl 1 rfl) ?_
            refine lv_iconst (v := nI 1) hx hb dX4_takes_77 (by decide) ?_
            refine hw_zast hx hb hK hP hD hS 8 1 rfl rfl (j := (v (FA px))) (by omega) (by first | decide | omega) dX4_takes_78 (fun H locs hP hD hS => ?_)
            rw [hw_nar1] at hP hD
            replace hP : va_P D vwCl [(y0, .inr (4, [.int cd, .ref y1, .ref y2, .ref y3, .ref y4, .ref y5, .ref y6, .ref y7, .ref y8, .ref y9, .ref ya, .ref yb, .ref yc, .ref yd, .ref ye, .int md, .int o1, .int o2, .int mo, .ref yf, .ref yg, .ref yh])), (y4, .inl (cI, 10, .inl Fa)), (y5, .inl (cI, 10, .inl Ta)), (y6, .inl (cZ, 10, .inl La)), (y7, .inl (cI, 6, .inl Ga)), (y8, .inl (cZ, 6, .inl Ca)), (y9, .inl (cI, 6, .inl Na)), (ya, .inl (cZ, 6, .inl Ra)), (yb, .inl (cZ, 6, .inl (upd Ka (v (FA px)) (hc_b true))))] H := hP
            replace hD : va_D A [(y0, .inr (4, [.int cd, .ref y1, .ref y2, .ref y3, .ref y4, .ref y5, .ref y6, .ref y7, .ref y8, .ref y9, .ref ya, .ref yb, .ref yc, .ref yd, .ref ye, .int md, .int o1, .int o2, .int mo, .ref yf, .ref yg, .ref yh])), (y4, .inl (cI, 10, .inl Fa)), (y5, .inl (cI, 10, .inl Ta)), (y6, .inl (cZ, 10, .inl La)), (y7, .inl (cI, 6, .inl Ga)), (y8, .inl (cZ, 6, .inl Ca)), (y9, .inl (cI, 6, .inl Na)), (ya, .inl (cZ, 6, .inl Ra)), (yb, .inl (cZ, 6, .inl (upd Ka (v (FA px)) (hc_b true))))] := hD
            refine lv_iconst (v := nI 1) hx hb dX4_takes_79 (by decide) ?_
            exact W.zret (v := nI 1) hx hb hr (by decide +kernel) (fun t9 ht9 hW9 => ⟨⟨_, upd Ka (v (FA px)) (hc_b true), rfl, Or.inl ⟨rfl, [v (FA px)], va_up T (v (FA px)) true, ⟨fun q => absurd (hI.symm.trans q) (by decide), fun _ => ⟨rfl, by rw [hn, h5], h4⟩⟩, fun a ha => by rw [List.mem_singleton.mp ha]; exact h3, fun j hj => hw_updb hT _ true j hj, fun j _ => hk_T1 _ j⟩, by show va_P D vwCl [(y0, .inr (4, [.int cd, .ref y1, .ref y2, .ref y3, .ref y4, .ref y5, .ref y6, .ref y7, .ref y8, .ref y9, .ref ya, .ref yb, .ref yc, .ref yd, .ref ye, .int md, .int o1, .int o2, .int mo, .ref yf, .ref yg, .ref yh])), (y4, .inl (cI, 10, .inl Fa)), (y5, .inl (cI, 10, .inl Ta)), (y6, .inl (cZ, 10, .inl La)), (y7, .inl (cI, 6, .inl Ga)), (y8, .inl (cZ, 6, .inl Ca)), (y9, .inl (cI, 6, .inl Na)), (ya, .inl (cZ, 6, .inl Ra)), (yb, .inl (cZ, 6, .inl (upd Ka (v (FA px)) (hc_b true))))] t9.heap; rw [ht9]; exact hP⟩, hS.F ht9⟩) hS.2.2 dX4_takes_80
          · refine lv_iconst (v := nI 0) hx hb dX4_takes_70 (by decide) ?_
            exact W.zret (v := nI 0) hx hb hr (by decide +kernel) (fun t9 ht9 hW9 => ⟨⟨_, Ka, rfl, Or.inr ⟨rfl, fun ⟨l9, h1, h2⟩ => (by have h9 := (h1.2 hI).2.1; rw [hn] at h9; injection h9 with h9; exact h5 h9)⟩, by show va_P D vwCl [(y0, .inr (4, [.int cd, .ref y1, .ref y2, .ref y3, .ref y4, .ref y5, .ref y6, .ref y7, .ref y8, .ref y9, .ref ya, .ref yb, .ref yc, .ref yd, .ref ye, .int md, .int o1, .int o2, .int mo, .ref yf, .ref yg, .ref yh])), (y4, .inl (cI, 10, .inl Fa)), (y5, .inl (cI, 10, .inl Ta)), (y6, .inl (cZ, 10, .inl La)), (y7, .inl (cI, 6, .inl Ga)), (y8, .inl (cZ, 6, .inl Ca)), (y9, .inl (cI, 6, .inl Na)), (ya, .inl (cZ, 6, .inl Ra)), (yb, .inl (cZ, 6, .inl Ka))] t9.heap; rw [ht9]; exact hP⟩, hS.F ht9⟩) hS.2.2 dX4_takes_71
