set_option maxHeartbeats 4000000 in
set_option maxRecDepth 100000 in
/-- the terms with a's value -/
theorem k_X1_termsEqualTo (l : Launch) (D : va_G) (cI cZ cJ : ClassId) (v : Nat → Nat) (V : Nat → Int32) (a q : Nat) (hV : ∀ t, t < 6 → V t = nI (v t)) (hv : ∀ t, t < 6 → v t < 2 ^ 31) (ha : a < 6) : Met l yX1_termsEqualTo (Cond.code yX1_termsEqualTo cX1_termsEqualTo 4 (some .int) :: hwG) { frames := 0, cells := 0, slots := 0, locals := 0 } (hp_R [.int (nI a), .ref q] D cI cZ cJ [(q, .inl (cI, 6, .inl V))]) (vp_Si (fun r => ∀ i, i < 32 → bt r i = decide (i < 6 ∧ v i = v a))) 0 0 (fun _ => False) := by
  refine Met.ofW (cc := cX1_termsEqualTo) (maxL := 4) (ret := (some .int)) (by decide) rfl ?_
  intro p e s m args below meth c s₁ B hml hv
  obtain ⟨rfl, hP, hz⟩ := hv
  have hx := B.exec
  have hb := B.bytes
  have hr := B.returns
  have hts := atoms_spec (ws := (Cond.code yX1_termsEqualTo cX1_termsEqualTo 4 (some .int) :: hwG)) B.pre
  have htg := fun w h => hts w (List.mem_cons_of_mem _ h)
  have hown : s.vm.findClass RX1 = some m.cls := findClass_of_methodNamed B.named
  have hlocks := B.notSynchronized
  have hK := hz.1
  have hl := lv_entry ([.int (nI a), .ref q]) (n := 4) (Nat.le_of_ble_eq_true rfl)
  rw [lg_entry_eq]
  generalize (lg_sl ([.int (nI a), .ref q]) ++ List.replicate (4 - (lg_sl ([.int (nI a), .ref q])).length) Slot.unset).toArray = ls at hl ⊢
  replace hl : lv_has ls 4 [(0, .int (nI a)), (1, .ref q)] := hl
  refine lv_iconst (v := nI 0) hx hb dX1_termsEqualTo_0 (by decide) ?_
  refine lv_istore_n hx hb dX1_termsEqualTo_1 rfl hl (by decide) rfl (fun ls hl => ?_)
  replace hl : lv_has ls 4 [(2, .int (nI 0)), (0, .int (nI a)), (1, .ref q)] := hl
  refine lv_iconst (v := nI 0) hx hb dX1_termsEqualTo_2 (by decide) ?_
  refine lv_istore_n hx hb dX1_termsEqualTo_3 rfl hl (by decide) rfl (fun ls hl => ?_)
  replace hl : lv_has ls 4 [(3, .int (nI 0)), (2, .int (nI 0)), (0, .int (nI a)), (1, .ref q)] := hl
  obtain ⟨b, e_b⟩ : ∃ z : Nat, z = 0 := ⟨_, rfl⟩
  obtain ⟨z, e_z⟩ : ∃ z : Int32, z = nI 0 := ⟨_, rfl⟩
  replace hl : lv_has ls 4 [(3, .int (nI b)), (2, .int z), (0, .int (nI a)), (1, .ref q)] := by subst e_b e_z; exact hl
  have hI : ∀ i, i < 32 → bt z i = decide (i < b ∧ v i = v a) := by subst e_b e_z; intro i hi; rw [hb_nI 0 hi]; simp
  have hb6 : b ≤ 6 := by subst e_b e_z; omega
  clear e_b e_z
  obtain ⟨k, hk⟩ : ∃ k : Nat, k = 6 - b := ⟨_, rfl⟩
  induction k generalizing b z ls  with
  | zero =>
    refine lv_iload_n hx hb dX1_termsEqualTo_4 rfl (lv_at hl 0 rfl) ?_
    refine lv_bipush (v := nI 6) hx hb dX1_termsEqualTo_5 (by decide) ?_
    refine hw_icmp_ge hx hb (by omega) (by omega) dX1_termsEqualTo_7 rfl (fun hc => ?_) (fun hc => absurd hc (by omega))
    refine lv_iload_n hx hb dX1_termsEqualTo_31 rfl (lv_at hl 1 rfl) ?_
    exact W.iret (v := z) hx hb hr (fun t ht hW => ⟨_, rfl, fun i hi => by rw [hI i hi]; congr 1; rw [show b = 6 by omega], ht⟩) (fun _ h => nomatch h) dX1_termsEqualTo_32
  | succ k ih =>
    refine lv_iload_n hx hb dX1_termsEqualTo_4 rfl (lv_at hl 0 rfl) ?_
    refine lv_bipush (v := nI 6) hx hb dX1_termsEqualTo_5 (by decide) ?_
    refine hw_icmp_ge hx hb (by omega) (by omega) dX1_termsEqualTo_7 rfl (fun hc => absurd hc (by omega)) (fun hc => ?_)
    refine lv_aload_n hx hb dX1_termsEqualTo_10 rfl (lv_at hl 3 rfl) ?_
    refine lv_iload_n hx hb dX1_termsEqualTo_11 rfl (lv_at hl 0 rfl) ?_
    refine hw_iald hx hb hK hP 0 0 rfl rfl (j := b) (by omega) (by decide) (v := nI (v b)) (hV b (by omega)) dX1_termsEqualTo_12 ?_
    refine lv_aload_n hx hb dX1_termsEqualTo_13 rfl (lv_at hl 3 rfl) ?_
    refine lv_iload_n hx hb dX1_termsEqualTo_14 rfl (lv_at hl 2 rfl) ?_
    refine hw_iald hx hb hK hP 0 0 rfl rfl (j := a) (by omega) (by decide) (v := nI (v a)) (hV a (by omega)) dX1_termsEqualTo_15 ?_
    refine hw_icmp_ne hx hb (hv _ (by omega)) (hv _ (by omega)) dX1_termsEqualTo_16 rfl (fun hc => ?_) (fun hc => ?_)
    · refine lv_iinc (v := nI (b + 1)) (k := 0) hx hb dX1_termsEqualTo_25 hl rfl (hw_inc _) (by decide) rfl (fun ls hl => ?_)
      replace hl : lv_has ls 4 [(3, .int (nI (b + 1))), (2, .int z), (0, .int (nI a)), (1, .ref q)] := hl
      refine lv_goto hx hb dX1_termsEqualTo_28 rfl ?_
      refine ih _ _ _ hl (fun i hi => ?_) (by omega) (by omega)
      rw [hI i hi]; congr 1; rw [eq_iff_iff]; constructor
      · exact fun h => ⟨by omega, h.2⟩
      · exact fun h => ⟨by by_cases hib : i = b; (rw [hib] at h; exact absurd h.2 hc); omega, h.2⟩
    · refine lv_iload_n hx hb dX1_termsEqualTo_19 rfl (lv_at hl 1 rfl) ?_
      refine lv_iconst (v := nI 1) hx hb dX1_termsEqualTo_20 (by decide) ?_
      refine lv_iload_n hx hb dX1_termsEqualTo_21 rfl (lv_at hl 0 rfl) ?_
      refine lv_ishl hx hb dX1_termsEqualTo_22 ?_
      refine lv_ior hx hb dX1_termsEqualTo_23 ?_
      refine lv_istore_n hx hb dX1_termsEqualTo_24 rfl hl (by decide) rfl (fun ls hl => ?_)
      replace hl : lv_has ls 4 [(2, .int (z ||| ((nI 1) <<< ((nI b) &&& 31)))), (3, .int (nI b)), (0, .int (nI a)), (1, .ref q)] := hl
      refine lv_iinc (v := nI (b + 1)) (k := 1) hx hb dX1_termsEqualTo_25 hl rfl (hw_inc _) (by decide) rfl (fun ls hl => ?_)
      replace hl : lv_has ls 4 [(3, .int (nI (b + 1))), (2, .int (z ||| ((nI 1) <<< ((nI b) &&& 31)))), (0, .int (nI a)), (1, .ref q)] := hl
      refine lv_goto hx hb dX1_termsEqualTo_28 rfl ?_
      refine ih _ _ _ hl (fun i hi => ?_) (by omega) (by omega)
      rw [b_or, hI i hi, show nI 1 = 1 from rfl, hb_1 b (by omega) i hi, Bool.eq_iff_iff, Bool.or_eq_true, decide_eq_true_eq, decide_eq_true_eq, decide_eq_true_eq]; constructor
      · rintro (h | h)
        · exact ⟨by omega, h.2⟩
        · rw [h]; exact ⟨by omega, hc⟩
      · exact fun h => (Nat.lt_or_ge i b).elim (fun q => Or.inl ⟨q, h.2⟩) (fun q => Or.inr (by omega))
