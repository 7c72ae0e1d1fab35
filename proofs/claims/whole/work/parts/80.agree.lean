/-! Class and reference answer the same. -/
section AGREE
variable {SA OA : Nat → Bool} {MA FA TA : Nat → Nat} {LA : Nat → Bool} {mo : Int32} {dm oa ob cx : Nat} {v : Nat → Nat}
theorem ag_const {c : Prop} (hn : MA cx ≤ 5) (hL : ∀ nx lg, hk_L dm v oa ob (hk_R v SA OA MA FA TA LA mo) nx lg ↔ c) :
    hk_P SA OA MA FA TA LA mo dm oa ob cx v ↔ hc_A (hr_s SA cx) (hr_s OA cx) (MA cx) (fun p => FA (5 * cx + p)) (fun p => TA (5 * cx + p)) (fun p => LA (5 * cx + p)) v ∧ c := by
  unfold hk_P
  rw [show (fun as => hk_L dm v oa ob (hk_R v SA OA MA FA TA LA mo) (hc_nx as) (hc_fa as)) = fun _ => c from funext (fun as => propext (hL _ _))]
  constructor
  · rintro ⟨h1, h2, h3⟩
    exact ⟨⟨h1, h2⟩, (hc_Ex_const h2 (fun a ha p hp hN => ha.2.2 p hp hN) (by omega)).mp h3⟩
  · rintro ⟨⟨h1, h2⟩, h3⟩
    exact ⟨h1, h2, (hc_Ex_const h2 (fun a ha p hp hN => ha.2.2 p hp hN) (by omega)).mpr h3⟩
theorem ag_filled (hn : MA cx ≤ 5) :
    hk_P SA OA MA FA TA LA mo 4 oa ob cx v ↔ hc_A (hr_s SA cx) (hr_s OA cx) (MA cx) (fun p => FA (5 * cx + p)) (fun p => TA (5 * cx + p)) (fun p => LA (5 * cx + p)) v ∧ ∀ p, p < MA cx → hc_Nv (fun p => FA (5 * cx + p)) (fun p => TA (5 * cx + p)) (fun p => LA (5 * cx + p)) v p → v (FA (5 * cx + p)) ≠ v oa := by
  unfold hk_P
  rw [show (fun as => hk_L 4 v oa ob (hk_R v SA OA MA FA TA LA mo) (hc_nx as) (hc_fa as)) = fun as => hc_nx as (v oa) = none from rfl]
  constructor
  · rintro ⟨h1, h2, h3⟩
    exact ⟨⟨h1, h2⟩, (hc_Ex_filled h2 (fun a ha p hp hN => ha.2.2 p hp hN) (by omega)).mp h3⟩
  · rintro ⟨⟨h1, h2⟩, h3⟩
    exact ⟨h1, h2, (hc_Ex_filled h2 (fun a ha p hp hN => ha.2.2 p hp hN) (by omega)).mpr h3⟩
abbrev ag_U (M : Nat) : Nat → Prop := fun t => (t < 5 ∧ M.testBit t = true) ∨ t = 5
/-- possible -/
theorem ag_possible {M : Nat} (hM : M < 32) (hn : MA cx ≤ 5) (hU : hc_U (hr_s SA cx) (hr_s OA cx) (MA cx) (fun p => FA (5 * cx + p)) (fun p => TA (5 * cx + p)) (ag_U M)) :
    hk_S SA OA MA FA TA LA mo 0 oa ob cx ↔ ∃ l, l ∈ hc_cas M ∧ hc_A (hr_s SA cx) (hr_s OA cx) (MA cx) (fun p => FA (5 * cx + p)) (fun p => TA (5 * cx + p)) (fun p => LA (5 * cx + p)) (fun t => l.getD t 0) := by
  have h := hc_all_cas (I := fun p => LA (5 * cx + p)) hM hU (P := fun _ => False) (fun _ _ _ _ h => h)
  have hp : ∀ l : List Nat, hk_P SA OA MA FA TA LA mo 0 oa ob cx (fun t => l.getD t 0) ↔ hc_A (hr_s SA cx) (hr_s OA cx) (MA cx) (fun p => FA (5 * cx + p)) (fun p => TA (5 * cx + p)) (fun p => LA (5 * cx + p)) (fun t => l.getD t 0) ∧ True := fun l => ag_const hn (fun _ _ => Iff.rfl)
  constructor
  · rintro ⟨l, h1, h2⟩
    refine Classical.byContradiction fun hno => ?_
    exact h.mpr (fun l' h3 h4 => hno ⟨l', h3, h4⟩) l h1 ((hp l).mp h2).1
  · rintro ⟨l, h1, h2⟩
    refine Classical.byContradiction fun hno => ?_
    exact h.mp (fun l' h3 h4 => hno ⟨l', h3, (hp l').mpr ⟨h4, trivial⟩⟩) l h1 h2
/-- what sure asks, case by case -/
theorem ag_so (hn : MA cx ≤ 5) {wh a b : Nat} (hwh : wh < 3) : hk_P SA OA MA FA TA LA mo (wh + 2) a b cx v ↔ hc_A (hr_s SA cx) (hr_s OA cx) (MA cx) (fun p => FA (5 * cx + p)) (fun p => TA (5 * cx + p)) (fun p => LA (5 * cx + p)) v ∧
    ¬ hs_so wh (v a) (v b) (∃ p, p < MA cx ∧ hc_Nv (fun p => FA (5 * cx + p)) (fun p => TA (5 * cx + p)) (fun p => LA (5 * cx + p)) v p ∧ v (FA (5 * cx + p)) = v a) := by
  rcases (by omega : wh = 0 ∨ wh = 1 ∨ wh = 2) with rfl | rfl | rfl
  · exact ag_const hn (fun _ _ => Iff.rfl)
  · exact ag_const hn (fun _ _ => ⟨fun h q => q h, fun h => Classical.not_not.mp h⟩)
  · rw [show 2 + 2 = 4 from rfl, ag_filled hn]
    constructor
    · rintro ⟨h1, h2⟩
      exact ⟨h1, fun ⟨p, h3, h4, h5⟩ => h2 p h3 h4 h5⟩
    · rintro ⟨h1, h2⟩
      exact ⟨h1, fun p h3 h4 h5 => h2 ⟨p, h3, h4, h5⟩⟩
theorem ag_sure {M : Nat} (hM : M < 32) (hn : MA cx ≤ 5) (hU : hc_U (hr_s SA cx) (hr_s OA cx) (MA cx) (fun p => FA (5 * cx + p)) (fun p => TA (5 * cx + p)) (ag_U M)) {wh a b : Nat} (hwh : wh < 3) (ha : ag_U M a) (hb : ag_U M b) :
    (¬ hk_S SA OA MA FA TA LA mo (wh + 2) a b cx) ↔ ∀ l, l ∈ hc_cas M → hc_A (hr_s SA cx) (hr_s OA cx) (MA cx) (fun p => FA (5 * cx + p)) (fun p => TA (5 * cx + p)) (fun p => LA (5 * cx + p)) (fun t => l.getD t 0) →
      hs_so wh (l.getD a 0) (l.getD b 0) (∃ p, p < MA cx ∧ hc_Nv (fun p => FA (5 * cx + p)) (fun p => TA (5 * cx + p)) (fun p => LA (5 * cx + p)) (fun t => l.getD t 0) p ∧ l.getD (FA (5 * cx + p)) 0 = l.getD a 0) := by
  have h := hc_all_cas (I := fun p => LA (5 * cx + p)) hM hU (P := fun v => hs_so wh (v a) (v b) (∃ p, p < MA cx ∧ hc_Nv (fun p => FA (5 * cx + p)) (fun p => TA (5 * cx + p)) (fun p => LA (5 * cx + p)) v p ∧ v (FA (5 * cx + p)) = v a)) (fun v v' hk _ hs => by
    unfold hs_so at hs ⊢
    by_cases h2 : wh = 2
    · rw [if_pos h2] at hs ⊢
      obtain ⟨p, h3, h4, h5⟩ := hs
      exact ⟨p, h3, hc_N_move hk (hU.2 p h3).1 (hU.2 p h3).2 h4, (hk _ _ (hU.2 p h3).1 ha).mp h5⟩
    · rw [if_neg h2] at hs ⊢
      by_cases h0 : wh = 0
      · rw [if_pos h0] at hs ⊢; exact (hk a b ha hb).mp hs
      · rw [if_neg h0] at hs ⊢; exact fun q => hs ((hk a b ha hb).mpr q))
  refine Iff.trans ?_ h
  constructor
  · intro hno l h1 h2
    refine Classical.byContradiction fun h3 => ?_
    exact hno ⟨l, h1, (ag_so hn hwh).mpr ⟨h2, h3⟩⟩
  · rintro hall ⟨l, h1, h2⟩
    obtain ⟨h3, h4⟩ := (ag_so hn hwh).mp h2
    exact h4 (hall l h1 h3)
/-- the frame with the bits of mo serves -/
theorem ag_F (hm : MA 0 ≤ 5) (ht : ∀ i, i < MA 1 → TA (5 + i) < 6) : (¬ hk_P SA OA MA FA TA LA mo 1 oa ob 0 v) ↔ (hc_A (hr_s SA 0) (hr_s OA 0) (MA 0) FA TA LA v → hc_F (MA 0) FA TA LA (hr_s SA 1) (hr_s OA 1) (MA 1) (fun p => FA (5 + p)) (fun p => TA (5 + p)) (fun p => LA (5 + p)) (fun p => bt mo p) v) := by
  unfold hk_P
  simp only [Nat.mul_zero, Nat.zero_add]
  rw [show (fun as => hk_L 1 v oa ob (hk_R v SA OA MA FA TA LA mo) (hc_nx as) (hc_fa as)) = fun as => ¬ (hc_PO v (hr_s SA 1) (hr_s OA 1) ∧ hc_TR (hc_nx as) (hc_fa as) (MA 1) (fun i => v (FA (5 + i))) (fun i => v (TA (5 + i))) (fun i => LA (5 + i)) (MA 0) (fun p => bt mo p) (fun p => v (FA p)) (fun p => v (TA p)) LA) from rfl]
  constructor
  · rintro h ⟨h1, h2⟩
    have h3 := (hc_main h2 (hc_w0_H h2) (n := MA 1) (S' := fun i => v (FA (5 + i))) (E' := fun i => v (TA (5 + i))) (I' := fun i => LA (5 + i)) (f := fun p => bt mo p) (fun g => ∃ t, t < 6 ∧ v t = g) (fun i hi => ⟨TA (5 + i), ht i hi, rfl⟩) (hc_PO v (hr_s SA 1) (hr_s OA 1)) (k := 11) (by omega)).mp (fun h4 => h ⟨h1, h2, h4⟩)
    obtain ⟨k1, c, k2, k3⟩ := h3
    exact ⟨c, ⟨k1, k2⟩, k3⟩
  · rintro h ⟨h1, h2, h3⟩
    obtain ⟨c, ⟨k1, k2⟩, k3⟩ := h ⟨h1, h2⟩
    exact (hc_main h2 (hc_w0_H h2) (n := MA 1) (S' := fun i => v (FA (5 + i))) (E' := fun i => v (TA (5 + i))) (I' := fun i => LA (5 + i)) (f := fun p => bt mo p) (fun g => ∃ t, t < 6 ∧ v t = g) (fun i hi => ⟨TA (5 + i), ht i hi, rfl⟩) (hc_PO v (hr_s SA 1) (hr_s OA 1)) (k := 11) (by omega)).mpr ⟨k1, c, k2, k3⟩ h3
theorem ag_frame {M : Nat} (hM : M < 32) (hm : MA 0 ≤ 5) (ht : ∀ i, i < MA 1 → TA (5 + i) < 6) (hU : hc_U (hr_s SA 0) (hr_s OA 0) (MA 0) FA TA (ag_U M)) (hU' : hc_U (hr_s SA 1) (hr_s OA 1) (MA 1) (fun p => FA (5 + p)) (fun p => TA (5 + p)) (ag_U M)) :
    (¬ hk_S SA OA MA FA TA LA mo 1 oa ob 0) ↔ ∀ l, l ∈ hc_cas M → hc_A (hr_s SA 0) (hr_s OA 0) (MA 0) FA TA LA (fun t => l.getD t 0) → hc_F (MA 0) FA TA LA (hr_s SA 1) (hr_s OA 1) (MA 1) (fun p => FA (5 + p)) (fun p => TA (5 + p)) (fun p => LA (5 + p)) (fun p => bt mo p) (fun t => l.getD t 0) := by
  have h := hc_all_cas (I := LA) hM hU (P := fun v => hc_F (MA 0) FA TA LA (hr_s SA 1) (hr_s OA 1) (MA 1) (fun p => FA (5 + p)) (fun p => TA (5 + p)) (fun p => LA (5 + p)) (fun p => bt mo p) v) (fun v v' hk hA hF => hc_F_move hk (Or.inr rfl) hU hU' hA hF)
  refine Iff.trans ?_ h
  constructor
  · intro hno l h1
    exact (ag_F hm ht).mp (fun h2 => hno ⟨l, h1, h2⟩)
  · rintro hall ⟨l, h1, h2⟩
    exact (ag_F hm ht).mpr (hall l h1) h2
end AGREE
