/-! The least frame is the first one that serves; holds. -/
section FIRST
variable {SA OA : Nat → Bool} {MA FA TA : Nat → Nat} {LA : Nat → Bool} {oa ob M : Nat}
theorem ag_le {x y : Nat} (h : ∀ i, x.testBit i = true → y.testBit i = true) : x ≤ y := by
  have h1 : x &&& y = x := by
    apply Nat.eq_of_testBit_eq
    intro i
    rw [Nat.testBit_and]
    cases hx : x.testBit i with
    | false => rfl
    | true => rw [h i hx]; rfl
  rw [← h1]
  exact Nat.and_le_right
/-- the least frame of the class, as a number -/
theorem ag_yes (hM : M < 32) (hm : MA 0 ≤ 5) (ht : ∀ i, i < MA 1 → TA (5 + i) < 6) (hU : hc_U (hr_s SA 0) (hr_s OA 0) (MA 0) FA TA (ag_U M)) (hU' : hc_U (hr_s SA 1) (hr_s OA 1) (MA 1) (fun p => FA (5 + p)) (fun p => TA (5 + p)) (ag_U M)) {r : Int32}
    (h : lf_yes (hr_s SA 0) (hr_s OA 0) (MA 0) FA TA LA (hr_s SA 1) (hr_s OA 1) (MA 1) (fun p => FA (5 + p)) (fun p => TA (5 + p)) (fun p => LA (5 + p)) (hc_cas M) r) :
    ∃ f, r = nI f ∧ f < 2 ^ MA 0 ∧ (¬ hk_S SA OA MA FA TA LA (nI f) 1 oa ob 0) ∧ ∀ x, x < f → hk_S SA OA MA FA TA LA (nI x) 1 oa ob 0 := by
  obtain ⟨h1, h2, h3⟩ := h
  obtain ⟨f, hf, rfl⟩ := hm_all r
  have hlt : f < 2 ^ MA 0 := by
    refine Nat.lt_pow_two_of_testBit f (fun i hi => ?_)
    by_cases h32 : i < 32
    · cases h9 : f.testBit i with
      | false => rfl
      | true =>
        rw [← hb_nI f h32] at h9
        have := ((h2 i h32).mp h9).1
        omega
    · exact Nat.testBit_lt_two_pow (Nat.lt_of_lt_of_le hf (Nat.pow_le_pow_right (by omega) (by omega)))
  obtain ⟨k1, k2⟩ := hc_fr_yes (f := fun p => bt (nI f) p) h1 (fun p hp => ⟨fun q => ((h2 p (by omega)).mp q).2, fun q => (h2 p (by omega)).mpr ⟨hp, q⟩⟩) h3
  refine ⟨f, rfl, hlt, (ag_frame hM hm ht hU hU').mpr k1, fun x hx => ?_⟩
  refine Classical.byContradiction fun hno => ?_
  have k3 := k2 (fun p => bt (nI x) p) ((ag_frame hM hm ht hU hU').mp hno)
  have h5 : 2 ^ MA 0 ≤ 32 := hf_32 _ hm
  have : f ≤ x := ag_le (fun i hi => by
    by_cases him : i < MA 0
    · have h6 := k3 i him (by show bt (nI f) i = true; rw [hb_nI f (by omega)]; exact hi)
      have h7 : bt (nI x) i = true := h6
      rw [hb_nI x (by omega)] at h7
      exact h7
    · rw [Nat.testBit_lt_two_pow (Nat.lt_of_lt_of_le hlt (Nat.pow_le_pow_right (by omega) (by omega)))] at hi
      cases hi)
  omega
theorem ag_no (hM : M < 32) (hm : MA 0 ≤ 5) (ht : ∀ i, i < MA 1 → TA (5 + i) < 6) (hU : hc_U (hr_s SA 0) (hr_s OA 0) (MA 0) FA TA (ag_U M)) (hU' : hc_U (hr_s SA 1) (hr_s OA 1) (MA 1) (fun p => FA (5 + p)) (fun p => TA (5 + p)) (ag_U M))
    (h : lf_no (hr_s SA 0) (hr_s OA 0) (MA 0) FA TA LA (hr_s SA 1) (hr_s OA 1) (MA 1) (fun p => FA (5 + p)) (fun p => TA (5 + p)) (fun p => LA (5 + p)) (hc_cas M)) (x : Int32) : hk_S SA OA MA FA TA LA x 1 oa ob 0 := by
  refine Classical.byContradiction fun hno => ?_
  exact hc_fr_no h (fun p => bt x p) ((ag_frame hM hm ht hU hU').mp hno)
/-- frame -/
theorem ag_frame_eq (hM : M < 32) (hm : MA 0 ≤ 5) (ht : ∀ i, i < MA 1 → TA (5 + i) < 6) (hU : hc_U (hr_s SA 0) (hr_s OA 0) (MA 0) FA TA (ag_U M)) (hU' : hc_U (hr_s SA 1) (hr_s OA 1) (MA 1) (fun p => FA (5 + p)) (fun p => TA (5 + p)) (ag_U M)) {r r' : Int32}
    (h : (r = -1 ∧ lf_no (hr_s SA 0) (hr_s OA 0) (MA 0) FA TA LA (hr_s SA 1) (hr_s OA 1) (MA 1) (fun p => FA (5 + p)) (fun p => TA (5 + p)) (fun p => LA (5 + p)) (hc_cas M)) ∨ (r ≠ -1 ∧ lf_yes (hr_s SA 0) (hr_s OA 0) (MA 0) FA TA LA (hr_s SA 1) (hr_s OA 1) (MA 1) (fun p => FA (5 + p)) (fun p => TA (5 + p)) (fun p => LA (5 + p)) (hc_cas M) r))
    (h' : (∃ f, r' = nI f ∧ f < 2 ^ MA 0 ∧ ¬ hk_S SA OA MA FA TA LA (nI f) 1 oa ob 0 ∧ ∀ x, x < f → hk_S SA OA MA FA TA LA (nI x) 1 oa ob 0) ∨ (r' = -1 ∧ ∀ x, x < 2 ^ MA 0 → hk_S SA OA MA FA TA LA (nI x) 1 oa ob 0)) : r = r' := by
  rcases h with ⟨h1, h2⟩ | ⟨h1, h2⟩
  · rcases h' with ⟨f, k1, k2, k3, k4⟩ | ⟨k1, k2⟩
    · exact absurd (ag_no hM hm ht hU hU' h2 (nI f)) k3
    · rw [h1, k1]
  · obtain ⟨f, e1, e2, e3, e4⟩ := ag_yes (oa := oa) (ob := ob) hM hm ht hU hU' h2
    rcases h' with ⟨f', k1, k2, k3, k4⟩ | ⟨k1, k2⟩
    · have hff : f = f' := by
        rcases Nat.lt_trichotomy f f' with q | q | q
        · exact absurd (k4 f q) e3
        · exact q
        · exact absurd (e4 f' q) k3
      rw [e1, k1, hff]
    · exact absurd (k2 f e2) e3
/-- implies -/
theorem ag_implies_eq (hM : M < 32) (hm : MA 0 ≤ 5) (ht : ∀ i, i < MA 1 → TA (5 + i) < 6) (hU : hc_U (hr_s SA 0) (hr_s OA 0) (MA 0) FA TA (ag_U M)) (hU' : hc_U (hr_s SA 1) (hr_s OA 1) (MA 1) (fun p => FA (5 + p)) (fun p => TA (5 + p)) (ag_U M)) {r r' : Int32}
    (h : (r = nI 1 ∧ lf_yes (hr_s SA 0) (hr_s OA 0) (MA 0) FA TA LA (hr_s SA 1) (hr_s OA 1) (MA 1) (fun p => FA (5 + p)) (fun p => TA (5 + p)) (fun p => LA (5 + p)) (hc_cas M) (nI 0)) ∨
      (r = nI 0 ∧ (lf_no (hr_s SA 0) (hr_s OA 0) (MA 0) FA TA LA (hr_s SA 1) (hr_s OA 1) (MA 1) (fun p => FA (5 + p)) (fun p => TA (5 + p)) (fun p => LA (5 + p)) (hc_cas M) ∨ ∃ q : Int32, q ≠ 0 ∧ lf_yes (hr_s SA 0) (hr_s OA 0) (MA 0) FA TA LA (hr_s SA 1) (hr_s OA 1) (MA 1) (fun p => FA (5 + p)) (fun p => TA (5 + p)) (fun p => LA (5 + p)) (hc_cas M) q)))
    (h' : hc_r r' (¬ hk_S SA OA MA FA TA LA (nI 0) 1 oa ob 0)) : r = r' := by
  have hs : (r = nI 1 ∧ ¬ hk_S SA OA MA FA TA LA (nI 0) 1 oa ob 0) ∨ (r = nI 0 ∧ hk_S SA OA MA FA TA LA (nI 0) 1 oa ob 0) := by
    rcases h with ⟨h1, h2⟩ | ⟨h1, h2 | ⟨q, h2, h3⟩⟩
    · obtain ⟨f, e1, e2, e3, e4⟩ := ag_yes (oa := oa) (ob := ob) hM hm ht hU hU' h2
      rw [← e1] at e3
      exact Or.inl ⟨h1, e3⟩
    · exact Or.inr ⟨h1, ag_no hM hm ht hU hU' h2 (nI 0)⟩
    · obtain ⟨f, e1, e2, e3, e4⟩ := ag_yes (oa := oa) (ob := ob) hM hm ht hU hU' h3
      have hf0 : 0 < f := by
        rcases Nat.eq_zero_or_pos f with q0 | q0
        · rw [q0] at e1; exact absurd e1 h2
        · exact q0
      exact Or.inr ⟨h1, e4 0 hf0⟩
  rcases hs with ⟨a1, a2⟩ | ⟨a1, a2⟩ <;> rcases h' with ⟨b1, b2⟩ | ⟨b1, b2⟩
  · rw [a1, b1]
  · exact absurd a2 b2
  · exact absurd a2 b2
  · rw [a1, b1]
end FIRST
/-- holds -/
theorem ag_holds {HA : Nat → Option Nat} {VA : Nat → Nat} {sm ot : Nat → Nat → Bool} {n : Nat} {fr to : Nat → Nat} {li : Nat → Bool} {fl q : Int32} (hr : ∀ a, HA a ≠ none → 1 ≤ a ∧ a ≤ 9) (hf : ∀ j, j < 32 → (bt fl j = true ↔ HA j ≠ none))
    (h : hs_tb HA (fun _ => false) (fun a => a) VA sm ot n fr to li q) : q = fl ↔ hc_PO VA sm ot ∧ hh_T HA n (fun i => VA (fr i)) (fun i => VA (to i)) li := by
  have hct : ∀ c, (∀ j, j < n → hc_pp HA (fun _ => false) (VA (fr j)) (VA (to j)) (li j) (c j)) → (∀ j j', j < n → j' < n → j ≠ j' → hc_Dj (c j) (c j')) → hc_CT HA (fun _ => false) 0 n (fun i => VA (fr i)) (fun i => VA (to i)) li c := fun c h1 h2 => ⟨fun i hi => ⟨h1 i hi, fun _ _ a _ h9 => (by cases h9)⟩, h2⟩
  rcases h with ⟨h1, h2⟩ | ⟨h1, h2, c, h3⟩
  · constructor
    · intro e
      have h31 : bt fl 31 = true := by rw [← e, h1]; exact b_m1 31 (by omega)
      have := hr 31 ((hf 31 (by omega)).mp h31)
      omega
    · rintro ⟨k1, c, k2, k3, -⟩
      exact absurd ⟨k1, c, hct c k2 k3⟩ h2
  · have hcell : ∀ i, i < n → ∀ a, a ∈ c i → HA a ≠ none := fun i hi a ha => hs_cell (h3.1 i hi) ha
    constructor
    · intro e
      refine ⟨h2, c, fun j hj => (h3.1 j hj).1, h3.2.1, fun g hg => ?_⟩
      have h9 := hr g hg
      obtain ⟨i, hi, a, ha, hag⟩ := (h3.2.2 g (by omega)).mp (by rw [e]; exact (hf g (by omega)).mpr hg)
      have hag' : a = g := hag
      exact ⟨i, hi, by rw [← hag']; exact ha⟩
    · rintro ⟨-, c', k2, -, k4⟩
      refine b_ext (fun j hj => ?_)
      rw [Bool.eq_iff_iff, h3.2.2 j hj, hf j hj]
      constructor
      · rintro ⟨i, hi, a, ha, haj⟩
        have haj' : a = j := haj
        rw [← haj']
        exact hcell i hi a ha
      · intro hj0
        obtain ⟨i, hi, hm⟩ := k4 j hj0
        exact ⟨i, hi, j, by rw [hc_pp_det (h3.1 i hi).1 (k2 i hi)]; exact hm, rfl⟩
/-- what is named covers a claim's terms: M, the low five bits -/
theorem ag_M (x : Int32) : ∃ M, M < 32 ∧ ∀ t, t < 5 → bt x t = M.testBit t := by
  obtain ⟨k, hk, rfl⟩ := hm_all x
  refine ⟨k % 32, Nat.mod_lt _ (by omega), fun t ht => ?_⟩
  rw [hb_nI k (by omega), show 32 = 2 ^ 5 from rfl, Nat.testBit_mod_two_pow, decide_eq_true ht, Bool.true_and]
