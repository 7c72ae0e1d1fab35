/-! The state in numbers: a claim's arrays, a heap's arrays; rows on their bits. -/
/-- a truth value that a method answers -/
def hc_r (r : Int32) (P : Prop) : Prop := (r = nI 1 ∧ P) ∨ (r = nI 0 ∧ ¬ P)
def hs_cl (S O Fr To Li : Nat → Int32) (sm ot : Nat → Nat → Bool) (n : Nat) (fr to : Nat → Nat) (li : Nat → Bool) : Prop :=
  n ≤ 5 ∧ (∀ a, a < 6 → ∀ i, i < 32 → bt (S a) i = (decide (i < 6) && sm a i) ∧ bt (O a) i = (decide (i < 6) && ot a i)) ∧ ∀ p, p < n → Fr p = nI (fr p) ∧ fr p < 6 ∧ To p = nI (to p) ∧ to p < 6 ∧ Li p = hc_b (li p)
def hs_hp (G : Nat) (EN LG BI : Nat → Int32) (nx : Nat → Option Nat) (lg : Nat → Bool) (bi : Nat → Nat) : Prop :=
  (∀ a, nx a ≠ none → 1 ≤ a ∧ a ≤ G) ∧ ∀ a, 1 ≤ a → a ≤ G → (nx a = none → EN a = -1) ∧ ∀ z, nx a = some z → z ≤ G ∧ EN a = nI z ∧ LG a = hc_b (lg a) ∧ BI a = (1 : Int32) <<< (nI (bi a) &&& 31) ∧ bi a < 31
theorem hs_nm1 (z : Nat) (h : z < 2 ^ 31) : nI z ≠ -1 := fun q => by
  have h1 := nI_toInt h
  rw [q] at h1
  have h2 : (-1 : Int32).toInt = -1 := by decide
  omega
theorem hs_rowS {S0 r : Int32} {sm : Nat → Bool} {v : Nat → Nat} {x : Nat} (hS : ∀ i, i < 32 → bt S0 i = (decide (i < 6) && sm i)) (hr : ∀ i, i < 32 → bt r i = decide (i < 6 ∧ v i = x)) : S0 &&& (r ^^^ (-1)) = 0 ↔ ∀ i, i < 6 → sm i = true → v i = x := by
  rw [hb_0]
  constructor
  · intro h i hi hs
    have h1 := h i (by omega)
    rw [b_and, hb_not _ (by omega), hS i (by omega), hr i (by omega), hs, decide_eq_true hi] at h1
    simp only [Bool.and_self, Bool.true_and, Bool.not_eq_false', decide_eq_true_eq] at h1
    exact h1.2
  · intro h i hi
    rw [b_and, hb_not _ hi, hS i hi, hr i hi]
    by_cases h6 : i < 6
    · cases hs : sm i with
      | false => simp
      | true => simp [h6, h i h6 hs]
    · simp [h6]
theorem hs_rowO {S0 r : Int32} {sm : Nat → Bool} {v : Nat → Nat} {x : Nat} (hS : ∀ i, i < 32 → bt S0 i = (decide (i < 6) && sm i)) (hr : ∀ i, i < 32 → bt r i = decide (i < 6 ∧ v i = x)) : S0 &&& r = 0 ↔ ∀ i, i < 6 → sm i = true → v i ≠ x := by
  rw [hb_0]
  constructor
  · intro h i hi hs e
    have h1 := h i (by omega)
    rw [b_and, hS i (by omega), hr i (by omega), hs, decide_eq_true hi, decide_eq_true ⟨hi, e⟩] at h1
    cases h1
  · intro h i hi
    rw [b_and, hS i hi, hr i hi]
    by_cases h6 : i < 6
    · cases hs : sm i with
      | false => simp
      | true => simp [h6, h i h6 hs]
    · simp [h6]
theorem hs_rowN {S0 O0 : Int32} {sm ot : Nat → Bool} (hS : ∀ i, i < 32 → bt S0 i = (decide (i < 6) && sm i) ∧ bt O0 i = (decide (i < 6) && ot i)) (h : S0 ||| O0 = 0) : ∀ i, i < 6 → sm i = false ∧ ot i = false := by
  intro i hi
  have h1 := hb_0.mp h i (by omega)
  rw [b_or, (hS i (by omega)).1, (hS i (by omega)).2, decide_eq_true hi] at h1
  simpa using h1
