/-! The state at hand. -/
def hr_h (Va Ha : Nat → Int32) (VA : Nat → Nat) (HA : Nat → Option Nat) : Prop :=
  VA 5 = 0 ∧ (∀ j, j < 5 → Va j = nI (VA j) ∧ VA j ≤ 9) ∧ (∀ a, HA a ≠ none → 1 ≤ a ∧ a ≤ 9) ∧ ∀ a, a < 10 → (HA a = none → Ha a = -1) ∧ ∀ z, HA a = some z → z ≤ 9 ∧ Ha a = nI z
theorem hm_big {a b : Nat} (h : 2 ^ 31 ≤ a) (h2 : a < 2 ^ 32) (hb : b < 2 ^ 31) : nI a < nI b := by
  have h1 := (hm_neg h2).mpr h
  have h3 := nI_pos' hb
  rw [Int32.lt_iff_toInt_lt] at h1 ⊢
  rw [Int32.le_iff_toInt_le] at h3
  omega
theorem hr_v6 {Va Ha : Nat → Int32} {VA : Nat → Nat} {HA : Nat → Option Nat} (h : hr_h Va Ha VA HA) : ∀ j, j < 6 → VA j ≤ 9 := fun j hj => by
  by_cases h5 : j = 5
  · rw [h5, h.1]; omega
  · exact (h.2.1 j (by omega)).2
section HAND
variable {nx : Nat → Option Nat} {S E : Nat → Nat} {I : Nat → Bool} {n i : Nat} {T T' : Nat → Bool}
/-- the first i pieces have the addresses T -/
def hh_I (nx : Nat → Option Nat) (S E : Nat → Nat) (I : Nat → Bool) (i : Nat) (T : Nat → Bool) : Prop :=
  ∃ c : Nat → List Nat, (∀ j, j < i → hc_pp nx (fun _ => false) (S j) (E j) (I j) (c j)) ∧ (∀ j j', j < i → j' < i → j ≠ j' → hc_Dj (c j) (c j')) ∧ ∀ g, T g = true ↔ ∃ j, j < i ∧ g ∈ c j
/-- the n pieces have all cells between them -/
def hh_T (nx : Nat → Option Nat) (n : Nat) (S E : Nat → Nat) (I : Nat → Bool) : Prop :=
  ∃ c : Nat → List Nat, (∀ j, j < n → hc_pp nx (fun _ => false) (S j) (E j) (I j) (c j)) ∧ (∀ j j', j < n → j' < n → j ≠ j' → hc_Dj (c j) (c j')) ∧ ∀ g, nx g ≠ none → ∃ j, j < n ∧ g ∈ c j
theorem hh_0 : hh_I nx S E I 0 (fun _ => false) :=
  ⟨fun _ => [], fun _ h => absurd h (Nat.not_lt_zero _), fun _ _ h => absurd h (Nat.not_lt_zero _), fun g => ⟨fun h => (by cases h), fun ⟨j, h, _⟩ => absurd h (Nat.not_lt_zero _)⟩⟩
theorem hh_1 {l : List Nat} (h : hh_I nx S E I i T) (hl : hc_pp nx (fun _ => false) (S i) (E i) (I i) l) (hT : ∀ a, a ∈ l → T a = false) (hT' : ∀ g, T' g = (T g || decide (g ∈ l))) : hh_I nx S E I (i + 1) T' := by
  obtain ⟨c, h1, h2, h3⟩ := h
  have hfr : ∀ j, j < i → hc_Dj l (c j) := fun j hj a ha hb => by
    have h9 := (h3 a).mpr ⟨j, hj, hb⟩
    rw [hT a ha] at h9; cases h9
  refine ⟨va_up c i l, fun j hj => ?_, fun j j' hj hj' hjj => ?_, fun g => ?_⟩
  · by_cases hji : j = i
    · rw [hji, hc_up_s]; exact hl
    · rw [hc_up_n c l hji]; exact h1 j (by omega)
  · by_cases hji : j = i
    · have hji' : j' ≠ i := fun q => hjj (hji.trans q.symm)
      rw [hji, hc_up_s, hc_up_n c l hji']; exact hfr j' (by omega)
    · by_cases hji' : j' = i
      · rw [hji', hc_up_s, hc_up_n c l hji]; exact (hfr j (by omega)).symm
      · rw [hc_up_n c l hji, hc_up_n c l hji']; exact h2 j j' (by omega) (by omega) hjj
  · rw [hT' g, Bool.or_eq_true, h3 g, decide_eq_true_eq]
    constructor
    · rintro (⟨j, hj, hg⟩ | hg)
      · exact ⟨j, by omega, by rw [hc_up_n c l (by omega)]; exact hg⟩
      · exact ⟨i, by omega, by rw [hc_up_s]; exact hg⟩
    · rintro ⟨j, hj, hg⟩
      by_cases hji : j = i
      · rw [hji, hc_up_s] at hg; exact Or.inr hg
      · rw [hc_up_n c l hji] at hg; exact Or.inl ⟨j, by omega, hg⟩
theorem hh_no (hi : i < n) (h : hh_I nx S E I i T) (hno : ¬ ∃ l, hc_pp nx (fun _ => false) (S i) (E i) (I i) l ∧ ∀ a, a ∈ l → T a = false) : ¬ hh_T nx n S E I := by
  rintro ⟨c', k1, k2, -⟩
  obtain ⟨c, h1, h2, h3⟩ := h
  refine hno ⟨c' i, k1 i hi, fun a ha => ?_⟩
  cases h9 : T a with
  | false => rfl
  | true =>
    obtain ⟨j, hj, hm⟩ := (h3 a).mp h9
    rw [hc_pp_det (h1 j hj) (k1 j (by omega))] at hm
    exact absurd ha (k2 j i (by omega) hi (by omega) a hm)
theorem hh_e (h : hh_I nx S E I n T) : hh_T nx n S E I ↔ ∀ g, nx g ≠ none → T g = true := by
  obtain ⟨c, h1, h2, h3⟩ := h
  constructor
  · rintro ⟨c', k1, -, k3⟩ g hg
    obtain ⟨j, hj, hm⟩ := k3 g hg
    exact (h3 g).mpr ⟨j, hj, by rw [hc_pp_det (h1 j hj) (k1 j hj)]; exact hm⟩
  · intro hall
    exact ⟨c, h1, h2, fun g hg => (h3 g).mp (hall g hg)⟩
end HAND
/-- how many of the ten are false -/
def hh_k (T : Nat → Bool) : Nat := (!T 0).toNat + (!T 1).toNat + (!T 2).toNat + (!T 3).toNat + (!T 4).toNat + (!T 5).toNat + (!T 6).toNat + (!T 7).toNat + (!T 8).toNat + (!T 9).toNat
theorem hh_k_up {T : Nat → Bool} {g : Nat} (hg : g < 10) (hT : T g = false) : hh_k (va_up T g true) + 1 = hh_k T := by
  unfold hh_k
  have h : ∀ j, va_up T g true j = if j = g then true else T j := fun j => rfl
  rw [h 0, h 1, h 2, h 3, h 4, h 5, h 6, h 7, h 8, h 9]
  rcases (by omega : g = 0 ∨ g = 1 ∨ g = 2 ∨ g = 3 ∨ g = 4 ∨ g = 5 ∨ g = 6 ∨ g = 7 ∨ g = 8 ∨ g = 9) with rfl | rfl | rfl | rfl | rfl | rfl | rfl | rfl | rfl | rfl <;> simp [hT] <;> omega
/-- how many cells there are at 1 .. k -/
def hh_c (HA : Nat → Option Nat) : Nat → Nat
  | 0 => 0
  | k + 1 => hh_c HA k + (if HA (k + 1) = none then 0 else 1)
theorem hh_c_le (HA : Nat → Option Nat) : ∀ k, hh_c HA k ≤ k := by
  intro k
  induction k with
  | zero => exact Nat.le_refl _
  | succ k ih =>
    show hh_c HA k + (if HA (k + 1) = none then 0 else 1) ≤ k + 1
    by_cases h : HA (k + 1) = none
    · rw [if_pos h]; omega
    · rw [if_neg h]; omega
