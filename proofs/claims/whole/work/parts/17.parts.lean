/-! Pieces one after another: what has been taken so far. -/
section PARTS
variable {nx : Nat → Option Nat} {lg : Nat → Bool} {n m : Nat} {S E S' E' : Nat → Nat} {I I' : Nat → Bool} {f : Nat → Bool}
/-- the first i pieces of the one claim and those at bits of f among the first k of the other have the addresses T -/
def hc_PR (nx : Nat → Option Nat) (lg : Nat → Bool) (S' E' : Nat → Nat) (I' : Nat → Bool) (f : Nat → Bool) (S E : Nat → Nat) (I : Nat → Bool) (i k : Nat) (T : Nat → Bool) : Prop :=
  ∃ c d : Nat → List Nat, (∀ j, j < i → hc_pp nx lg (S' j) (E' j) (I' j) (c j)) ∧ (∀ p, p < k → f p = true → hc_pp nx lg (S p) (E p) (I p) (d p)) ∧
    (∀ j j', j < i → j' < i → j ≠ j' → hc_Dj (c j) (c j')) ∧ (∀ j p, j < i → p < k → f p = true → hc_Dj (c j) (d p)) ∧ (∀ p q, p < k → q < k → f p = true → f q = true → p ≠ q → hc_Dj (d p) (d q)) ∧
    ∀ g, g < 6 → (T g = true ↔ (∃ j, j < i ∧ g ∈ c j) ∨ ∃ p, p < k ∧ f p = true ∧ g ∈ d p)
theorem hc_PR_0 : hc_PR nx lg S' E' I' f S E I 0 0 (fun _ => false) :=
  ⟨fun _ => [], fun _ => [], fun _ h => absurd h (Nat.not_lt_zero _), fun _ h => absurd h (Nat.not_lt_zero _), fun _ _ h => absurd h (Nat.not_lt_zero _), fun _ _ h => absurd h (Nat.not_lt_zero _), fun _ _ h => absurd h (Nat.not_lt_zero _), fun g _ =>
    ⟨fun h => (by cases h), fun h => by rcases h with ⟨j, h, _⟩ | ⟨j, h, _⟩ <;> exact absurd h (Nat.not_lt_zero _)⟩⟩
theorem hc_up_s {α : Type} (c : Nat → α) (i : Nat) (x : α) : va_up c i x i = x := by unfold va_up; rw [if_pos rfl]
theorem hc_up_n {α : Type} (c : Nat → α) {i j : Nat} (x : α) (h : j ≠ i) : va_up c i x j = c j := by unfold va_up; rw [if_neg h]
theorem hc_PR_right {i : Nat} {T T' : Nat → Bool} (hkey : ∀ g, nx g ≠ none → g < 6) (h : hc_PR nx lg S' E' I' f S E I i 0 T) {l : List Nat} (hl : hc_pp nx lg (S' i) (E' i) (I' i) l) (hT : ∀ a, a ∈ l → T a = false) (hT' : ∀ g, g < 6 → T' g = (T g || decide (g ∈ l))) :
    hc_PR nx lg S' E' I' f S E I (i + 1) 0 T' := by
  obtain ⟨c, d, h1, h2, h3, h4, h5, h6⟩ := h
  have hfr : ∀ j, j < i → hc_Dj l (c j) := fun j hj a ha hb => by
    have h9 := (h6 a (hkey a (hc_pp_cell hl ha))).mpr (Or.inl ⟨j, hj, hb⟩)
    rw [hT a ha] at h9; cases h9
  refine ⟨va_up c i l, d, fun j hj => ?_, fun _ h => absurd h (Nat.not_lt_zero _), fun j j' hj hj' hjj => ?_, fun _ _ _ h => absurd h (Nat.not_lt_zero _), fun _ _ h => absurd h (Nat.not_lt_zero _), fun g hg => ?_⟩
  · by_cases hji : j = i
    · rw [hji, hc_up_s]; exact hl
    · rw [hc_up_n c l hji]; exact h1 j (by omega)
  · by_cases hji : j = i
    · have hj'i : j' ≠ i := fun q => hjj (hji.trans q.symm)
      rw [hji, hc_up_s, hc_up_n c l hj'i]; exact hfr j' (by omega)
    · by_cases hj'i : j' = i
      · rw [hj'i, hc_up_s, hc_up_n c l hji]; exact (hfr j (by omega)).symm
      · rw [hc_up_n c l hji, hc_up_n c l hj'i]; exact h3 j j' (by omega) (by omega) hjj
  · rw [hT' g hg, Bool.or_eq_true, decide_eq_true_eq, h6 g hg]
    constructor
    · rintro ((⟨j, hj, hgj⟩ | ⟨p, hp, _⟩) | hgl)
      · exact Or.inl ⟨j, by omega, by rw [hc_up_n c l (by omega)]; exact hgj⟩
      · exact absurd hp (Nat.not_lt_zero _)
      · exact Or.inl ⟨i, by omega, by rw [hc_up_s]; exact hgl⟩
    · rintro (⟨j, hj, hgj⟩ | ⟨p, hp, _⟩)
      · by_cases hji : j = i
        · rw [hji, hc_up_s] at hgj; exact Or.inr hgj
        · rw [hc_up_n c l hji] at hgj; exact Or.inl (Or.inl ⟨j, by omega, hgj⟩)
      · exact absurd hp (Nat.not_lt_zero _)
theorem hc_PR_right_no {i : Nat} {T : Nat → Bool} (hkey : ∀ g, nx g ≠ none → g < 6) (hi : i < n) (h : hc_PR nx lg S' E' I' f S E I i 0 T) (hno : ¬ ∃ l, hc_pp nx lg (S' i) (E' i) (I' i) l ∧ ∀ a, a ∈ l → T a = false) : ¬ hc_TR nx lg n S' E' I' m f S E I := by
  rintro ⟨c', d', k1, k2, k3, k4, k5, k6⟩
  obtain ⟨c, d, h1, h2, h3, h4, h5, h6⟩ := h
  refine hno ⟨c' i, k1 i hi, fun a ha => ?_⟩
  cases hTa : T a with
  | false => rfl
  | true =>
    rcases (h6 a (hkey a (hc_pp_cell (k1 i hi) ha))).mp hTa with ⟨j, hj, hm⟩ | ⟨p, hp, _⟩
    · rw [hc_pp_det (h1 j hj) (k1 j (by omega))] at hm
      exact absurd hm (k3 i j hi (by omega) (by omega) a ha)
    · exact absurd hp (Nat.not_lt_zero _)
theorem hc_PR_more {k : Nat} {T T' : Nat → Bool} (hkey : ∀ g, nx g ≠ none → g < 6) (h : hc_PR nx lg S' E' I' f S E I n k T) (hf : f k = true) {l : List Nat} (hl : hc_pp nx lg (S k) (E k) (I k) l) (hT : ∀ a, a ∈ l → T a = false) (hT' : ∀ g, g < 6 → T' g = (T g || decide (g ∈ l))) :
    hc_PR nx lg S' E' I' f S E I n (k + 1) T' := by
  obtain ⟨c, d, h1, h2, h3, h4, h5, h6⟩ := h
  have hfr : ∀ j, j < n → hc_Dj (c j) l := fun j hj a ha hb => by
    have h9 := (h6 a (hkey a (hc_pp_cell hl hb))).mpr (Or.inl ⟨j, hj, ha⟩)
    rw [hT a hb] at h9; cases h9
  have hfr2 : ∀ p, p < k → f p = true → hc_Dj (d p) l := fun p hp hfp a ha hb => by
    have h9 := (h6 a (hkey a (hc_pp_cell hl hb))).mpr (Or.inr ⟨p, hp, hfp, ha⟩)
    rw [hT a hb] at h9; cases h9
  refine ⟨c, va_up d k l, h1, fun p hp hfp => ?_, h3, fun j p hj hp hfp => ?_, fun p q hp hq hfp hfq hpq => ?_, fun g hg => ?_⟩
  · by_cases hpk : p = k
    · rw [hpk, hc_up_s]; exact hl
    · rw [hc_up_n d l hpk]; exact h2 p (by omega) hfp
  · by_cases hpk : p = k
    · rw [hpk, hc_up_s]; exact hfr j hj
    · rw [hc_up_n d l hpk]; exact h4 j p hj (by omega) hfp
  · by_cases hpk : p = k
    · have hqk : q ≠ k := fun e => hpq (hpk.trans e.symm)
      rw [hpk, hc_up_s, hc_up_n d l hqk]; exact (hfr2 q (by omega) hfq).symm
    · by_cases hqk : q = k
      · rw [hqk, hc_up_s, hc_up_n d l hpk]; exact hfr2 p (by omega) hfp
      · rw [hc_up_n d l hpk, hc_up_n d l hqk]; exact h5 p q (by omega) (by omega) hfp hfq hpq
  · rw [hT' g hg, Bool.or_eq_true, decide_eq_true_eq, h6 g hg]
    constructor
    · rintro ((h | ⟨p, hp, hfp, hgp⟩) | hgl)
      · exact Or.inl h
      · exact Or.inr ⟨p, by omega, hfp, by rw [hc_up_n d l (by omega)]; exact hgp⟩
      · exact Or.inr ⟨k, by omega, hf, by rw [hc_up_s]; exact hgl⟩
    · rintro (h | ⟨p, hp, hfp, hgp⟩)
      · exact Or.inl (Or.inl h)
      · by_cases hpk : p = k
        · rw [hpk, hc_up_s] at hgp; exact Or.inr hgp
        · rw [hc_up_n d l hpk] at hgp; exact Or.inl (Or.inr ⟨p, by omega, hfp, hgp⟩)
theorem hc_PR_skip {k : Nat} {T : Nat → Bool} (h : hc_PR nx lg S' E' I' f S E I n k T) (hf : f k = false) : hc_PR nx lg S' E' I' f S E I n (k + 1) T := by
  obtain ⟨c, d, h1, h2, h3, h4, h5, h6⟩ := h
  have hk : ∀ p, p < k + 1 → f p = true → p < k := fun p hp hfp => by
    by_cases hpk : p = k
    · rw [hpk, hf] at hfp; cases hfp
    · omega
  refine ⟨c, d, h1, fun p hp hfp => h2 p (hk p hp hfp) hfp, h3, fun j p hj hp hfp => h4 j p hj (hk p hp hfp) hfp, fun p q hp hq hfp hfq => h5 p q (hk p hp hfp) (hk q hq hfq) hfp hfq, fun g hg => ?_⟩
  rw [h6 g hg]
  constructor
  · rintro (h | ⟨p, hp, hfp, hgp⟩)
    · exact Or.inl h
    · exact Or.inr ⟨p, by omega, hfp, hgp⟩
  · rintro (h | ⟨p, hp, hfp, hgp⟩)
    · exact Or.inl h
    · exact Or.inr ⟨p, hk p hp hfp, hfp, hgp⟩
theorem hc_PR_more_no {k : Nat} {T : Nat → Bool} (hkey : ∀ g, nx g ≠ none → g < 6) (hk : k < m) (hf : f k = true) (h : hc_PR nx lg S' E' I' f S E I n k T) (hno : ¬ ∃ l, hc_pp nx lg (S k) (E k) (I k) l ∧ ∀ a, a ∈ l → T a = false) : ¬ hc_TR nx lg n S' E' I' m f S E I := by
  rintro ⟨c', d', k1, k2, k3, k4, k5, k6⟩
  obtain ⟨c, d, h1, h2, h3, h4, h5, h6⟩ := h
  refine hno ⟨d' k, k2 k hk hf, fun a ha => ?_⟩
  cases hTa : T a with
  | false => rfl
  | true =>
    rcases (h6 a (hkey a (hc_pp_cell (k2 k hk hf) ha))).mp hTa with ⟨j, hj, hm⟩ | ⟨p, hp, hfp, hm⟩
    · rw [hc_pp_det (h1 j hj) (k1 j hj)] at hm
      exact absurd ha (k4 j k hj hk hf a hm)
    · rw [hc_pp_det (h2 p hp hfp) (k2 p (by omega) hfp)] at hm
      exact absurd ha (k5 p k (by omega) hk hfp hf (by omega) a hm)
theorem hc_PR_end {T : Nat → Bool} (hkey : ∀ g, nx g ≠ none → g < 6) (h : hc_PR nx lg S' E' I' f S E I n m T) : hc_TR nx lg n S' E' I' m f S E I ↔ ∀ g, g < 6 → nx g ≠ none → T g = true := by
  obtain ⟨c, d, h1, h2, h3, h4, h5, h6⟩ := h
  constructor
  · rintro ⟨c', d', k1, k2, k3, k4, k5, k6⟩ g hg hn
    refine (h6 g hg).mpr ?_
    rcases k6 g hn with ⟨i, hi, hm⟩ | ⟨p, hp, hfp, hm⟩
    · exact Or.inl ⟨i, hi, by rw [hc_pp_det (h1 i hi) (k1 i hi)]; exact hm⟩
    · exact Or.inr ⟨p, hp, hfp, by rw [hc_pp_det (h2 p hp hfp) (k2 p hp hfp)]; exact hm⟩
  · intro hall
    exact ⟨c, d, h1, h2, h3, h4, h5, fun g hn => (h6 g (hkey g hn)).mp (hall g (hkey g hn) hn)⟩
/-- the reference's walk: fresh addresses to the end -/
theorem hc_take_step {T : Nat → Bool} {g g' e : Nat} (hne : g ≠ e) (hg : nx g = some g') (hT : T g = false) : (∃ l, hc_P nx e l g ∧ ∀ a, a ∈ l → T a = false) ↔ ∃ l, hc_P nx e l g' ∧ ∀ a, a ∈ l → va_up T g true a = false := by
  constructor
  · rintro ⟨l, h1, h2⟩
    cases l with
    | nil => exact absurd (hc_P_nil.mp h1) hne
    | cons b l =>
      have hnd := hc_P_nodup _ _ h1
      obtain ⟨k1, k2, y, hy, k3⟩ := hc_P_cons.mp h1
      rw [hg] at hy
      injection hy with hy
      refine ⟨l, by rw [hy]; exact k3, fun a ha => ?_⟩
      have hag : a ≠ g := fun q => (List.nodup_cons.mp hnd).1 (by rw [k1, ← q]; exact ha)
      rw [hc_up_n T true hag]
      exact h2 a (List.mem_cons_of_mem _ ha)
  · rintro ⟨l, h1, h2⟩
    refine ⟨g :: l, hc_P_cons.mpr ⟨rfl, hne, g', hg, h1⟩, fun a ha => ?_⟩
    rcases List.mem_cons.mp ha with ha | ha
    · rw [ha]; exact hT
    · have h3 := h2 a ha
      by_cases hag : a = g
      · rw [hag, hc_up_s] at h3; cases h3
      · rw [hc_up_n T true hag] at h3; exact h3
end PARTS
