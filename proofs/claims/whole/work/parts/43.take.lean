/-! What takenByCell, takenByList, takenBy answer. -/
def hs_tk (nx : Nat → Option Nat) (lg : Nat → Bool) (bi : Nat → Nat) (s e : Nat) (i : Bool) (r : Int32) : Prop :=
  (r = -1 ∧ ¬ ∃ l, hc_cp nx lg 0 s e i l) ∨ (r ≠ -1 ∧ ∃ l, hc_cp nx lg 0 s e i l ∧ ∀ j, j < 32 → (bt r j = true ↔ ∃ a, a ∈ l ∧ bi a = j))
def hs_TB (nx : Nat → Option Nat) (lg : Nat → Bool) (bi : Nat → Nat) (S E : Nat → Nat) (I : Nat → Bool) (p : Nat) (T : Int32) (c : Nat → List Nat) : Prop :=
  (∀ i, i < p → hc_cp nx lg 0 (S i) (E i) (I i) (c i)) ∧ (∀ i j, i < p → j < p → i ≠ j → hc_Dj (c i) (c j)) ∧ ∀ j, j < 32 → (bt T j = true ↔ ∃ i, i < p ∧ ∃ a, a ∈ c i ∧ bi a = j)
section TAKE
variable {nx : Nat → Option Nat} {lg : Nat → Bool} {bi : Nat → Nat} {S E : Nat → Nat} {I : Nat → Bool} {n p : Nat} {T r : Int32} {c : Nat → List Nat} {l : List Nat}
theorem hs_cell {a : Nat} {s e : Nat} {i : Bool} (h : hc_cp nx lg 0 s e i l) (ha : a ∈ l) : nx a ≠ none := hc_pp_cell h.1 ha
theorem hs_bit31 (hb : ∀ a, nx a ≠ none → bi a < 31) (h : ∀ j, j < 32 → (bt r j = true ↔ ∃ a, a ∈ l ∧ bi a = j)) (hl : ∀ a, a ∈ l → nx a ≠ none) : r ≠ -1 := by
  refine hb_m1 (i := 31) (by omega) ?_
  cases h9 : bt r 31 with
  | false => rfl
  | true =>
    obtain ⟨a, h1, h2⟩ := (h 31 (by omega)).mp h9
    have := hb a (hl a h1)
    omega
theorem hs_TB_0 : hs_TB nx lg bi S E I 0 (nI 0) (fun _ => []) := by
  refine ⟨fun _ h => absurd h (Nat.not_lt_zero _), fun _ _ h => absurd h (Nat.not_lt_zero _), fun j hj => ?_⟩
  rw [hb_nI 0 hj]
  simp
theorem hs_TB_step (hbi : ∀ a b, nx a ≠ none → nx b ≠ none → bi a = bi b → a = b) (hb : ∀ a, nx a ≠ none → bi a < 31) (h : hs_TB nx lg bi S E I p T c) (hl : hc_cp nx lg 0 (S p) (E p) (I p) l) (hr : ∀ j, j < 32 → (bt r j = true ↔ ∃ a, a ∈ l ∧ bi a = j)) (hno : r &&& T = 0) :
    hs_TB nx lg bi S E I (p + 1) (T ||| r) (va_up c p l) := by
  obtain ⟨h1, h2, h3⟩ := h
  have hdj : ∀ i, i < p → hc_Dj l (c i) := fun i hi a ha hai => by
    have hn := hs_cell hl ha
    have h9 := hb_0.mp hno (bi a) (by have := hb a hn; omega)
    rw [b_and, (hr (bi a) (by have := hb a hn; omega)).mpr ⟨a, ha, rfl⟩, (h3 (bi a) (by have := hb a hn; omega)).mpr ⟨i, hi, a, hai, rfl⟩] at h9
    cases h9
  refine ⟨fun i hi => ?_, fun i j hi hj hij => ?_, fun j hj => ?_⟩
  · by_cases hip : i = p
    · rw [hip, hc_up_s]; exact hl
    · rw [hc_up_n c l hip]; exact h1 i (by omega)
  · by_cases hip : i = p
    · have hjp : j ≠ p := fun q => hij (hip.trans q.symm)
      rw [hip, hc_up_s, hc_up_n c l hjp]; exact hdj j (by omega)
    · by_cases hjp : j = p
      · rw [hjp, hc_up_s, hc_up_n c l hip]; exact (hdj i (by omega)).symm
      · rw [hc_up_n c l hip, hc_up_n c l hjp]; exact h2 i j (by omega) (by omega) hij
  · rw [b_or, Bool.or_eq_true, h3 j hj, hr j hj]
    constructor
    · rintro (⟨i, hi, a, ha, hab⟩ | ⟨a, ha, hab⟩)
      · exact ⟨i, by omega, a, by rw [hc_up_n c l (by omega)]; exact ha, hab⟩
      · exact ⟨p, by omega, a, by rw [hc_up_s]; exact ha, hab⟩
    · rintro ⟨i, hi, a, ha, hab⟩
      by_cases hip : i = p
      · rw [hip, hc_up_s] at ha; exact Or.inr ⟨a, ha, hab⟩
      · rw [hc_up_n c l hip] at ha; exact Or.inl ⟨i, by omega, a, ha, hab⟩
theorem hs_TB_none (hp : p < n) (hno : ¬ ∃ l, hc_cp nx lg 0 (S p) (E p) (I p) l) : ¬ ∃ c, hc_CT nx lg 0 n S E I c := fun ⟨c, h⟩ => hno ⟨c p, h.1 p hp⟩
theorem hs_TB_over (hbi : ∀ a b, nx a ≠ none → nx b ≠ none → bi a = bi b → a = b) (hp : p < n) (h : hs_TB nx lg bi S E I p T c) (hl : hc_cp nx lg 0 (S p) (E p) (I p) l) (hr : ∀ j, j < 32 → (bt r j = true ↔ ∃ a, a ∈ l ∧ bi a = j)) (hne : ¬ r &&& T = 0) : ¬ ∃ c, hc_CT nx lg 0 n S E I c := by
  rintro ⟨c', k1, k2⟩
  obtain ⟨h1, h2, h3⟩ := h
  obtain ⟨j, hj, hb⟩ := hb_n0.mp hne
  rw [b_and, Bool.and_eq_true] at hb
  obtain ⟨a, ha, hab⟩ := (hr j hj).mp hb.1
  obtain ⟨i, hi, b, hbm, hbb⟩ := (h3 j hj).mp hb.2
  have hab' := hbi a b (hs_cell hl ha) (hs_cell (h1 i hi) hbm) (hab.trans hbb.symm)
  have e1 := hc_pp_det hl.1 (k1 p hp).1
  have e2 := hc_pp_det (h1 i hi).1 (k1 i (by omega)).1
  refine k2 p i hp (by omega) (by omega) a (by rw [← e1]; exact ha) ?_
  rw [← e2, hab']
  exact hbm
theorem hs_TB_end (h : hs_TB nx lg bi S E I n T c) : hc_CT nx lg 0 n S E I c := ⟨h.1, h.2.1⟩
end TAKE
theorem hs_TB_m1 {nx : Nat → Option Nat} {lg : Nat → Bool} {bi : Nat → Nat} {S E : Nat → Nat} {I : Nat → Bool} {n : Nat} {T : Int32} {c : Nat → List Nat} (hb : ∀ a, nx a ≠ none → bi a < 31) (h : hs_TB nx lg bi S E I n T c) : T ≠ -1 := by
  refine hb_m1 (i := 31) (by omega) ?_
  cases h9 : bt T 31 with
  | false => rfl
  | true =>
    obtain ⟨i, hi, a, h1, h2⟩ := (h.2.2 31 (by omega)).mp h9
    have := hb a (hs_cell (h.1 i hi) h1)
    omega
/-- what takenBy answers -/
def hs_tb (nx : Nat → Option Nat) (lg : Nat → Bool) (bi : Nat → Nat) (v : Nat → Nat) (sm ot : Nat → Nat → Bool) (n : Nat) (fr to : Nat → Nat) (li : Nat → Bool) (r : Int32) : Prop :=
  (r = -1 ∧ ¬ (hc_PO v sm ot ∧ ∃ c, hc_CT nx lg 0 n (fun p => v (fr p)) (fun p => v (to p)) li c)) ∨ (r ≠ -1 ∧ hc_PO v sm ot ∧ ∃ c, hs_TB nx lg bi (fun p => v (fr p)) (fun p => v (to p)) li n r c)
theorem hs_b31 {G : Nat} {EN LG BI : Nat → Int32} {nx : Nat → Option Nat} {lg : Nat → Bool} {bi : Nat → Nat} (hH : hs_hp G EN LG BI nx lg bi) : ∀ a, nx a ≠ none → bi a < 31 := fun a ha => by
  cases hn : nx a with
  | none => exact absurd hn ha
  | some z => exact ((hH.2 a (hH.1 a ha).1 (hH.1 a ha).2).2 z hn).2.2.2.2
