/-! The state at hand of class and reference, step by step. -/
section RS
variable {VW EW LW BW Va Ha : Nat → Int32} {fl : Int32} {VA : Nat → Nat} {HA : Nat → Option Nat} {x y a z : Nat}
def rl_st (VW EW LW BW : Nat → Int32) (fl : Int32) (VA : Nat → Nat) (HA : Nat → Option Nat) : Prop :=
  (∀ j, j < 6 → VW j = nI (VA j)) ∧ (∀ j, j < 6 → VA j ≤ 9) ∧ VA 5 = 0 ∧ hs_hp 9 EW LW BW HA (fun _ => false) (fun a => a) ∧ ∀ j, j < 32 → (bt fl j = true ↔ HA j ≠ none)
theorem rl_give (h : rl_st VW EW LW BW fl VA HA) (hx : x < 5) (hy : y ≤ 9) : rl_st (upd VW x (nI y)) EW LW BW fl (va_up VA x y) HA := by
  obtain ⟨h1, h2, h3, h4, h5⟩ := h
  refine ⟨fun j hj => hw_upd h1 x y j hj, fun j hj => ?_, ?_, h4, h5⟩
  · by_cases hjx : j = x
    · rw [hjx, hc_up_s]; exact hy
    · rw [hc_up_n VA y hjx]; exact h2 j hj
  · rw [hc_up_n VA y (by omega)]; exact h3
theorem rl_set (h : rl_st VW EW LW BW fl VA HA) (ha1 : 1 ≤ a) (ha : a ≤ 9) (hz : z ≤ 9) : rl_st VW (upd EW a (nI z)) (upd LW a (hc_b false)) (upd BW a (nI 1 <<< (nI a &&& 31))) (fl ||| (nI 1 <<< (nI a &&& 31))) VA (va_up HA a (some z)) := by
  obtain ⟨h1, h2, h3, ⟨h4, h6⟩, h5⟩ := h
  refine ⟨h1, h2, h3, ⟨fun b hb => ?_, fun b b1 b2 => ?_⟩, fun j hj => ?_⟩
  · by_cases hba : b = a
    · rw [hba]; omega
    · rw [hc_up_n HA _ hba] at hb; exact h4 b hb
  · by_cases hba : b = a
    · rw [hba, hc_up_s, hy_up_s, hy_up_s, hy_up_s]
      refine ⟨fun q => (by cases q), fun w hw => ?_⟩
      injection hw with hw
      rw [← hw]
      exact ⟨hz, rfl, rfl, rfl, by show a < 31; omega⟩
    · rw [hc_up_n HA _ hba, hy_up_n _ _ hba, hy_up_n _ _ hba, hy_up_n _ _ hba]; exact h6 b b1 b2
  · rw [b_or, Bool.or_eq_true, h5 j hj, rl_1 (by omega) hj, decide_eq_true_eq]
    by_cases hja : j = a
    · rw [hja, hc_up_s]; exact ⟨fun _ q => (by cases q), fun _ => Or.inr rfl⟩
    · rw [hc_up_n HA _ hja]; exact ⟨fun q => q.elim id (fun q => absurd q hja), Or.inl⟩
theorem rl_drop (h : rl_st VW EW LW BW fl VA HA) (hn : HA a ≠ none) : rl_st VW (upd EW a (-1)) LW BW (fl &&& (BW a ^^^ (-1))) VA (va_up HA a none) := by
  obtain ⟨h1, h2, h3, ⟨h4, h6⟩, h5⟩ := h
  have har := h4 a hn
  have hbw : BW a = nI 1 <<< (nI a &&& 31) := by
    cases h9 : HA a with
    | none => exact absurd h9 hn
    | some w => exact ((h6 a har.1 har.2).2 w h9).2.2.2.1
  refine ⟨h1, h2, h3, ⟨fun b hb => ?_, fun b b1 b2 => ?_⟩, fun j hj => ?_⟩
  · by_cases hba : b = a
    · rw [hba, hc_up_s] at hb; exact absurd rfl hb
    · rw [hc_up_n HA _ hba] at hb; exact h4 b hb
  · by_cases hba : b = a
    · rw [hba, hc_up_s, hy_up_s]; exact ⟨fun _ => rfl, fun w hw => (by cases hw)⟩
    · rw [hc_up_n HA _ hba, hy_up_n _ _ hba]; exact h6 b b1 b2
  · rw [b_and, Bool.and_eq_true, h5 j hj, hb_not _ hj, hbw, rl_1 (by omega) hj]
    by_cases hja : j = a
    · rw [hja, hc_up_s]; simp
    · rw [hc_up_n HA _ hja]; simp [hja]
theorem rm_give (h : hr_h Va Ha VA HA) (hx : x < 5) (hy : y ≤ 9) : hr_h (upd Va x (nI y)) Ha (va_up VA x y) HA := by
  obtain ⟨h1, h2, h3, h4⟩ := h
  refine ⟨by rw [hc_up_n VA y (by omega)]; exact h1, fun j hj => ?_, h3, h4⟩
  by_cases hjx : j = x
  · rw [hjx, hy_up_s, hc_up_s]; exact ⟨rfl, hy⟩
  · rw [hy_up_n _ _ hjx, hc_up_n VA y hjx]; exact h2 j hj
theorem rm_set (h : hr_h Va Ha VA HA) (ha1 : 1 ≤ a) (ha : a ≤ 9) (hz : z ≤ 9) : hr_h Va (upd Ha a (nI z)) VA (va_up HA a (some z)) := by
  obtain ⟨h1, h2, h3, h4⟩ := h
  refine ⟨h1, h2, fun b hb => ?_, fun b hb => ?_⟩
  · by_cases hba : b = a
    · rw [hba]; omega
    · rw [hc_up_n HA _ hba] at hb; exact h3 b hb
  · by_cases hba : b = a
    · rw [hba, hc_up_s, hy_up_s]
      exact ⟨fun q => (by cases q), fun w hw => by injection hw with hw; rw [← hw]; exact ⟨hz, rfl⟩⟩
    · rw [hc_up_n HA _ hba, hy_up_n _ _ hba]; exact h4 b hb
theorem rm_drop (h : hr_h Va Ha VA HA) : hr_h Va (upd Ha a (-1)) VA (va_up HA a none) := by
  obtain ⟨h1, h2, h3, h4⟩ := h
  refine ⟨h1, h2, fun b hb => ?_, fun b hb => ?_⟩
  · by_cases hba : b = a
    · rw [hba, hc_up_s] at hb; exact absurd rfl hb
    · rw [hc_up_n HA _ hba] at hb; exact h3 b hb
  · by_cases hba : b = a
    · rw [hba, hc_up_s, hy_up_s]; exact ⟨fun _ => rfl, fun w hw => (by cases hw)⟩
    · rw [hc_up_n HA _ hba, hy_up_n _ _ hba]; exact h4 b hb
end RS
section RM
variable {Sa Oa My Fa Ta La : Nat → Int32} {SA OA : Nat → Bool} {MA FA TA : Nat → Nat} {LA : Nat → Bool} {k c n a b : Nat} {o : Bool}
theorem rm_pairS (h : hr_m Sa Oa My Fa Ta La SA OA MA FA TA LA) : hr_m (upd Sa k (hc_b true)) Oa My Fa Ta La (va_up SA k true) OA MA FA TA LA :=
  ⟨fun j hj => ⟨hw_updb (n := 72) (fun i hi => (h.1 i hi).1) k true j hj, (h.1 j hj).2⟩, h.2⟩
theorem rm_pairO (h : hr_m Sa Oa My Fa Ta La SA OA MA FA TA LA) : hr_m Sa (upd Oa k (hc_b true)) My Fa Ta La SA (va_up OA k true) MA FA TA LA :=
  ⟨fun j hj => ⟨(h.1 j hj).1, hw_updb (n := 72) (fun i hi => (h.1 i hi).2) k true j hj⟩, h.2⟩
theorem rm_piece (h : hr_m Sa Oa My Fa Ta La SA OA MA FA TA LA) (hc : c < 2) (hn : MA c < 5) (ha : a < 6) (hb : b < 6) :
    hr_m Sa Oa (upd My c (nI (MA c + 1))) (upd Fa (5 * c + MA c) (nI a)) (upd Ta (5 * c + MA c) (nI b)) (upd La (5 * c + MA c) (hc_b o)) SA OA (va_up MA c (MA c + 1)) (va_up FA (5 * c + MA c) a) (va_up TA (5 * c + MA c) b) (va_up LA (5 * c + MA c) o) := by
  obtain ⟨h1, h2, h3⟩ := h
  refine ⟨h1, fun d hd => ?_, fun j hj => ?_⟩
  · by_cases hdc : d = c
    · rw [hdc, hy_up_s, hc_up_s]; exact ⟨rfl, by omega⟩
    · rw [hy_up_n _ _ hdc, hc_up_n MA _ hdc]; exact h2 d hd
  · by_cases hjk : j = 5 * c + MA c
    · rw [hjk, hy_up_s, hy_up_s, hy_up_s, hc_up_s, hc_up_s, hc_up_s]; exact ⟨rfl, ha, rfl, hb, rfl⟩
    · rw [hy_up_n _ _ hjk, hy_up_n _ _ hjk, hy_up_n _ _ hjk, hc_up_n FA _ hjk, hc_up_n TA _ hjk, hc_up_n LA _ hjk]; exact h3 j hj
end RM
