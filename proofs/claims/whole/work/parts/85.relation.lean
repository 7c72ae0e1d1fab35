/-! The claims of class and reference, step by step. -/
section RL
variable {S O Fr To Li : Nat → Int32} {nm x : Int32} {sm ot sm' ot' : Nat → Nat → Bool} {n a b M : Nat} {fr to : Nat → Nat} {li : Nat → Bool} {o : Bool}
/-- the bits of what a claim names -/
def rl_nm (nm : Int32) (sm ot : Nat → Nat → Bool) (n : Nat) (fr to : Nat → Nat) : Prop :=
  (∀ a, a < 6 → ∀ b, b < 6 → sm a b = true ∨ ot a b = true → bt nm a = true ∧ bt nm b = true) ∧ ∀ p, p < n → bt nm (fr p) = true ∧ bt nm (to p) = true
def rl_cl (S O Fr To Li : Nat → Int32) (nm : Int32) (sm ot : Nat → Nat → Bool) (n : Nat) (fr to : Nat → Nat) (li : Nat → Bool) : Prop := hs_cl S O Fr To Li sm ot n fr to li ∧ rl_nm nm sm ot n fr to
theorem rl_1 {k i : Nat} (hk : k < 32) (hi : i < 32) : bt (nI 1 <<< (nI k &&& 31)) i = decide (i = k) := hb_1 k hk i hi
theorem rl_or {x y : Int32} {t : Nat} (h : bt x t = true) : bt (x ||| y) t = true := by rw [b_or, h]; rfl
theorem rl_ora {x y : Int32} {t : Nat} (h : t < 32) : bt (x ||| ((nI 1 <<< (nI t &&& 31)) ||| y)) t = true := by
  have h1 : bt (nI 1 <<< (nI t &&& 31)) t = true := by rw [rl_1 h h, decide_eq_true rfl]
  rw [b_or, b_or, h1, Bool.true_or, Bool.or_true]
theorem rl_orb {x y : Int32} {t : Nat} (h : t < 32) : bt (x ||| (y ||| (nI 1 <<< (nI t &&& 31)))) t = true := by
  have h1 : bt (nI 1 <<< (nI t &&& 31)) t = true := by rw [rl_1 h h, decide_eq_true rfl]
  rw [b_or, b_or, h1, Bool.or_true, Bool.or_true]
theorem rl_U (h : rl_cl S O Fr To Li nm sm ot n fr to li) (hsub : ∀ t, t < 6 → bt nm t = true → bt x t = true) (hM : ∀ t, t < 5 → bt x t = M.testBit t) : hc_U sm ot n fr to (ag_U M) := by
  have key : ∀ t, t < 6 → bt nm t = true → ag_U M t := fun t ht hb => by
    by_cases h5 : t = 5
    · exact Or.inr h5
    · exact Or.inl ⟨by omega, by rw [← hM t (by omega)]; exact hsub t ht hb⟩
  refine ⟨fun a ha b hb hs => ?_, fun p hp => ?_⟩
  · obtain ⟨h1, h2⟩ := h.2.1 a ha b hb hs
    exact ⟨key a ha h1, key b hb h2⟩
  · obtain ⟨h1, h2⟩ := h.2.2 p hp
    obtain ⟨-, f2, -, f4, -⟩ := h.1.2.2 p hp
    exact ⟨key _ f2 h1, key _ f4 h2⟩
theorem rl_row {S0 : Int32} {s0 s1 : Nat → Bool} (hb : b < 6) (h : ∀ i, i < 32 → bt S0 i = (decide (i < 6) && s0 i)) (h1 : ∀ i, i < 6 → s1 i = (s0 i || decide (i = b))) : ∀ i, i < 32 → bt (S0 ||| (nI 1 <<< (nI b &&& 31))) i = (decide (i < 6) && s1 i) := by
  intro i hi
  rw [b_or, h i hi, rl_1 (by omega) hi]
  by_cases h6 : i < 6
  · rw [h1 i h6, decide_eq_true h6, Bool.true_and, Bool.true_and]
  · rw [decide_eq_false h6, decide_eq_false (show ¬ i = b by omega)]; rfl
/-- a pair more -/
theorem rl_pair (h : rl_cl S O Fr To Li nm sm ot n fr to li) (ha : a < 6) (hb : b < 6) (hs : ∀ y, y < 6 → ∀ z, z < 6 → sm' y z = (sm y z || (!o && decide (y = a ∧ z = b)))) (ho : ∀ y, y < 6 → ∀ z, z < 6 → ot' y z = (ot y z || (o && decide (y = a ∧ z = b)))) :
    rl_cl (bif o then S else upd S a (S a ||| (nI 1 <<< (nI b &&& 31)))) (bif o then upd O a (O a ||| (nI 1 <<< (nI b &&& 31))) else O) Fr To Li (nm ||| ((nI 1 <<< (nI a &&& 31)) ||| (nI 1 <<< (nI b &&& 31)))) sm' ot' n fr to li := by
  obtain ⟨⟨h1, h2, h3⟩, h4, h5⟩ := h
  refine ⟨⟨h1, fun y hy i hi => ?_, h3⟩, fun y hy z hz hyz => ?_, fun p hp => ?_⟩
  · have hrow := h2 y hy
    cases o with
    | true =>
      refine ⟨?_, ?_⟩
      · show bt (S y) i = _
        rw [(hrow i hi).1]
        by_cases h6 : i < 6
        · rw [hs y hy i h6]; simp
        · rw [decide_eq_false h6]; rfl
      · show bt (upd O a (O a ||| (nI 1 <<< (nI b &&& 31))) y) i = _
        by_cases hya : y = a
        · rw [hya, hy_up_s]
          rw [hya] at hrow
          exact rl_row hb (fun j hj => (hrow j hj).2) (fun j hj => by rw [ho a ha j hj]; simp) i hi
        · rw [hy_up_n _ _ hya, (hrow i hi).2]
          by_cases h6 : i < 6
          · rw [ho y hy i h6]; simp [hya]
          · rw [decide_eq_false h6]; rfl
    | false =>
      refine ⟨?_, ?_⟩
      · show bt (upd S a (S a ||| (nI 1 <<< (nI b &&& 31))) y) i = _
        by_cases hya : y = a
        · rw [hya, hy_up_s]
          rw [hya] at hrow
          exact rl_row hb (fun j hj => (hrow j hj).1) (fun j hj => by rw [hs a ha j hj]; simp) i hi
        · rw [hy_up_n _ _ hya, (hrow i hi).1]
          by_cases h6 : i < 6
          · rw [hs y hy i h6]; simp [hya]
          · rw [decide_eq_false h6]; rfl
      · show bt (O y) i = _
        rw [(hrow i hi).2]
        by_cases h6 : i < 6
        · rw [ho y hy i h6]; simp
        · rw [decide_eq_false h6]; rfl
  · have hyz' : (sm y z = true ∨ ot y z = true) ∨ (y = a ∧ z = b) := by
      rcases hyz with q | q
      · rw [hs y hy z hz] at q
        cases h9 : sm y z with
        | true => exact Or.inl (Or.inl rfl)
        | false => rw [h9] at q; simp at q; exact Or.inr q.2
      · rw [ho y hy z hz] at q
        cases h9 : ot y z with
        | true => exact Or.inl (Or.inr rfl)
        | false => rw [h9] at q; simp at q; exact Or.inr q.2
    rcases hyz' with q | ⟨rfl, rfl⟩
    · obtain ⟨k1, k2⟩ := h4 y hy z hz q
      exact ⟨rl_or k1, rl_or k2⟩
    · exact ⟨rl_ora (by omega), rl_orb (by omega)⟩
  · obtain ⟨k1, k2⟩ := h5 p hp
    exact ⟨rl_or k1, rl_or k2⟩
/-- a piece more -/
theorem rl_piece (h : rl_cl S O Fr To Li nm sm ot n fr to li) (hn : n < 5) (ha : a < 6) (hb : b < 6) {fr' to' : Nat → Nat} {li' : Nat → Bool} (hf : ∀ p, p < n → fr' p = fr p ∧ to' p = to p ∧ li' p = li p) (hl : fr' n = a ∧ to' n = b ∧ li' n = o) :
    rl_cl S O (upd Fr n (nI a)) (upd To n (nI b)) (upd Li n (hc_b o)) (nm ||| ((nI 1 <<< (nI a &&& 31)) ||| (nI 1 <<< (nI b &&& 31)))) sm ot (n + 1) fr' to' li' := by
  obtain ⟨⟨h1, h2, h3⟩, h4, h5⟩ := h
  refine ⟨⟨by omega, h2, fun p hp => ?_⟩, fun y hy z hz hyz => ?_, fun p hp => ?_⟩
  · by_cases hpn : p = n
    · rw [hpn, hy_up_s, hy_up_s, hy_up_s, hl.1, hl.2.1, hl.2.2]; exact ⟨rfl, ha, rfl, hb, rfl⟩
    · obtain ⟨e1, e2, e3⟩ := hf p (by omega)
      rw [hy_up_n _ _ hpn, hy_up_n _ _ hpn, hy_up_n _ _ hpn, e1, e2, e3]
      exact h3 p (by omega)
  · obtain ⟨k1, k2⟩ := h4 y hy z hz hyz
    exact ⟨rl_or k1, rl_or k2⟩
  · by_cases hpn : p = n
    · rw [hpn, hl.1, hl.2.1]; exact ⟨rl_ora (by omega), rl_orb (by omega)⟩
    · obtain ⟨e1, e2, -⟩ := hf p (by omega)
      obtain ⟨k1, k2⟩ := h5 p (by omega)
      rw [e1, e2]; exact ⟨rl_or k1, rl_or k2⟩
/-- no pairs, no pieces -/
theorem rl_clear {S' O' : Nat → Int32} (hS : ∀ j, j < 6 → S' j = nI 0) (hO : ∀ j, j < 6 → O' j = nI 0) (hs : ∀ y, y < 6 → ∀ z, z < 6 → sm' y z = false) (ho : ∀ y, y < 6 → ∀ z, z < 6 → ot' y z = false) {fr' to' : Nat → Nat} {li' : Nat → Bool} : rl_cl S' O' Fr To Li (nI 0) sm' ot' 0 fr' to' li' := by
  refine ⟨⟨by omega, fun y hy i hi => ?_, fun p hp => absurd hp (Nat.not_lt_zero _)⟩, fun y hy z hz hyz => ?_, fun p hp => absurd hp (Nat.not_lt_zero _)⟩
  · rw [hS y hy, hO y hy, hb_nI 0 hi]
    by_cases h6 : i < 6
    · rw [hs y hy i h6, ho y hy i h6]; simp
    · rw [decide_eq_false h6]; simp
  · rw [hs y hy z hz, ho y hy z hz] at hyz
    rcases hyz with q | q <;> cases q
end RL
