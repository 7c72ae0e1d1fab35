/-! The reference's search in numbers. -/
section REF
variable {nx : Nat → Option Nat} {lg : Nat → Bool} {e S0 g z : Nat} {T T1 : Nat → Bool}
/-- its arrays hold the state nx, lg -/
def hk_N (Ca Na Ra : Nat → Int32) (nx : Nat → Option Nat) (lg : Nat → Bool) : Prop :=
  (∀ g, nx g ≠ none → g < 6) ∧ ∀ g, g < 6 → (nx g = none → Ca g = hc_b false) ∧ ∀ z, nx g = some z → Ca g = hc_b true ∧ z < 6 ∧ Na g = nI z ∧ Ra g = hc_b (lg g)
/-- on the way from S0 to e, at g -/
def hk_I (nx : Nat → Option Nat) (e : Nat) (T T1 : Nat → Bool) (S0 g : Nat) : Prop :=
  ∃ pre, hc_PP nx e g pre S0 ∧ (∀ a, a ∈ pre → T a = false) ∧ (∀ x, T1 x = (T x || decide (x ∈ pre))) ∧ ((∃ l, hc_P nx e l S0 ∧ ∀ a, a ∈ l → T a = false) ↔ ∃ l, hc_P nx e l g ∧ ∀ a, a ∈ l → T1 a = false)
theorem hk_I0 : hk_I nx e T T S0 S0 := ⟨[], rfl, fun a h => absurd h List.not_mem_nil, fun x => by simp, Iff.rfl⟩
theorem hk_I1 (h : hk_I nx e T T1 S0 g) (hne : g ≠ e) (hz : nx g = some z) (hT : T1 g = false) : hk_I nx e T (va_up T1 g true) S0 z := by
  obtain ⟨pre, h1, h2, h3, h4⟩ := h
  have hTg : T g = false := by
    have := h3 g
    rw [hT] at this
    cases h9 : T g with
    | false => rfl
    | true => rw [h9] at this; cases this
  refine ⟨pre ++ [g], hc_PP_app hne hz pre S0 h1, fun a ha => ?_, fun x => ?_, h4.trans (hc_take_step hne hz hT)⟩
  · rcases List.mem_append.mp ha with ha | ha
    · exact h2 a ha
    · rw [List.mem_singleton.mp ha]; exact hTg
  · by_cases hxg : x = g
    · rw [hxg, hc_up_s]; simp
    · rw [hc_up_n T1 true hxg, h3 x]
      congr 1
      simp [hxg]
theorem hk_Ie (h : hk_I nx e T T1 S0 e) : ∃ l, hc_P nx e l S0 ∧ (∀ a, a ∈ l → T a = false) ∧ ∀ x, T1 x = (T x || decide (x ∈ l)) := by
  obtain ⟨pre, h1, h2, h3, -⟩ := h
  exact ⟨pre, h1, h2, h3⟩
theorem hk_In (h : hk_I nx e T T1 S0 g) (hne : g ≠ e) (hno : ∀ z, nx g = some z → T1 g = true) : ¬ ∃ l, hc_P nx e l S0 ∧ ∀ a, a ∈ l → T a = false := by
  obtain ⟨pre, -, -, -, h4⟩ := h
  rw [h4]
  rintro ⟨l, h1, h2⟩
  cases l with
  | nil => exact hne (hc_P_nil.mp h1)
  | cons b l =>
    obtain ⟨k1, -, y, hy, -⟩ := hc_P_cons.mp h1
    have h5 := h2 b List.mem_cons_self
    rw [k1, hno y hy] at h5
    cases h5
/-- how many of the six are false -/
def hk_c (T : Nat → Bool) : Nat := (!T 0).toNat + (!T 1).toNat + (!T 2).toNat + (!T 3).toNat + (!T 4).toNat + (!T 5).toNat
theorem hk_c_up (hg : g < 6) (hT : T g = false) : hk_c (va_up T g true) + 1 = hk_c T := by
  unfold hk_c
  have h : ∀ j, va_up T g true j = if j = g then true else T j := fun j => rfl
  rw [h 0, h 1, h 2, h 3, h 4, h 5]
  rcases (by omega : g = 0 ∨ g = 1 ∨ g = 2 ∨ g = 3 ∨ g = 4 ∨ g = 5) with rfl | rfl | rfl | rfl | rfl | rfl <;> simp [hT] <;> omega
theorem hk_c_le : hk_c T ≤ 6 := by
  unfold hk_c
  have h : ∀ b : Bool, b.toNat ≤ 1 := by decide
  have h0 := h (!T 0); have h1 := h (!T 1); have h2 := h (!T 2); have h3 := h (!T 3); have h4 := h (!T 4); have h5 := h (!T 5)
  omega
/-- the bit p of more -/
theorem hk_more : ∀ p, p < 5 → ∀ x : Int32, (x >>> (nI p &&& 31)) &&& nI 1 = nI 1 ↔ bt x p = true := by
  intro p hp x
  have h1 : ∀ i, i < 32 → bt (nI 1) i = decide (i = 0) := by decide +kernel
  constructor
  · intro h
    have h2 : bt ((x >>> (nI p &&& 31)) &&& nI 1) 0 = bt (nI 1) 0 := by rw [h]
    rw [b_and, b_sshr p (by omega) x (by omega), if_pos (by omega), h1 0 (by omega)] at h2
    simpa using h2
  · intro h
    refine b_ext (fun i hi => ?_)
    rw [b_and, h1 i hi]
    by_cases hi0 : i = 0
    · rw [hi0, b_sshr p (by omega) x (by omega), if_pos (by omega), Nat.add_zero, h]; rfl
    · rw [decide_eq_false hi0, Bool.and_false]
theorem hk_T1 (g j : Nat) : va_up T g true j = (T j || decide (j ∈ [g])) := by
  by_cases h : j = g
  · rw [h, hc_up_s]; simp
  · rw [hc_up_n T true h]; simp [h]
def hk_R (v : Nat → Nat) (SA OA : Nat → Bool) (MA FA TA : Nat → Nat) (LA : Nat → Bool) (mo : Int32) (nx : Nat → Option Nat) (lg : Nat → Bool) : Prop :=
  hc_PO v (hr_s SA 1) (hr_s OA 1) ∧ hc_TR nx lg (MA 1) (fun i => v (FA (5 + i))) (fun i => v (TA (5 + i))) (fun i => LA (5 + i)) (MA 0) (fun p => bt mo p) (fun p => v (FA p)) (fun p => v (TA p)) LA
def hk_L (dm : Nat) (v : Nat → Nat) (oa ob : Nat) (R : (Nat → Option Nat) → (Nat → Bool) → Prop) (nx : Nat → Option Nat) (lg : Nat → Bool) : Prop :=
  if dm = 1 then ¬ R nx lg else if dm = 2 then v oa ≠ v ob else if dm = 3 then v oa = v ob else if dm = 4 then nx (v oa) = none else True
end REF
section BEGUN
variable {vn p n : Nat} {S E : Nat → Nat} {I : Nat → Bool} {Ca Na Ra : Nat → Int32} {CA : Nat → Bool}
/-- the first p pieces have begun -/
def hg_I (vn : Nat) (S E : Nat → Nat) (I : Nat → Bool) (p : Nat) (Ca Na Ra : Nat → Int32) (CA : Nat → Bool) : Prop :=
  hc_BG vn p S E I ∧ (∀ j, j < 6 → Ca j = hc_b (CA j)) ∧ (∀ g, g < 6 → (CA g = true ↔ ∃ q, q < p ∧ hc_N S E I q ∧ S q = g)) ∧ ∀ q, q < p → hc_N S E I q → Na (S q) = nI (E q) ∧ Ra (S q) = hc_b false
theorem hg_0 (h : ∀ j, j < 6 → Ca j = hc_b false) : hg_I vn S E I 0 Ca Na Ra (fun _ => false) :=
  ⟨fun _ h => absurd h (Nat.not_lt_zero _), h, fun g _ => ⟨fun h => (by cases h), fun ⟨q, h, _⟩ => absurd h (Nat.not_lt_zero _)⟩, fun _ h => absurd h (Nat.not_lt_zero _)⟩
theorem hg_skip (h : hg_I vn S E I p Ca Na Ra CA) (hN : ¬ hc_N S E I p) : hg_I vn S E I (p + 1) Ca Na Ra CA := by
  obtain ⟨h1, h2, h3, h4⟩ := h
  have hlt : ∀ i, i < p + 1 → hc_N S E I i → i < p := fun i hi hNi => by
    by_cases hip : i = p
    · rw [hip] at hNi; exact absurd hNi hN
    · omega
  refine ⟨fun i hi hNi => ⟨(h1 i (hlt i hi hNi) hNi).1, fun q hq hNq => (h1 i (hlt i hi hNi) hNi).2 q (hlt q hq hNq) hNq⟩, h2, fun g hg => ?_, fun i hi hNi => h4 i (hlt i hi hNi) hNi⟩
  rw [h3 g hg]
  exact ⟨fun ⟨q, a, b, d⟩ => ⟨q, by omega, b, d⟩, fun ⟨q, a, b, d⟩ => ⟨q, hlt q a b, b, d⟩⟩
theorem hg_set (h : hg_I vn S E I p Ca Na Ra CA) (hN : hc_N S E I p) (h0 : S p ≠ vn) (hS : S p < 6) (hC : CA (S p) = false) :
    hg_I vn S E I (p + 1) (upd Ca (S p) (hc_b true)) (upd Na (S p) (nI (E p))) (upd Ra (S p) (hc_b false)) (va_up CA (S p) true) := by
  obtain ⟨h1, h2, h3, h4⟩ := h
  have hne : ∀ i, i < p → hc_N S E I i → S i ≠ S p := fun i hi hNi q => by
    have := (h3 (S p) hS).mpr ⟨i, hi, hNi, q⟩
    rw [hC] at this; cases this
  refine ⟨fun i hi hNi => ⟨?_, fun q hq hNq hqi => ?_⟩, fun j hj => hw_updb h2 (S p) true j hj, fun g hg => ?_, fun i hi hNi => ?_⟩
  · by_cases hip : i = p
    · rw [hip]; exact h0
    · exact (h1 i (by omega) hNi).1
  · by_cases hip : i = p
    · by_cases hqp : q = p
      · rw [hip, hqp]
      · rw [hip] at hqi; exact absurd hqi (hne q (by omega) hNq)
    · by_cases hqp : q = p
      · rw [hqp] at hqi; exact absurd hqi.symm (hne i (by omega) hNi)
      · exact (h1 i (by omega) hNi).2 q (by omega) hNq hqi
  · by_cases hgp : g = S p
    · rw [hgp, hc_up_s]; exact ⟨fun _ => ⟨p, by omega, hN, rfl⟩, fun _ => rfl⟩
    · rw [hc_up_n CA true hgp, h3 g hg]
      exact ⟨fun ⟨q, a, b, d⟩ => ⟨q, by omega, b, d⟩, fun ⟨q, a, b, d⟩ => ⟨q, by by_cases hqp : q = p; (rw [hqp] at d; exact absurd d.symm hgp); omega, b, d⟩⟩
  · unfold upd
    by_cases hip : i = p
    · rw [hip, if_pos rfl, if_pos rfl]; exact ⟨rfl, rfl⟩
    · rw [if_neg (hne i (by omega) hNi), if_neg (hne i (by omega) hNi)]; exact h4 i (by omega) hNi
theorem hg_no (h : hg_I vn S E I p Ca Na Ra CA) (hp : p < n) (hN : hc_N S E I p) (hS : S p < 6) (hC : CA (S p) = true) : ¬ hc_BG vn n S E I := fun hB => by
  obtain ⟨q, a, b, d⟩ := (h.2.2.1 (S p) hS).mp hC
  have := (hB p hp hN).2 q (by omega) b d
  omega
end BEGUN
section NODE
variable {n p p' x e k g vn : Nat} {S E v : Nat → Nat} {I : Nat → Bool} {rs : List (Nat × Nat)} {as : List (Nat × Nat × Bool)} {CA : Nat → Bool} {Ca Na Ra : Nat → Int32} {b : Bool}
/-- a place of the search: piece p, its list at x, rs to come, as what is chosen -/
def hy_N (n : Nat) (S E : Nat → Nat) (I : Nat → Bool) (p x e : Nat) (rs : List (Nat × Nat)) (as : List (Nat × Nat × Bool)) (CA : Nat → Bool) (k : Nat) : Prop :=
  p < n ∧ x < 6 ∧ e = E p ∧ rs = hc_rem S E I (p + 1) (n - (p + 1)) ∧ (∀ g, g < 6 → (CA g = true ↔ hc_nx as g ≠ none ∨ g = x ∨ ∃ r, r ∈ rs ∧ r.1 = g)) ∧
    (∀ g, hc_nx as g ≠ none → g < 6 ∧ g ≠ x ∧ ∀ r, r ∈ rs → r.1 ≠ g) ∧ (∀ r, r ∈ rs → r.1 ≠ x) ∧ (∀ q, q < n → hc_N S E I q → CA (S q) = true) ∧ rs.length + 1 + hk_c CA ≤ k + 1
def hy_A (as : List (Nat × Nat × Bool)) (Na Ra : Nat → Int32) : Prop := ∀ g z, hc_nx as g = some z → z < 6 ∧ Na g = nI z ∧ Ra g = hc_b (hc_fa as g)
theorem hy_free (h : hy_N n S E I p x e rs as CA k) (hS : ∀ q, q < n → S q < 6) (hg : g < 6) :
    ((∃ t, t < 6 ∧ v t = g) ∧ g ≠ e ∧ g ≠ vn ∧ CA g = false) ↔ ((∃ t, t < 6 ∧ v t = g) ∧ g ≠ vn ∧ ∀ q, q < n → hc_N S E I q → S q ≠ g) ∧ g ≠ e ∧ g ≠ x ∧ hc_nx as g = none := by
  obtain ⟨a1, a2, a3, a4, a5, a6, a7, a8, a9⟩ := h
  constructor
  · rintro ⟨h1, h2, h3, h4⟩
    refine ⟨⟨h1, h3, fun q hq hN hqg => ?_⟩, h2, fun q => ?_, ?_⟩
    · have := a8 q hq hN
      rw [hqg, h4] at this; cases this
    · have := (a5 g hg).mpr (Or.inr (Or.inl q))
      rw [h4] at this; cases this
    · cases h9 : hc_nx as g with
      | none => rfl
      | some z =>
        have := (a5 g hg).mpr (Or.inl (by rw [h9]; exact fun q => (by cases q)))
        rw [h4] at this; cases this
  · rintro ⟨⟨h1, h3, h5⟩, h2, h6, h7⟩
    refine ⟨h1, h2, h3, ?_⟩
    cases h9 : CA g with
    | false => rfl
    | true =>
      rcases (a5 g hg).mp h9 with q | q | ⟨r, hr, hrg⟩
      · exact absurd h7 q
      · exact absurd q h6
      · rw [a4] at hr
        obtain ⟨t, ht, e1⟩ := List.mem_map.mp hr
        obtain ⟨t1, t2, t3, t4⟩ := (hc_ls_mem _ _ _).mp ht
        rw [← e1] at hrg
        exact absurd hrg (h5 t (by omega) (fun _ => t4))
theorem hy_next (h1 : p ≤ p') (h2 : p' < n) (hI : I p' = true) (hN : S p' ≠ E p') (hno : ∀ y, p ≤ y → y < p' → ¬ (I y = true ∧ S y ≠ E y)) :
    hc_rem S E I p (n - p) = (S p', E p') :: hc_rem S E I (p' + 1) (n - (p' + 1)) := by
  obtain ⟨j, hj⟩ : ∃ j, p' = p + j := ⟨p' - p, by omega⟩
  induction j generalizing p with
  | zero =>
    have hpp : p' = p := by omega
    subst hpp
    obtain ⟨w, hw⟩ : ∃ w, n - p' = w + 1 := ⟨n - p' - 1, by omega⟩
    rw [hw, show n - (p' + 1) = w by omega]
    unfold hc_rem
    rw [show hc_ls S E I p' (w + 1) = p' :: hc_ls S E I (p' + 1) w by show (if I p' = true ∧ S p' ≠ E p' then _ else _) = _; rw [if_pos ⟨hI, hN⟩]]
    rfl
  | succ j ih =>
    obtain ⟨w, hw⟩ : ∃ w, n - p = w + 1 := ⟨n - p - 1, by omega⟩
    have h9 := ih (p := p + 1) (by omega) (fun y h5 h6 => hno y (by omega) h6) (by omega)
    rw [hw, ← h9, show n - (p + 1) = w by omega]
    unfold hc_rem
    rw [show hc_ls S E I p (w + 1) = hc_ls S E I (p + 1) w by show (if I p = true ∧ S p ≠ E p then _ else _) = _; rw [if_neg (hno p (by omega) (by omega))]]
theorem hy_last (hno : ∀ y, p ≤ y → y < n → ¬ (I y = true ∧ S y ≠ E y)) : hc_rem S E I p (n - p) = [] := by
  unfold hc_rem
  cases h9 : hc_ls S E I p (n - p) with
  | nil => rfl
  | cons a l =>
    obtain ⟨t1, t2, t3⟩ := (hc_ls_mem (n - p) p a).mp (by rw [h9]; exact List.mem_cons_self)
    exact absurd t3 (hno a t1 (by omega))
theorem hy_nxc (y : Nat) (as : List (Nat × Nat × Bool)) (x z : Nat) (b : Bool) : hc_nx ((x, z, b) :: as) y = if x = y then some z else hc_nx as y := rfl
theorem hy_fac (y : Nat) (as : List (Nat × Nat × Bool)) (x z : Nat) (b : Bool) : hc_fa ((x, z, b) :: as) y = if x = y then b else hc_fa as y := rfl
/-- a new address on the list -/
theorem hy_via (h : hy_N n S E I p x e rs as CA (k + 1)) (hg : g < 6) (hC : CA g = false) : hy_N n S E I p g e rs ((x, g, b) :: as) (va_up CA g true) k := by
  obtain ⟨a1, a2, a3, a4, a5, a6, a7, a8, a9⟩ := h
  have hno : ¬ (hc_nx as g ≠ none ∨ g = x ∨ ∃ r, r ∈ rs ∧ r.1 = g) := fun q => by
    have := (a5 g hg).mpr q
    rw [hC] at this; cases this
  refine ⟨a1, hg, a3, a4, fun j hj => ?_, fun j hj => ?_, fun r hr q => hno (Or.inr (Or.inr ⟨r, hr, q⟩)), fun q hq hN => ?_, ?_⟩
  · by_cases hjg : j = g
    · rw [hjg, hc_up_s]; exact ⟨fun _ => Or.inr (Or.inl rfl), fun _ => rfl⟩
    · rw [hc_up_n CA true hjg, a5 j hj, hy_nxc]
      constructor
      · rintro (q | q | q)
        · by_cases hxj : x = j
          · rw [if_pos hxj]; exact Or.inl (fun q => (by cases q))
          · rw [if_neg hxj]; exact Or.inl q
        · rw [if_pos q.symm]; exact Or.inl (fun q => (by cases q))
        · exact Or.inr (Or.inr q)
      · rintro (q | q | q)
        · by_cases hxj : x = j
          · exact Or.inr (Or.inl hxj.symm)
          · rw [if_neg hxj] at q; exact Or.inl q
        · exact absurd q hjg
        · exact Or.inr (Or.inr q)
  · rw [hy_nxc] at hj
    by_cases hxj : x = j
    · rw [← hxj]
      exact ⟨a2, fun q => hno (Or.inr (Or.inl q.symm)), a7⟩
    · rw [if_neg hxj] at hj
      obtain ⟨b1, b2, b3⟩ := a6 j hj
      exact ⟨b1, fun q => hno (Or.inl (by rw [← q]; exact hj)), b3⟩
  · unfold va_up
    by_cases hqg : S q = g
    · rw [if_pos hqg]
    · rw [if_neg hqg]; exact a8 q hq hN
  · have := hk_c_up hg hC
    omega
/-- the list's end, and the next list -/
theorem hy_end (h : hy_N n S E I p x e rs as CA (k + 1)) (hB : hc_BG vn n S E I) (hS : ∀ q, q < n → S q < 6) (h1 : p + 1 ≤ p') (h2 : p' < n) (hI : I p' = true) (hN : S p' ≠ E p') (hno : ∀ y, p + 1 ≤ y → y < p' → ¬ (I y = true ∧ S y ≠ E y)) :
    rs = (S p', E p') :: hc_rem S E I (p' + 1) (n - (p' + 1)) ∧ hy_N n S E I p' (S p') (E p') (hc_rem S E I (p' + 1) (n - (p' + 1))) ((x, e, b) :: as) CA k := by
  obtain ⟨a1, a2, a3, a4, a5, a6, a7, a8, a9⟩ := h
  have hrs := a4.trans (hy_next h1 h2 hI hN hno)
  refine ⟨hrs, h2, hS p' h2, rfl, rfl, fun j hj => ?_, fun j hj => ?_, fun r hr q => ?_, a8, ?_⟩
  · rw [a5 j hj, hrs, hy_nxc]
    constructor
    · rintro (q | q | ⟨r, hr, q⟩)
      · by_cases hxj : x = j
        · rw [if_pos hxj]; exact Or.inl (fun q => (by cases q))
        · rw [if_neg hxj]; exact Or.inl q
      · rw [if_pos q.symm]; exact Or.inl (fun q => (by cases q))
      · rcases List.mem_cons.mp hr with hr | hr
        · rw [hr] at q; exact Or.inr (Or.inl q.symm)
        · exact Or.inr (Or.inr ⟨r, hr, q⟩)
    · rintro (q | q | ⟨r, hr, q⟩)
      · by_cases hxj : x = j
        · exact Or.inr (Or.inl hxj.symm)
        · rw [if_neg hxj] at q; exact Or.inl q
      · exact Or.inr (Or.inr ⟨_, List.mem_cons_self, q.symm⟩)
      · exact Or.inr (Or.inr ⟨r, List.mem_cons_of_mem _ hr, q⟩)
  · rw [hy_nxc] at hj
    rw [hrs] at a6 a7
    by_cases hxj : x = j
    · rw [← hxj]
      exact ⟨a2, fun q => a7 _ List.mem_cons_self q.symm, fun r hr => a7 r (List.mem_cons_of_mem _ hr)⟩
    · rw [if_neg hxj] at hj
      obtain ⟨b1, b2, b3⟩ := a6 j hj
      exact ⟨b1, fun q => b3 _ List.mem_cons_self q.symm, fun r hr => b3 r (List.mem_cons_of_mem _ hr)⟩
  · obtain ⟨t, ht, e1⟩ := List.mem_map.mp hr
    obtain ⟨t1, t2, t3, t4⟩ := (hc_ls_mem _ _ _).mp ht
    rw [← e1] at q
    have := (hB p' h2 (fun _ => hN)).2 t (by omega) (fun _ => t4) q
    omega
  · rw [hrs, List.length_cons] at a9
    omega
/-- no list is left -/
theorem hy_leaf (h : hy_N n S E I p x e rs as CA k) (hrs : rs = []) (he : e < 6) (hA : hy_A as Na Ra) (hCa : ∀ j, j < 6 → Ca j = hc_b (CA j)) : hk_N Ca (upd Na x (nI e)) (upd Ra x (hc_b b)) (hc_nx ((x, e, b) :: as)) (hc_fa ((x, e, b) :: as)) := by
  obtain ⟨a1, a2, a3, a4, a5, a6, a7, a8, a9⟩ := h
  rw [hrs] at a5
  refine ⟨fun j hj => ?_, fun j hj => ⟨fun q => ?_, fun z hz => ?_⟩⟩
  · rw [hy_nxc] at hj
    by_cases hxj : x = j
    · rw [← hxj]; exact a2
    · rw [if_neg hxj] at hj; exact (a6 j hj).1
  · rw [hCa j hj]
    cases h9 : CA j with
    | false => rfl
    | true =>
      rw [hy_nxc] at q
      rcases (a5 j hj).mp h9 with w | w | ⟨r, hr, _⟩
      · by_cases hxj : x = j
        · rw [if_pos hxj] at q; cases q
        · rw [if_neg hxj] at q; exact absurd q w
      · rw [if_pos w.symm] at q; cases q
      · exact absurd hr List.not_mem_nil
  · rw [hy_nxc] at hz
    rw [hy_fac]
    unfold upd
    by_cases hxj : x = j
    · rw [if_pos hxj] at hz
      injection hz with hz
      rw [if_pos hxj, if_pos hxj.symm, if_pos hxj.symm, ← hz]
      refine ⟨?_, he, rfl, rfl⟩
      rw [hCa j hj, (a5 j hj).mpr (Or.inr (Or.inl hxj.symm))]
    · rw [if_neg hxj] at hz
      rw [if_neg hxj, if_neg (fun q => hxj q.symm), if_neg (fun q => hxj q.symm)]
      obtain ⟨c1, c2, c3⟩ := hA j z hz
      exact ⟨by rw [hCa j hj, (a5 j hj).mpr (Or.inl (by rw [hz]; exact fun q => (by cases q)))], c1, c2, c3⟩
theorem hy_A_new {y : Nat} (hA : hy_A as Na Ra) (hy : y < 6) (hx : hc_nx as x = none) : hy_A ((x, y, b) :: as) (upd Na x (nI y)) (upd Ra x (hc_b b)) := by
  intro j z hz
  rw [hy_nxc] at hz
  rw [hy_fac]
  unfold upd
  by_cases hxj : x = j
  · rw [if_pos hxj] at hz
    injection hz with hz
    rw [if_pos hxj, if_pos hxj.symm, if_pos hxj.symm, ← hz]
    exact ⟨hy, rfl, rfl⟩
  · rw [if_neg hxj] at hz
    rw [if_neg hxj, if_neg (fun q => hxj q.symm), if_neg (fun q => hxj q.symm)]
    exact hA j z hz
theorem hy_A_old {y : Nat} (hA : hy_A ((x, y, b) :: as) Na Ra) (hx : hc_nx as x = none) : hy_A as Na Ra := by
  intro j z hz
  have hxj : ¬ x = j := fun q => by rw [← q, hx] at hz; cases hz
  have h1 := hA j z (by rw [hy_nxc, if_neg hxj]; exact hz)
  rw [hy_fac, if_neg hxj] at h1
  exact h1
theorem hy_x (h : hy_N n S E I p x e rs as CA k) : hc_nx as x = none := by
  cases h9 : hc_nx as x with
  | none => rfl
  | some z => exact absurd rfl (h.2.2.2.2.2.1 x (by rw [h9]; exact fun q => (by cases q))).2.1
theorem hy_as0_fn (hB : hc_BG vn n S E I) : hc_fn (hc_as0 S E I n) := by
  intro y z hy hz hyz
  obtain ⟨a, a1, a2, a3⟩ := (hc_as0_mem n y).mp hy
  obtain ⟨c, c1, c2, c3⟩ := (hc_as0_mem n z).mp hz
  have h9 := (hB c c1 (fun q => by rw [c2] at q; cases q)).2 a a1 (fun q => by rw [a2] at q; cases q) (by rw [a3, c3] at hyz; exact hyz)
  rw [a3, c3, h9]
theorem hy_A0 (hB : hc_BG vn n S E I) (hE : ∀ q, q < n → E q < 6) (h : hg_I vn S E I n Ca Na Ra CA) : hy_A (hc_as0 S E I n) Na Ra := by
  intro j z hz
  obtain ⟨y, y1, y2, y3, y4⟩ := hc_nx_some _ _ _ hz
  obtain ⟨a, a1, a2, a3⟩ := (hc_as0_mem n y).mp y1
  rw [y4, ← y2, ← y3, a3]
  have h9 := h.2.2.2 a a1 (fun q => by rw [a2] at q; cases q)
  exact ⟨hE a a1, h9.1, h9.2⟩
theorem hy_as0_key (hB : hc_BG vn n S E I) (j : Nat) : hc_nx (hc_as0 S E I n) j ≠ none ↔ ∃ q, q < n ∧ I q = false ∧ S q = j := by
  constructor
  · intro h
    cases h9 : hc_nx (hc_as0 S E I n) j with
    | none => exact absurd h9 h
    | some z =>
      obtain ⟨y, y1, y2, y3, y4⟩ := hc_nx_some _ _ _ h9
      obtain ⟨a, a1, a2, a3⟩ := (hc_as0_mem n y).mp y1
      exact ⟨a, a1, a2, by rw [← y2, a3]⟩
  · rintro ⟨q, q1, q2, q3⟩ h
    exact hc_nx_none _ _ h (S q, E q, false) ((hc_as0_mem n _).mpr ⟨q, q1, q2, rfl⟩) q3
theorem hy_0 (hB : hc_BG vn n S E I) (hn : n ≤ 5) (hS : ∀ q, q < n → S q < 6) (h : hg_I vn S E I n Ca Na Ra CA) (h2 : p < n) (hI : I p = true) (hN : S p ≠ E p) (hno : ∀ y, 0 ≤ y → y < p → ¬ (I y = true ∧ S y ≠ E y)) :
    hc_rem S E I 0 n = (S p, E p) :: hc_rem S E I (p + 1) (n - (p + 1)) ∧ hy_N n S E I p (S p) (E p) (hc_rem S E I (p + 1) (n - (p + 1))) (hc_as0 S E I n) CA 10 := by
  have hrs := hy_next (n := n) (Nat.zero_le p) h2 hI hN hno
  rw [Nat.sub_zero] at hrs
  have hmem : ∀ r, r ∈ hc_rem S E I (p + 1) (n - (p + 1)) → ∃ t, p + 1 ≤ t ∧ t < n ∧ I t = true ∧ S t ≠ E t ∧ r = (S t, E t) := fun r hr => by
    obtain ⟨t, ht, e1⟩ := List.mem_map.mp hr
    obtain ⟨t1, t2, t3, t4⟩ := (hc_ls_mem _ _ _).mp ht
    exact ⟨t, t1, by omega, t3, t4, e1.symm⟩
  have hNI : ∀ q, I q = false → hc_N S E I q := fun q h9 h8 => by rw [h9] at h8; cases h8
  refine ⟨hrs, h2, hS p h2, rfl, rfl, fun j hj => ?_, fun j hj => ?_, fun r hr q => ?_, fun q hq hNq => (h.2.2.1 _ (hS q hq)).mpr ⟨q, hq, hNq, rfl⟩, ?_⟩
  · rw [h.2.2.1 j hj, hy_as0_key hB]
    constructor
    · rintro ⟨q, q1, q2, q3⟩
      cases hIq : I q with
      | false => exact Or.inl ⟨q, q1, hIq, q3⟩
      | true =>
        have hm : (S q, E q) ∈ hc_rem S E I 0 n := List.mem_map.mpr ⟨q, (hc_ls_mem _ _ _).mpr ⟨Nat.zero_le _, by omega, hIq, q2 hIq⟩, rfl⟩
        rw [hrs] at hm
        rcases List.mem_cons.mp hm with hm | hm
        · injection hm with e1 e2
          exact Or.inr (Or.inl (by rw [← q3, e1]))
        · exact Or.inr (Or.inr ⟨_, hm, q3⟩)
    · rintro (⟨q, q1, q2, q3⟩ | q | ⟨r, hr, q⟩)
      · exact ⟨q, q1, hNI q q2, q3⟩
      · exact ⟨p, h2, fun _ => hN, q.symm⟩
      · obtain ⟨t, t1, t2, t3, t4, t5⟩ := hmem r hr
        exact ⟨t, t2, fun _ => t4, by rw [← q, t5]⟩
  · obtain ⟨q, q1, q2, q3⟩ := (hy_as0_key hB j).mp hj
    refine ⟨by rw [← q3]; exact hS q q1, fun e1 => ?_, fun r hr e1 => ?_⟩
    · have := (hB p h2 (fun _ => hN)).2 q q1 (hNI q q2) (q3.trans e1)
      rw [this, hI] at q2; cases q2
    · obtain ⟨t, t1, t2, t3, t4, t5⟩ := hmem r hr
      rw [t5] at e1
      have := (hB q q1 (hNI q q2)).2 t t2 (fun _ => t4) (e1.trans q3.symm)
      rw [← this, t3] at q2; cases q2
  · obtain ⟨t, t1, t2, t3, t4, t5⟩ := hmem r hr
    rw [t5] at q
    have := (hB p h2 (fun _ => hN)).2 t t2 (fun _ => t4) q
    omega
  · have h8 : (hc_rem S E I (p + 1) (n - (p + 1))).length ≤ n - (p + 1) := by unfold hc_rem; rw [List.length_map]; exact hc_ls_len _ _
    have h9 := hk_c_le (T := CA)
    omega
theorem hy_leaf0 (hB : hc_BG vn n S E I) (hE : ∀ q, q < n → E q < 6) (hS : ∀ q, q < n → S q < 6) (h : hg_I vn S E I n Ca Na Ra CA) (hno : ∀ y, 0 ≤ y → y < n → ¬ (I y = true ∧ S y ≠ E y)) :
    hc_rem S E I 0 n = [] ∧ hk_N Ca Na Ra (hc_nx (hc_as0 S E I n)) (hc_fa (hc_as0 S E I n)) := by
  have hrs := hy_last (n := n) (p := 0) hno
  rw [Nat.sub_zero] at hrs
  have hNI : ∀ q, I q = false → hc_N S E I q := fun q h9 h8 => by rw [h9] at h8; cases h8
  refine ⟨hrs, fun j hj => ?_, fun j hj => ⟨fun q => ?_, fun z hz => ?_⟩⟩
  · obtain ⟨q, q1, q2, q3⟩ := (hy_as0_key hB j).mp hj
    rw [← q3]; exact hS q q1
  · rw [h.2.1 j hj]
    cases h9 : CA j with
    | false => rfl
    | true =>
      obtain ⟨t, t1, t2, t3⟩ := (h.2.2.1 j hj).mp h9
      cases hIt : I t with
      | false => exact absurd q ((hy_as0_key hB j).mpr ⟨t, t1, hIt, t3⟩)
      | true => exact absurd ⟨hIt, t2 hIt⟩ (hno t (Nat.zero_le _) t1)
  · have hk : hc_nx (hc_as0 S E I n) j ≠ none := by rw [hz]; exact fun q => (by cases q)
    obtain ⟨q, q1, q2, q3⟩ := (hy_as0_key hB j).mp hk
    obtain ⟨c1, c2, c3⟩ := hy_A0 hB hE h j z hz
    exact ⟨by rw [h.2.1 j hj, (h.2.2.1 j hj).mpr ⟨q, q1, hNI q q2, q3⟩], c1, c2, c3⟩
end NODE
theorem hy_dv : ∀ c, c < 15 → 2 < c → (nI c + (-1)) / nI 2 - nI 1 = nI ((c - 1) / 2 - 1) := by decide +kernel
theorem hy_le : ∀ c, c < 15 → (nI c + (-1) ≤ nI 1 ↔ c ≤ 2) := by decide +kernel
theorem hy_inc : ∀ c, c < 15 → nI c + (-1) + nI 1 = nI c := by decide +kernel
theorem hy_d2 : ∀ c, c < 14 → 2 ≤ c → nI c / nI 2 - nI 1 = nI (c / 2 - 1) := by decide +kernel
theorem hy_d1 : ∀ c, c < 2 → nI c / nI 2 - nI 1 = -1 := by decide +kernel
theorem hy_rm : ∀ c, c < 14 → nI c - nI c / nI 2 * nI 2 = nI (c % 2) := by decide +kernel
theorem hy_up_s (f : Nat → Int32) (j : Nat) (x : Int32) : upd f j x j = x := by unfold upd; rw [if_pos rfl]
theorem hy_up_n (f : Nat → Int32) {i j : Nat} (x : Int32) (h : i ≠ j) : upd f j x i = f i := by unfold upd; rw [if_neg h]
theorem hk_r1 {k : Nat} {l1 l2 : List Nat} (h : hc_ng 5 l1 = some l2) : hc_run (hc_ng 5) (k + 1) l1 = l1 :: hc_run (hc_ng 5) k l2 := by
  show l1 :: (match hc_ng 5 l1 with | some l' => hc_run (hc_ng 5) k l' | none => []) = _
  rw [h]
theorem hk_r0 {k : Nat} {l1 : List Nat} (h : hc_ng 5 l1 = none) : hc_run (hc_ng 5) (k + 1) l1 = [l1] := by
  show l1 :: (match hc_ng 5 l1 with | some l' => hc_run (hc_ng 5) k l' | none => []) = _
  rw [h]
theorem hk_e1 {k : Nat} {l1 l2 : List Nat} (h : hc_ng 5 l1 = some l2) (he : hc_ends (hc_ng 5) (k + 1) l1 = true) : hc_ends (hc_ng 5) k l2 = true ∧ 0 < k := by
  have h1 : (match hc_ng 5 l1 with | some l' => hc_ends (hc_ng 5) k l' | none => true) = true := he
  rw [h] at h1
  refine ⟨h1, ?_⟩
  cases k with
  | zero => cases h1
  | succ k => omega
/-- what the reference looks for, at the values v -/
def hk_P (SA OA : Nat → Bool) (MA FA TA : Nat → Nat) (LA : Nat → Bool) (mo : Int32) (dm oa ob cx : Nat) (v : Nat → Nat) : Prop :=
  hc_PO v (hr_s SA cx) (hr_s OA cx) ∧ hc_BG (v 5) (MA cx) (fun i => v (FA (5 * cx + i))) (fun i => v (TA (5 * cx + i))) (fun i => LA (5 * cx + i)) ∧
    hc_Ex (fun g => (∃ t, t < 6 ∧ v t = g) ∧ g ≠ v 5 ∧ ∀ q, q < MA cx → hc_N (fun i => v (FA (5 * cx + i))) (fun i => v (TA (5 * cx + i))) (fun i => LA (5 * cx + i)) q → v (FA (5 * cx + q)) ≠ g) (fun as => hk_L dm v oa ob (hk_R v SA OA MA FA TA LA mo) (hc_nx as) (hc_fa as)) 11
      (hc_rem (fun i => v (FA (5 * cx + i))) (fun i => v (TA (5 * cx + i))) (fun i => LA (5 * cx + i)) 0 (MA cx)) (hc_as0 (fun i => v (FA (5 * cx + i))) (fun i => v (TA (5 * cx + i))) (fun i => LA (5 * cx + i)) (MA cx))
def hk_S (SA OA : Nat → Bool) (MA FA TA : Nat → Nat) (LA : Nat → Bool) (mo : Int32) (dm oa ob cx : Nat) : Prop := ∃ l, l ∈ hc_all ∧ hk_P SA OA MA FA TA LA mo dm oa ob cx (fun t => l.getD t 0)
theorem hk_z6 : ∀ j, j < 6 → [0, 0, 0, 0, 0, 0].getD j 0 = 0 := by decide
