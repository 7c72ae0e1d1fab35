/-! One case of the least frame. -/
section LF
variable {sm ot sm' ot' : Nat → Nat → Bool} {m n : Nat} {fr to fr' to' : Nat → Nat} {I I' : Nat → Bool} {nx : Nat → Option Nat} {lg : Nat → Bool} {bi : Nat → Nat} {EN LG BI : Nat → Int32} {fl T z1 z2 : Int32} {c : Nat → List Nat} {l : List Nat} {pre cs : List (List Nat)}
theorem lf_G (hA : hc_A sm ot m fr to I (fun t => l.getD t 0)) (h5 : l.getD 5 0 = 0) (hH : hc_H nx lg m (fun p => l.getD (fr p) 0) (fun p => l.getD (to p) 0) I) :
    hc_G m fr to I sm' ot' n fr' to' I' (fun t => l.getD t 0) c ↔ hc_PO (fun t => l.getD t 0) sm' ot' ∧ hc_CT nx lg 0 n (fun i => l.getD (fr' i) 0) (fun i => l.getD (to' i) 0) I' c := by
  obtain ⟨e1, e2⟩ := hc_H_same (hc_w0_H hA.2) hH
  obtain ⟨e3, e4⟩ := hc_H_same hH (hc_w0_H hA.2)
  constructor
  · rintro ⟨h1, h2⟩
    refine ⟨h1, hc_CT_congr e1 e2 ?_⟩
    have h3 : hc_CT (hc_nv m fr to I (fun t => l.getD t 0)) (hc_lv m fr to I (fun t => l.getD t 0)) (l.getD 5 0) n (fun i => l.getD (fr' i) 0) (fun i => l.getD (to' i) 0) I' c := h2
    rw [h5] at h3
    exact h3
  · rintro ⟨h1, h2⟩
    refine ⟨h1, ?_⟩
    show hc_CT _ _ (l.getD 5 0) _ _ _ _ _
    rw [h5]
    exact hc_CT_congr e3 e4 h2
theorem lf_key (hd : hd_I (fun p => l.getD (fr p) 0) (fun p => l.getD (to p) 0) I m EN LG BI fl nx lg bi) {a : Nat} (ha : nx a ≠ none) : ∃ p, p < m ∧ hc_Nv fr to I (fun t => l.getD t 0) p ∧ l.getD (fr p) 0 = a ∧ bi a = p := by
  obtain ⟨p, h1, h2, h3⟩ := hd.2.2.1.2 a ha
  have h4 := hd.2.2.2.1 p h1 h2
  have h3' : l.getD (fr p) 0 = a := h3
  exact ⟨p, h1, h2, h3', by rw [← h3']; exact h4⟩
theorem lf_inj (hd : hd_I (fun p => l.getD (fr p) 0) (fun p => l.getD (to p) 0) I m EN LG BI fl nx lg bi) : ∀ a b, nx a ≠ none → nx b ≠ none → bi a = bi b → a = b := by
  intro a b ha hb h
  obtain ⟨p, _, _, p3, p4⟩ := lf_key hd ha
  obtain ⟨q, _, _, q3, q4⟩ := lf_key hd hb
  have hpq : p = q := by rw [← p4, ← q4, h]
  rw [← p3, ← q3, hpq]
theorem lf_T (hd : hd_I (fun p => l.getD (fr p) 0) (fun p => l.getD (to p) 0) I m EN LG BI fl nx lg bi) (hT : hs_TB nx lg bi (fun i => l.getD (fr' i) 0) (fun i => l.getD (to' i) 0) I' n T c) :
    ∀ j, j < 32 → (bt T j = true ↔ j < m ∧ hc_Nv fr to I (fun t => l.getD t 0) j ∧ ∃ i, i < n ∧ l.getD (fr j) 0 ∈ c i) := by
  intro j hj
  rw [hT.2.2 j hj]
  constructor
  · rintro ⟨i, hi, a, ha, hab⟩
    obtain ⟨p, p1, p2, p3, p4⟩ := lf_key hd (hs_cell (hT.1 i hi) ha)
    have hpj : p = j := by rw [← p4]; exact hab
    rw [← hpj]
    exact ⟨p1, p2, i, hi, by rw [p3]; exact ha⟩
  · rintro ⟨h1, h2, i, hi, h3⟩
    exact ⟨i, hi, _, h3, hd.2.2.2.1 j h1 h2⟩
theorem lf_F (hd : hd_I (fun p => l.getD (fr p) 0) (fun p => l.getD (to p) 0) I m EN LG BI fl nx lg bi) (hT : hs_TB nx lg bi (fun i => l.getD (fr' i) 0) (fun i => l.getD (to' i) 0) I' n T c) :
    ∀ j, j < 32 → (bt (fl &&& (T ^^^ (-1))) j = true ↔ j < m ∧ hc_Nv fr to I (fun t => l.getD t 0) j ∧ ∀ i, i < n → l.getD (fr j) 0 ∉ c i) := by
  intro j hj
  rw [b_and, hb_not _ hj, Bool.and_eq_true, hd.2.2.2.2 j hj]
  constructor
  · rintro ⟨⟨h1, h2⟩, h3⟩
    refine ⟨h1, h2, fun i hi h4 => ?_⟩
    rw [(lf_T hd hT j hj).mpr ⟨h1, h2, i, hi, h4⟩] at h3
    cases h3
  · rintro ⟨h1, h2, h3⟩
    refine ⟨⟨h1, h2⟩, ?_⟩
    cases h4 : bt T j with
    | false => rfl
    | true =>
      obtain ⟨_, _, i, hi, h5⟩ := (lf_T hd hT j hj).mp h4
      exact absurd h5 (h3 i hi)
theorem lf_nd {p : Nat} (hA : hc_A sm ot m fr to I (fun t => l.getD t 0)) (hG : hc_G m fr to I sm' ot' n fr' to' I' (fun t => l.getD t 0) c) :
    hc_nd sm ot m fr to I sm' ot' n fr' to' I' (pre ++ [l]) p ↔ hc_nd sm ot m fr to I sm' ot' n fr' to' I' pre p ∨ (hc_Nv fr to I (fun t => l.getD t 0) p ∧ ∀ i, i < n → l.getD (fr p) 0 ∉ c i) := by
  constructor
  · rintro ⟨k, h1, h2, h3, d, h4, h5⟩
    rcases List.mem_append.mp h1 with h1 | h1
    · exact Or.inl ⟨k, h1, h2, h3, d, h4, h5⟩
    · have hkl := List.mem_singleton.mp h1
      subst hkl
      exact Or.inr ⟨h3, fun i hi => by rw [hc_G_det hG h4 i hi]; exact h5 i hi⟩
  · rintro (⟨k, h1, h2, h3, d, h4, h5⟩ | ⟨h3, h5⟩)
    · exact ⟨k, List.mem_append_left _ h1, h2, h3, d, h4, h5⟩
    · exact ⟨l, List.mem_append_right _ List.mem_cons_self, hA, h3, c, hG, h5⟩
theorem lf_bd {p : Nat} (hA : hc_A sm ot m fr to I (fun t => l.getD t 0)) (hG : hc_G m fr to I sm' ot' n fr' to' I' (fun t => l.getD t 0) c) :
    hc_bd sm ot m fr to I sm' ot' n fr' to' I' (pre ++ [l]) p ↔ hc_bd sm ot m fr to I sm' ot' n fr' to' I' pre p ∨ (hc_Nv fr to I (fun t => l.getD t 0) p ∧ ∃ i, i < n ∧ l.getD (fr p) 0 ∈ c i) := by
  constructor
  · rintro ⟨k, h1, h2, h3, d, h4, i, hi, h5⟩
    rcases List.mem_append.mp h1 with h1 | h1
    · exact Or.inl ⟨k, h1, h2, h3, d, h4, i, hi, h5⟩
    · have hkl := List.mem_singleton.mp h1
      subst hkl
      exact Or.inr ⟨h3, i, hi, by rw [hc_G_det hG h4 i hi]; exact h5⟩
  · rintro (⟨k, h1, h2, h3, d, h4, h5⟩ | ⟨h3, h5⟩)
    · exact ⟨k, List.mem_append_left _ h1, h2, h3, d, h4, h5⟩
    · exact ⟨l, List.mem_append_right _ List.mem_cons_self, hA, h3, c, hG, h5⟩
theorem lf_n0 {p : Nat} (hA : ¬ hc_A sm ot m fr to I (fun t => l.getD t 0)) : hc_nd sm ot m fr to I sm' ot' n fr' to' I' (pre ++ [l]) p ↔ hc_nd sm ot m fr to I sm' ot' n fr' to' I' pre p := by
  constructor
  · rintro ⟨k, h1, h2, h3⟩
    rcases List.mem_append.mp h1 with h1 | h1
    · exact ⟨k, h1, h2, h3⟩
    · rw [List.mem_singleton.mp h1] at h2; exact absurd h2 hA
  · rintro ⟨k, h1, h2⟩
    exact ⟨k, List.mem_append_left _ h1, h2⟩
theorem lf_b0 {p : Nat} (hA : ¬ hc_A sm ot m fr to I (fun t => l.getD t 0)) : hc_bd sm ot m fr to I sm' ot' n fr' to' I' (pre ++ [l]) p ↔ hc_bd sm ot m fr to I sm' ot' n fr' to' I' pre p := by
  constructor
  · rintro ⟨k, h1, h2, h3⟩
    rcases List.mem_append.mp h1 with h1 | h1
    · exact ⟨k, h1, h2, h3⟩
    · rw [List.mem_singleton.mp h1] at h2; exact absurd h2 hA
  · rintro ⟨k, h1, h2⟩
    exact ⟨k, List.mem_append_left _ h1, h2⟩
theorem lf_sub {p : Nat} (h : ∀ x, x ∈ pre → x ∈ cs) : (hc_nd sm ot m fr to I sm' ot' n fr' to' I' pre p → hc_nd sm ot m fr to I sm' ot' n fr' to' I' cs p) ∧ (hc_bd sm ot m fr to I sm' ot' n fr' to' I' pre p → hc_bd sm ot m fr to I sm' ot' n fr' to' I' cs p) :=
  ⟨fun ⟨k, h1, h2⟩ => ⟨k, h k h1, h2⟩, fun ⟨k, h1, h2⟩ => ⟨k, h k h1, h2⟩⟩
/-- what needed, z1, and barred, z2, are after the cases pre -/
def lf_J (sm ot : Nat → Nat → Bool) (m : Nat) (fr to : Nat → Nat) (I : Nat → Bool) (sm' ot' : Nat → Nat → Bool) (n : Nat) (fr' to' : Nat → Nat) (I' : Nat → Bool) (pre : List (List Nat)) (z1 z2 : Int32) : Prop :=
  (∀ j, j < 32 → (bt z1 j = true ↔ j < m ∧ hc_nd sm ot m fr to I sm' ot' n fr' to' I' pre j)) ∧ (∀ j, j < 32 → (bt z2 j = true ↔ j < m ∧ hc_bd sm ot m fr to I sm' ot' n fr' to' I' pre j)) ∧
    (∀ k, k ∈ pre → hc_A sm ot m fr to I (fun t => k.getD t 0) → ∃ c, hc_G m fr to I sm' ot' n fr' to' I' (fun t => k.getD t 0) c)
theorem lf_J0 : lf_J sm ot m fr to I sm' ot' n fr' to' I' [] (nI 0) (nI 0) := by
  refine ⟨fun j hj => ?_, fun j hj => ?_, fun k hk => absurd hk List.not_mem_nil⟩ <;> rw [hb_nI 0 hj]
  · exact ⟨fun h => by simp at h, fun ⟨_, k, h, _⟩ => absurd h List.not_mem_nil⟩
  · exact ⟨fun h => by simp at h, fun ⟨_, k, h, _⟩ => absurd h List.not_mem_nil⟩
theorem lf_Jn (h : lf_J sm ot m fr to I sm' ot' n fr' to' I' pre z1 z2) (hA : ¬ hc_A sm ot m fr to I (fun t => l.getD t 0)) : lf_J sm ot m fr to I sm' ot' n fr' to' I' (pre ++ [l]) z1 z2 := by
  refine ⟨fun j hj => ?_, fun j hj => ?_, fun k hk hA9 => ?_⟩
  · rw [lf_n0 hA]; exact h.1 j hj
  · rw [lf_b0 hA]; exact h.2.1 j hj
  · rcases List.mem_append.mp hk with hk | hk
    · exact h.2.2 k hk hA9
    · rw [List.mem_singleton.mp hk] at hA9; exact absurd hA9 hA
theorem lf_J1 (h : lf_J sm ot m fr to I sm' ot' n fr' to' I' pre z1 z2) (hA : hc_A sm ot m fr to I (fun t => l.getD t 0)) (h5 : l.getD 5 0 = 0) (hd : hd_I (fun p => l.getD (fr p) 0) (fun p => l.getD (to p) 0) I m EN LG BI fl nx lg bi)
    (hPO : hc_PO (fun t => l.getD t 0) sm' ot') (hT : hs_TB nx lg bi (fun i => l.getD (fr' i) 0) (fun i => l.getD (to' i) 0) I' n T c) : lf_J sm ot m fr to I sm' ot' n fr' to' I' (pre ++ [l]) (z1 ||| (fl &&& (T ^^^ (-1)))) (z2 ||| T) := by
  have hG : hc_G m fr to I sm' ot' n fr' to' I' (fun t => l.getD t 0) c := (lf_G hA h5 hd.2.2.1).mpr ⟨hPO, hs_TB_end hT⟩
  refine ⟨fun j hj => ?_, fun j hj => ?_, fun k hk hA9 => ?_⟩
  · rw [b_or, Bool.or_eq_true, h.1 j hj, lf_F hd hT j hj, lf_nd hA hG]
    constructor
    · rintro (⟨q1, q2⟩ | ⟨q1, q2, q3⟩)
      · exact ⟨q1, Or.inl q2⟩
      · exact ⟨q1, Or.inr ⟨q2, q3⟩⟩
    · rintro ⟨q1, q2 | ⟨q2, q3⟩⟩
      · exact Or.inl ⟨q1, q2⟩
      · exact Or.inr ⟨q1, q2, q3⟩
  · rw [b_or, Bool.or_eq_true, h.2.1 j hj, lf_T hd hT j hj, lf_bd hA hG]
    constructor
    · rintro (⟨q1, q2⟩ | ⟨q1, q2, q3⟩)
      · exact ⟨q1, Or.inl q2⟩
      · exact ⟨q1, Or.inr ⟨q2, q3⟩⟩
    · rintro ⟨q1, q2 | ⟨q2, q3⟩⟩
      · exact Or.inl ⟨q1, q2⟩
      · exact Or.inr ⟨q1, q2, q3⟩
  · rcases List.mem_append.mp hk with hk | hk
    · exact h.2.2 k hk hA9
    · rw [List.mem_singleton.mp hk]; exact ⟨c, hG⟩
/-- no frame -/
def lf_no (sm ot : Nat → Nat → Bool) (m : Nat) (fr to : Nat → Nat) (I : Nat → Bool) (sm' ot' : Nat → Nat → Bool) (n : Nat) (fr' to' : Nat → Nat) (I' : Nat → Bool) (cs : List (List Nat)) : Prop :=
  (∃ l, l ∈ cs ∧ hc_A sm ot m fr to I (fun t => l.getD t 0) ∧ ¬ ∃ c, hc_G m fr to I sm' ot' n fr' to' I' (fun t => l.getD t 0) c) ∨ ∃ p, p < m ∧ hc_nd sm ot m fr to I sm' ot' n fr' to' I' cs p ∧ hc_bd sm ot m fr to I sm' ot' n fr' to' I' cs p
/-- the least frame's bits -/
def lf_yes (sm ot : Nat → Nat → Bool) (m : Nat) (fr to : Nat → Nat) (I : Nat → Bool) (sm' ot' : Nat → Nat → Bool) (n : Nat) (fr' to' : Nat → Nat) (I' : Nat → Bool) (cs : List (List Nat)) (r : Int32) : Prop :=
  (∀ l, l ∈ cs → hc_A sm ot m fr to I (fun t => l.getD t 0) → ∃ c, hc_G m fr to I sm' ot' n fr' to' I' (fun t => l.getD t 0) c) ∧ (∀ j, j < 32 → (bt r j = true ↔ j < m ∧ hc_nd sm ot m fr to I sm' ot' n fr' to' I' cs j)) ∧
    ∀ p, p < m → hc_nd sm ot m fr to I sm' ot' n fr' to' I' cs p → ¬ hc_bd sm ot m fr to I sm' ot' n fr' to' I' cs p
theorem lf_none (hin : l ∈ cs) (hA : hc_A sm ot m fr to I (fun t => l.getD t 0)) (h5 : l.getD 5 0 = 0) (hH : hc_H nx lg m (fun p => l.getD (fr p) 0) (fun p => l.getD (to p) 0) I)
    (h : ¬ (hc_PO (fun t => l.getD t 0) sm' ot' ∧ ∃ c, hc_CT nx lg 0 n (fun i => l.getD (fr' i) 0) (fun i => l.getD (to' i) 0) I' c)) : lf_no sm ot m fr to I sm' ot' n fr' to' I' cs :=
  Or.inl ⟨l, hin, hA, fun ⟨c, hG⟩ => h ⟨((lf_G hA h5 hH).mp hG).1, c, ((lf_G hA h5 hH).mp hG).2⟩⟩
theorem lf_both (hsub : ∀ x, x ∈ pre → x ∈ cs) (h : lf_J sm ot m fr to I sm' ot' n fr' to' I' pre z1 z2) (hz : ¬ z1 &&& z2 = 0) : lf_no sm ot m fr to I sm' ot' n fr' to' I' cs := by
  obtain ⟨j, hj, hb⟩ := hb_n0.mp hz
  rw [b_and, Bool.and_eq_true, h.1 j hj, h.2.1 j hj] at hb
  exact Or.inr ⟨j, hb.1.1, (lf_sub hsub).1 hb.1.2, (lf_sub hsub).2 hb.2.2⟩
theorem lf_end (hm : m ≤ 5) (h : lf_J sm ot m fr to I sm' ot' n fr' to' I' cs z1 z2) (hz : z1 &&& z2 = 0) : lf_yes sm ot m fr to I sm' ot' n fr' to' I' cs z1 ∧ z1 ≠ -1 := by
  refine ⟨⟨h.2.2, h.1, fun p hp hn hb => ?_⟩, hb_m1 (i := 31) (by omega) ?_⟩
  · have h9 := hb_0.mp hz p (by omega)
    rw [b_and, (h.1 p (by omega)).mpr ⟨hp, hn⟩, (h.2.1 p (by omega)).mpr ⟨hp, hb⟩] at h9
    cases h9
  · cases h9 : bt z1 31 with
    | false => rfl
    | true => have := ((h.1 31 (by omega)).mp h9).1; omega
end LF
