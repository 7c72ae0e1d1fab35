/-! What draw makes of a claim, piece after piece; what advance does. -/
theorem hs_bitz {x : Int32} {t : Nat} (ht : t < 32) : x &&& (nI 1 <<< (nI t &&& 31)) = 0 ↔ bt x t = false := by
  rw [hb_0, show nI 1 = (1 : Int32) from rfl]
  constructor
  · intro h
    have h1 := h t ht
    rw [b_and, hb_1 t ht t ht, decide_eq_true rfl, Bool.and_true] at h1
    exact h1
  · intro h i hi
    rw [b_and, hb_1 t ht i hi]
    by_cases hit : i = t
    · rw [hit, h]; rfl
    · rw [decide_eq_false hit, Bool.and_false]
theorem hc_mx_lt {l : List Nat} {B : Nat} (hB : 0 < B) (h : ∀ j, j < 6 → l.getD j 0 < B) : ∀ t, t ≤ 6 → hc_mx l t < B := by
  intro t
  induction t with
  | zero => intro _; exact hB
  | succ t ih =>
    intro ht
    have h1 := ih (by omega)
    have h2 := h t (by omega)
    show max (hc_mx l t) (l.getD t 0) < B
    omega
theorem hc_set_getD {l : List Nat} {k x : Nat} (hl : l.length = 6) (j : Nat) (hk : k < 6) : (l.set k x).getD j 0 = if j = k then x else l.getD j 0 := by
  rw [List.getD_eq_getElem?_getD, List.getD_eq_getElem?_getD, List.getElem?_set]
  by_cases h : k = j
  · rw [if_pos h, if_pos h.symm, if_pos (by omega)]; rfl
  · rw [if_neg h, if_neg (fun q => h q.symm)]
section DRAW
variable {S E : Nat → Nat} {I : Nat → Bool} {p n : Nat} {EN LG BI : Nat → Int32} {fl : Int32} {nx : Nat → Option Nat} {lg : Nat → Bool} {bi : Nat → Nat}
/-- the heap of the first p pieces -/
def hd_I (S E : Nat → Nat) (I : Nat → Bool) (p : Nat) (EN LG BI : Nat → Int32) (fl : Int32) (nx : Nat → Option Nat) (lg : Nat → Bool) (bi : Nat → Nat) : Prop :=
  hc_BG 0 p S E I ∧ hs_hp 5 EN LG BI nx lg bi ∧ hc_H nx lg p S E I ∧ (∀ i, i < p → hc_N S E I i → bi (S i) = i) ∧ ∀ j, j < 32 → (bt fl j = true ↔ j < p ∧ hc_N S E I j)
theorem hd_0 (h : ∀ j, j ≤ 5 → EN j = -1) : hd_I S E I 0 EN LG BI (nI 0) (fun _ => none) lg bi := by
  refine ⟨fun _ h => absurd h (Nat.not_lt_zero _), ⟨fun a h => absurd rfl h, fun a h1 h2 => ⟨fun _ => h a h2, fun z hz => (by cases hz)⟩⟩, ⟨fun _ h => absurd h (Nat.not_lt_zero _), fun g h => absurd rfl h⟩, fun _ h => absurd h (Nat.not_lt_zero _), fun j hj => ?_⟩
  rw [hb_nI 0 hj]
  simp
theorem hd_skip (h : hd_I S E I p EN LG BI fl nx lg bi) (hN : ¬ hc_N S E I p) : hd_I S E I (p + 1) EN LG BI fl nx lg bi := by
  obtain ⟨h1, h2, h3, h4, h5⟩ := h
  have hlt : ∀ i, i < p + 1 → hc_N S E I i → i < p := fun i hi hNi => by
    by_cases hip : i = p
    · rw [hip] at hNi; exact absurd hNi hN
    · omega
  refine ⟨fun i hi hNi => ⟨(h1 i (hlt i hi hNi) hNi).1, fun q hq hNq => (h1 i (hlt i hi hNi) hNi).2 q (hlt q hq hNq) hNq⟩, h2, ⟨fun i hi hNi => h3.1 i (hlt i hi hNi) hNi, fun g hg => ?_⟩, fun i hi hNi => h4 i (hlt i hi hNi) hNi, fun j hj => ?_⟩
  · obtain ⟨i, a1, a2, a3⟩ := h3.2 g hg
    exact ⟨i, by omega, a2, a3⟩
  · rw [h5 j hj]
    exact ⟨fun q => ⟨by omega, q.2⟩, fun q => ⟨hlt j q.1 q.2, q.2⟩⟩
theorem hd_set (h : hd_I S E I p EN LG BI fl nx lg bi) (hp : p < 5) (hN : hc_N S E I p) (h0 : S p ≠ 0) (hS : S p ≤ 5) (hE : E p ≤ 5) (hn : nx (S p) = none) :
    hd_I S E I (p + 1) (upd EN (S p) (nI (E p))) (upd LG (S p) (hc_b (I p))) (upd BI (S p) (nI 1 <<< (nI p &&& 31))) (fl ||| (nI 1 <<< (nI p &&& 31))) (va_up nx (S p) (some (E p))) (va_up lg (S p) (I p)) (va_up bi (S p) p) := by
  obtain ⟨h1, h2, h3, h4, h5⟩ := h
  have hne : ∀ i, i < p → hc_N S E I i → S i ≠ S p := fun i hi hNi q => by
    have h9 := (h3.1 i hi hNi).1
    rw [q, hn] at h9; cases h9
  refine ⟨fun i hi hNi => ⟨?_, fun q hq hNq hqi => ?_⟩, ⟨fun a ha => ?_, fun a a1 a2 => ?_⟩, ⟨fun i hi hNi => ?_, fun g hg => ?_⟩, fun i hi hNi => ?_, fun j hj => ?_⟩
  · by_cases hip : i = p
    · rw [hip]; exact h0
    · exact (h1 i (by omega) hNi).1
  · by_cases hip : i = p
    · by_cases hqp : q = p
      · rw [hip, hqp]
      · rw [hip] at hqi; exact absurd hqi (hne q (by omega) hNq)
    · by_cases hqp : q = p
      · rw [hqp] at hqi; exact absurd hqi.symm (hne i (by omega) hNi)
      · exact (h1 i (by omega) hNi).2 q (by omega) hNq hqi
  · by_cases hap : a = S p
    · rw [hap]; omega
    · rw [hc_up_n nx _ hap] at ha; exact h2.1 a ha
  · by_cases hap : a = S p
    · refine ⟨fun q => ?_, fun z hz => ?_⟩
      · rw [hap, hc_up_s] at q; cases q
      · rw [hap, hc_up_s] at hz
        injection hz with hz
        rw [hap, hc_up_s, hc_up_s, ← hz]
        refine ⟨hE, ?_, ?_, ?_, by omega⟩ <;> (unfold upd; rw [if_pos rfl]) <;> rfl
    · rw [hc_up_n nx _ hap, hc_up_n lg _ hap, hc_up_n bi _ hap]
      have h9 := h2.2 a a1 a2
      unfold upd
      rw [if_neg hap, if_neg hap, if_neg hap]
      exact h9
  · by_cases hip : i = p
    · rw [hip, hc_up_s, hc_up_s]; exact ⟨rfl, rfl⟩
    · rw [hc_up_n nx _ (hne i (by omega) hNi), hc_up_n lg _ (hne i (by omega) hNi)]; exact h3.1 i (by omega) hNi
  · by_cases hap : g = S p
    · exact ⟨p, by omega, hN, hap.symm⟩
    · rw [hc_up_n nx _ hap] at hg
      obtain ⟨i, a1, a2, a3⟩ := h3.2 g hg
      exact ⟨i, by omega, a2, a3⟩
  · by_cases hip : i = p
    · rw [hip, hc_up_s]
    · rw [hc_up_n bi _ (hne i (by omega) hNi)]; exact h4 i (by omega) hNi
  · rw [b_or, Bool.or_eq_true, h5 j hj, show nI 1 = (1 : Int32) from rfl, hb_1 p (by omega) j hj, decide_eq_true_eq]
    constructor
    · rintro (⟨q1, q2⟩ | q)
      · exact ⟨by omega, q2⟩
      · rw [q]; exact ⟨by omega, hN⟩
    · rintro ⟨q1, q2⟩
      by_cases hjp : j = p
      · exact Or.inr hjp
      · exact Or.inl ⟨by omega, q2⟩
theorem hd_no0 (hp : p < n) (hN : hc_N S E I p) (h0 : S p = 0) : ¬ hc_BG 0 n S E I := fun h => (h p hp hN).1 h0
theorem hd_no1 (h : hd_I S E I p EN LG BI fl nx lg bi) (hp : p < n) (hN : hc_N S E I p) (hn : nx (S p) ≠ none) : ¬ hc_BG 0 n S E I := fun hB => by
  obtain ⟨i, a1, a2, a3⟩ := h.2.2.1.2 _ hn
  have := (hB p hp hN).2 i (by omega) a2 a3
  omega
end DRAW
theorem hs_max {a b : Nat} (ha : a < 2 ^ 31) (hb : b < 2 ^ 31) : (if nI a < nI b then nI b else nI a) = nI (max a b) := by
  by_cases h : a < b
  · rw [if_pos ((nI_ltI ha hb).mpr h), Nat.max_eq_right (by omega)]
  · rw [if_neg (fun q => h ((nI_ltI ha hb).mp q)), Nat.max_eq_left (by omega)]
