/-! clear and swap of the reference. -/
section RX
variable {Sa Oa My Fa Ta La Sa' Oa' My' Fa' Ta' La' : Nat → Int32} {SA OA : Nat → Bool} {MA FA TA : Nat → Nat} {LA : Nat → Bool} {c : Nat}
def rm_cl (c : Nat) (SA : Nat → Bool) : Nat → Bool := fun k => if 36 * c ≤ k ∧ k < 36 * c + 36 then false else SA k
theorem rm_clear (h : hr_m Sa Oa My Fa Ta La SA OA MA FA TA LA) (hk : ∀ k, (Sa' k = if 36 * c ≤ k ∧ k < 36 * c + 36 then hc_b false else Sa k) ∧ (Oa' k = if 36 * c ≤ k ∧ k < 36 * c + 36 then hc_b false else Oa k)) :
    hr_m Sa' Oa' (upd My c (nI 0)) Fa Ta La (rm_cl c SA) (rm_cl c OA) (va_up MA c 0) FA TA LA := by
  obtain ⟨h1, h2, h3⟩ := h
  refine ⟨fun k hk9 => ?_, fun d hd => ?_, h3⟩
  · rw [(hk k).1, (hk k).2]
    unfold rm_cl
    by_cases hr : 36 * c ≤ k ∧ k < 36 * c + 36
    · rw [if_pos hr, if_pos hr, if_pos hr, if_pos hr]; exact ⟨rfl, rfl⟩
    · rw [if_neg hr, if_neg hr, if_neg hr, if_neg hr]; exact h1 k hk9
  · by_cases hdc : d = c
    · rw [hdc, hy_up_s, hc_up_s]; exact ⟨rfl, by omega⟩
    · rw [hy_up_n _ _ hdc, hc_up_n MA _ hdc]; exact h2 d hd
def rm_sw {α : Type} (n : Nat) (f : Nat → α) : Nat → α := fun k => if k < n then f (n + k) else f (k - n)
theorem rm_swap (h : hr_m Sa Oa My Fa Ta La SA OA MA FA TA LA)
    (h1 : ∀ k, k < 36 → (Sa' k = hc_b (SA (36 + k)) ∧ Sa' (36 + k) = hc_b (SA k)) ∧ (Oa' k = hc_b (OA (36 + k)) ∧ Oa' (36 + k) = hc_b (OA k))) (h2 : My' 0 = nI (MA 1) ∧ My' 1 = nI (MA 0))
    (h3 : ∀ k, k < 5 → (Fa' k = nI (FA (5 + k)) ∧ Fa' (5 + k) = nI (FA k)) ∧ (Ta' k = nI (TA (5 + k)) ∧ Ta' (5 + k) = nI (TA k)) ∧ (La' k = hc_b (LA (5 + k)) ∧ La' (5 + k) = hc_b (LA k))) :
    hr_m Sa' Oa' My' Fa' Ta' La' (rm_sw 36 SA) (rm_sw 36 OA) (rm_sw 1 MA) (rm_sw 5 FA) (rm_sw 5 TA) (rm_sw 5 LA) := by
  obtain ⟨g1, g2, g3⟩ := h
  refine ⟨fun k hk => ?_, fun d hd => ?_, fun k hk => ?_⟩
  · unfold rm_sw
    by_cases hlt : k < 36
    · rw [if_pos hlt, if_pos hlt]; exact ⟨(h1 k hlt).1.1, (h1 k hlt).2.1⟩
    · rw [if_neg hlt, if_neg hlt]
      have h9 := h1 (k - 36) (by omega)
      rw [show 36 + (k - 36) = k by omega] at h9
      exact ⟨h9.1.2, h9.2.2⟩
  · unfold rm_sw
    rcases (by omega : d = 0 ∨ d = 1) with rfl | rfl
    · exact ⟨h2.1, (g2 1 (by omega)).2⟩
    · exact ⟨h2.2, (g2 0 (by omega)).2⟩
  · unfold rm_sw
    by_cases hlt : k < 5
    · rw [if_pos hlt, if_pos hlt, if_pos hlt]
      obtain ⟨a1, a2, a3⟩ := h3 k hlt
      obtain ⟨-, b2, -, b4, -⟩ := g3 (5 + k) (by omega)
      exact ⟨a1.1, b2, a2.1, b4, a3.1⟩
    · rw [if_neg hlt, if_neg hlt, if_neg hlt]
      obtain ⟨a1, a2, a3⟩ := h3 (k - 5) (by omega)
      rw [show 5 + (k - 5) = k by omega] at a1 a2 a3
      obtain ⟨-, b2, -, b4, -⟩ := g3 (k - 5) (by omega)
      exact ⟨a1.2, b2, a2.2, b4, a3.2⟩
end RX
