/-! From one valuation to another that makes the same terms equal. -/
section MOVE
variable {v v' : Nat → Nat} {U : Nat → Prop} {m n : Nat} {fr to fr' to' : Nat → Nat} {I I' : Nat → Bool} {nx nx' : Nat → Option Nat} {lg lg' : Nat → Bool}
/-- the same named terms are equal -/
def hc_kq (U : Nat → Prop) (v v' : Nat → Nat) : Prop := ∀ a b, U a → U b → (v a = v b ↔ v' a = v' b)
theorem hc_kq.symm (h : hc_kq U v v') : hc_kq U v' v := fun a b ha hb => (h a b ha hb).symm
theorem hc_N_move (hk : hc_kq U v v') {p : Nat} (h1 : U (fr p)) (h2 : U (to p)) (h : hc_N (fun p => v (fr p)) (fun p => v (to p)) I p) : hc_N (fun p => v' (fr p)) (fun p => v' (to p)) I p := fun hI q => h hI ((hk _ _ h1 h2).mpr q)
theorem hc_BG_move (hk : hc_kq U v v') (h5 : U 5) (hU : ∀ p, p < m → U (fr p) ∧ U (to p)) (h : hc_BG (v 5) m (fun p => v (fr p)) (fun p => v (to p)) I) : hc_BG (v' 5) m (fun p => v' (fr p)) (fun p => v' (to p)) I := by
  intro p hp hN
  obtain ⟨a1, a2⟩ := h p hp (hc_N_move hk.symm (hU p hp).1 (hU p hp).2 hN)
  refine ⟨fun q => a1 ((hk _ _ (hU p hp).1 h5).mpr q), fun q hq hNq hqp => a2 q hq (hc_N_move hk.symm (hU q hq).1 (hU q hq).2 hNq) ((hk _ _ (hU q hq).1 (hU p hp).1).mpr hqp)⟩
def hc_PO (v : Nat → Nat) (sm ot : Nat → Nat → Bool) : Prop := ∀ a, a < 6 → ∀ b, b < 6 → (sm a b = true → v a = v b) ∧ (ot a b = true → v a ≠ v b)
theorem hc_PO_move {sm ot : Nat → Nat → Bool} (hk : hc_kq U v v') (hU : ∀ a, a < 6 → ∀ b, b < 6 → sm a b = true ∨ ot a b = true → U a ∧ U b) (h : hc_PO v sm ot) : hc_PO v' sm ot := by
  intro a ha b hb
  obtain ⟨h1, h2⟩ := h a ha b hb
  refine ⟨fun q => ?_, fun q e => ?_⟩
  · obtain ⟨u1, u2⟩ := hU a ha b hb (Or.inl q)
    exact (hk a b u1 u2).mp (h1 q)
  · obtain ⟨u1, u2⟩ := hU a ha b hb (Or.inr q)
    exact h2 q ((hk a b u1 u2).mpr e)
theorem hc_CT_move (hk : hc_kq U v v') (h5 : U 5) (hU : ∀ p, p < m → U (fr p) ∧ U (to p)) (hU' : ∀ i, i < n → U (fr' i) ∧ U (to' i))
    (hH : hc_H nx lg m (fun p => v (fr p)) (fun p => v (to p)) I) (hH' : hc_H nx' lg' m (fun p => v' (fr p)) (fun p => v' (to p)) I) {c : Nat → List Nat} (hC : hc_CT nx lg (v 5) n (fun i => v (fr' i)) (fun i => v (to' i)) I' c) :
    ∃ c', hc_CT nx' lg' (v' 5) n (fun i => v' (fr' i)) (fun i => v' (to' i)) I' c' ∧ ∀ p, p < m → hc_N (fun p => v (fr p)) (fun p => v (to p)) I p → ∀ i, i < n → (v' (fr p) ∈ c' i ↔ v (fr p) ∈ c i) := by
  have hph : ∀ g, ∃ y, ∀ t, U t → v t = g → v' t = y := by
    intro g
    by_cases h : ∃ t, U t ∧ v t = g
    · obtain ⟨t, ht, hg⟩ := h
      exact ⟨v' t, fun u hu hug => (hk u t hu ht).mp (hug.trans hg.symm)⟩
    · exact ⟨0, fun t ht hg => absurd ⟨t, ht, hg⟩ h⟩
  obtain ⟨φ, hφ⟩ := Classical.axiomOfChoice hph
  have hφ : ∀ t, U t → φ (v t) = v' t := fun t ht => (hφ (v t) t ht rfl).symm
  -- a cell of the one is a cell of the other
  have hcell : ∀ t, U t → nx (v t) ≠ none → ∃ p, p < m ∧ hc_N (fun p => v (fr p)) (fun p => v (to p)) I p ∧ v (fr p) = v t ∧ nx (v t) = some (v (to p)) ∧ lg (v t) = I p ∧ nx' (v' t) = some (v' (to p)) ∧ lg' (v' t) = I p := by
    intro t ht hn
    obtain ⟨p, h1, h2, h3⟩ := hH.2 _ hn
    have h3' : v (fr p) = v t := h3
    obtain ⟨a1, a2⟩ := hH.1 p h1 h2
    obtain ⟨b1, b2⟩ := hH'.1 p h1 (hc_N_move hk (hU p h1).1 (hU p h1).2 h2)
    have h4 : v' (fr p) = v' t := (hk _ _ (hU p h1).1 ht).mp h3'
    have a1' : nx (v (fr p)) = some (v (to p)) := a1
    have a2' : lg (v (fr p)) = I p := a2
    have b1' : nx' (v' (fr p)) = some (v' (to p)) := b1
    have b2' : lg' (v' (fr p)) = I p := b2
    rw [h3'] at a1' a2'
    rw [h4] at b1' b2'
    exact ⟨p, h1, h2, h3', a1', a2', b1', b2'⟩
  have hnone : ∀ t, U t → nx' (v' t) = none → nx (v t) = none := by
    intro t ht hn
    by_cases h : nx (v t) = none
    · exact h
    · obtain ⟨p, -, -, -, -, -, h6, -⟩ := hcell t ht h
      rw [hn] at h6
      cases h6
  have hpath : ∀ (u : Nat), U u → ∀ (l : List Nat) (t : Nat), U t → hc_P nx (v u) l (v t) → hc_P nx' (v' u) (l.map φ) (v' t) := by
    intro u hu l
    induction l with
    | nil => intro t ht h; exact hc_P_nil.mpr ((hk _ _ ht hu).mp (hc_P_nil.mp h))
    | cons a l ih =>
      intro t ht h
      obtain ⟨h1, h2, x, hx, hp⟩ := hc_P_cons.mp h
      obtain ⟨p, k1, -, -, k4, -, k6, -⟩ := hcell t ht (by rw [hx]; exact fun q => nomatch q)
      rw [hx] at k4
      injection k4 with k4
      rw [k4] at hp
      exact hc_P_cons.mpr ⟨by rw [h1]; exact hφ t ht, fun q => h2 ((hk _ _ ht hu).mpr q), v' (to p), k6, ih (to p) (hU p k1).2 hp⟩
  have hmem : ∀ i, i < n → ∀ a, a ∈ c i → ∃ p, p < m ∧ hc_N (fun p => v (fr p)) (fun p => v (to p)) I p ∧ a = v (fr p) ∧ φ a = v' (fr p) := by
    intro i hi a ha
    obtain ⟨p, h1, h2, h3⟩ := hH.2 a (hc_pp_cell (hC.1 i hi).1 ha)
    have h3' : v (fr p) = a := h3
    exact ⟨p, h1, h2, h3'.symm, by rw [← h3']; exact hφ _ (hU p h1).1⟩
  refine ⟨fun i => (c i).map φ, ⟨fun i hi => ?_, fun i j hi hj hij a ha hb => ?_⟩, fun p hp hN i hi => ?_⟩
  · obtain ⟨⟨a1, a2⟩, a3⟩ := hC.1 i hi
    refine ⟨⟨fun hI => hpath _ (hU' i hi).2 _ _ (hU' i hi).1 (a1 hI), fun hI => ?_⟩, fun hI hlo a ha hlg => ?_⟩
    · obtain ⟨b1, b2, b3⟩ := a2 hI
      have b2' : nx (v (fr' i)) = some (v (to' i)) := b2
      have b3' : lg (v (fr' i)) = false := b3
      obtain ⟨p, k1, k2, k3, k4, k5, k6, k7⟩ := hcell (fr' i) (hU' i hi).1 (by rw [b2']; exact fun q => nomatch q)
      rw [b2'] at k4
      injection k4 with k4
      rw [b3'] at k5
      show (c i).map φ = [v' (fr' i)] ∧ nx' (v' (fr' i)) = some (v' (to' i)) ∧ lg' (v' (fr' i)) = false
      refine ⟨?_, ?_, by rw [k7, ← k5]⟩
      · rw [b1]
        show [φ (v (fr' i))] = _
        rw [hφ _ (hU' i hi).1]
      · rw [k6, (hk _ _ (hU' i hi).2 (hU p k1).2).mp k4]
    · obtain ⟨b, hb1, hb2⟩ := List.mem_map.mp ha
      obtain ⟨p, k1, k2, k3, k4⟩ := hmem i hi b hb1
      have hbn : nx (v (fr p)) ≠ none := by rw [← k3]; exact hc_pp_cell ⟨a1, a2⟩ hb1
      obtain ⟨q, j1, j2, j3, j4, j5, j6, j7⟩ := hcell (fr p) (hU p k1).1 hbn
      have hlo' : hc_lo nx (v 5) (v (to' i)) := ⟨fun q => hlo.1 ((hk _ _ (hU' i hi).2 h5).mp q), hnone _ (hU' i hi).2 hlo.2⟩
      rw [← hb2, k4, j7] at hlg
      have h9 := a3 hI hlo' b hb1 (by rw [k3, j5]; exact hlg)
      have h9' : nx b = some (v (to' i)) := h9
      rw [k3, j4] at h9'
      injection h9' with h9'
      show nx' a = some (v' (to' i))
      rw [← hb2, k4, j6, (hk _ _ (hU q j1).2 (hU' i hi).2).mp h9']
  · obtain ⟨x, hx1, hx2⟩ := List.mem_map.mp ha
    obtain ⟨y, hy1, hy2⟩ := List.mem_map.mp hb
    obtain ⟨p, k1, k2, k3, k4⟩ := hmem i hi x hx1
    obtain ⟨q, j1, j2, j3, j4⟩ := hmem j hj y hy1
    have h9 : v' (fr p) = v' (fr q) := by rw [← k4, ← j4, hx2, hy2]
    have h8 : x = y := by rw [k3, j3]; exact (hk _ _ (hU p k1).1 (hU q j1).1).mpr h9
    rw [h8] at hx1
    exact hC.2 i j hi hj hij y hx1 hy1
  · constructor
    · intro h
      obtain ⟨x, hx1, hx2⟩ := List.mem_map.mp h
      obtain ⟨q, k1, k2, k3, k4⟩ := hmem i hi x hx1
      have h9 : v' (fr q) = v' (fr p) := by rw [← k4, hx2]
      rw [← (hk _ _ (hU q k1).1 (hU p hp).1).mpr h9, ← k3]
      exact hx1
    · intro h
      exact List.mem_map.mpr ⟨v (fr p), h, hφ _ (hU p hp).1⟩
end MOVE
