/-! What the class gathers over its cases, against what the reference asks of all groupings. -/
section FRAME
variable {sm ot sm' ot' : Nat → Nat → Bool} {m n : Nat} {fr to fr' to' : Nat → Nat} {I I' : Nat → Bool}
/-- left is true of some state of this case -/
def hc_A (sm ot : Nat → Nat → Bool) (m : Nat) (fr to : Nat → Nat) (I : Nat → Bool) (v : Nat → Nat) : Prop := hc_PO v sm ot ∧ hc_BG (v 5) m (fun p => v (fr p)) (fun p => v (to p)) I
abbrev hc_nv (m : Nat) (fr to : Nat → Nat) (I : Nat → Bool) (v : Nat → Nat) : Nat → Option Nat := hc_nx (hc_w0 (fun p => v (fr p)) (fun p => v (to p)) I m)
abbrev hc_lv (m : Nat) (fr to : Nat → Nat) (I : Nat → Bool) (v : Nat → Nat) : Nat → Bool := hc_fa (hc_w0 (fun p => v (fr p)) (fun p => v (to p)) I m)
abbrev hc_Nv (fr to : Nat → Nat) (I : Nat → Bool) (v : Nat → Nat) (p : Nat) : Prop := hc_N (fun p => v (fr p)) (fun p => v (to p)) I p
/-- right has the stretches c there -/
def hc_G (m : Nat) (fr to : Nat → Nat) (I : Nat → Bool) (sm' ot' : Nat → Nat → Bool) (n : Nat) (fr' to' : Nat → Nat) (I' : Nat → Bool) (v : Nat → Nat) (c : Nat → List Nat) : Prop :=
  hc_PO v sm' ot' ∧ hc_CT (hc_nv m fr to I v) (hc_lv m fr to I v) (v 5) n (fun i => v (fr' i)) (fun i => v (to' i)) I' c
/-- the frame f is right for this case -/
def hc_F (m : Nat) (fr to : Nat → Nat) (I : Nat → Bool) (sm' ot' : Nat → Nat → Bool) (n : Nat) (fr' to' : Nat → Nat) (I' : Nat → Bool) (f : Nat → Bool) (v : Nat → Nat) : Prop :=
  ∃ c, hc_G m fr to I sm' ot' n fr' to' I' v c ∧ ∀ p, p < m → hc_Nv fr to I v p → (f p = true ↔ ∀ i, i < n → v (fr p) ∉ c i)
/-- the terms that a claim names -/
def hc_U (sm ot : Nat → Nat → Bool) (m : Nat) (fr to : Nat → Nat) (U : Nat → Prop) : Prop := (∀ a, a < 6 → ∀ b, b < 6 → sm a b = true ∨ ot a b = true → U a ∧ U b) ∧ ∀ p, p < m → U (fr p) ∧ U (to p)
theorem hc_A_move {U : Nat → Prop} {v v' : Nat → Nat} (hk : hc_kq U v v') (h5 : U 5) (hU : hc_U sm ot m fr to U) (h : hc_A sm ot m fr to I v) : hc_A sm ot m fr to I v' := ⟨hc_PO_move hk hU.1 h.1, hc_BG_move hk h5 hU.2 h.2⟩
theorem hc_G_det {v : Nat → Nat} {c c' : Nat → List Nat} (h : hc_G m fr to I sm' ot' n fr' to' I' v c) (h' : hc_G m fr to I sm' ot' n fr' to' I' v c') : ∀ i, i < n → c i = c' i := fun i hi => hc_pp_det (h.2.1 i hi).1 (h'.2.1 i hi).1
theorem hc_G_move {U : Nat → Prop} {v v' : Nat → Nat} (hk : hc_kq U v v') (h5 : U 5) (hU : hc_U sm ot m fr to U) (hU' : hc_U sm' ot' n fr' to' U) (hA : hc_A sm ot m fr to I v) {c : Nat → List Nat} (h : hc_G m fr to I sm' ot' n fr' to' I' v c) :
    ∃ c', hc_G m fr to I sm' ot' n fr' to' I' v' c' ∧ ∀ p, p < m → hc_Nv fr to I v p → ∀ i, i < n → (v' (fr p) ∈ c' i ↔ v (fr p) ∈ c i) := by
  obtain ⟨c', h1, h2⟩ := hc_CT_move hk h5 hU.2 hU'.2 (hc_w0_H hA.2) (hc_w0_H (hc_A_move hk h5 hU hA).2) h.2
  exact ⟨c', ⟨hc_PO_move hk hU'.1 h.1, h1⟩, h2⟩
theorem hc_F_move {U : Nat → Prop} {v v' : Nat → Nat} {f : Nat → Bool} (hk : hc_kq U v v') (h5 : U 5) (hU : hc_U sm ot m fr to U) (hU' : hc_U sm' ot' n fr' to' U) (hA : hc_A sm ot m fr to I v) (h : hc_F m fr to I sm' ot' n fr' to' I' f v) :
    hc_F m fr to I sm' ot' n fr' to' I' f v' := by
  obtain ⟨c, h1, h2⟩ := h
  obtain ⟨c', k1, k2⟩ := hc_G_move hk h5 hU hU' hA h1
  refine ⟨c', k1, fun p hp hN => ?_⟩
  have hN' : hc_Nv fr to I v p := hc_N_move hk.symm (hU.2 p hp).1 (hU.2 p hp).2 hN
  rw [h2 p hp hN']
  exact ⟨fun q i hi e => q i hi ((k2 p hp hN' i hi).mp e), fun q i hi e => q i hi ((k2 p hp hN' i hi).mpr e)⟩
/-- all groupings, or the class's cases: it is one -/
theorem hc_all_cas {M : Nat} (hM : M < 32) (hU : hc_U sm ot m fr to (fun t => (t < 5 ∧ M.testBit t = true) ∨ t = 5)) {P : (Nat → Nat) → Prop}
    (hP : ∀ v v', hc_kq (fun t => (t < 5 ∧ M.testBit t = true) ∨ t = 5) v v' → hc_A sm ot m fr to I v → P v → P v') :
    (∀ l, l ∈ hc_all → hc_A sm ot m fr to I (fun t => l.getD t 0) → P (fun t => l.getD t 0)) ↔ ∀ l, l ∈ hc_cas M → hc_A sm ot m fr to I (fun t => l.getD t 0) → P (fun t => l.getD t 0) := by
  have h5 : (fun t => (t < 5 ∧ M.testBit t = true) ∨ t = 5) 5 := Or.inr rfl
  constructor
  · intro h l hl hA
    obtain ⟨l', h1, h2⟩ := hc_cov_all (fun t => l.getD t 0)
    have hk : hc_kq (fun t => (t < 5 ∧ M.testBit t = true) ∨ t = 5) (fun t => l.getD t 0) (fun t => l'.getD t 0) := fun a b ha hb => h2 a b (by rcases ha with ha | ha <;> omega) (by rcases hb with hb | hb <;> omega)
    have hA' := hc_A_move hk h5 hU hA
    exact hP _ _ hk.symm hA' (h l' h1 hA')
  · intro h l hl hA
    obtain ⟨l', h1, hk⟩ := hc_cov_cas M hM (fun t => l.getD t 0)
    have hA' := hc_A_move hk h5 hU hA
    exact hP _ _ hk.symm hA' (h l' h1 hA')
/-- what the cases cs have gathered -/
def hc_nd (sm ot : Nat → Nat → Bool) (m : Nat) (fr to : Nat → Nat) (I : Nat → Bool) (sm' ot' : Nat → Nat → Bool) (n : Nat) (fr' to' : Nat → Nat) (I' : Nat → Bool) (cs : List (List Nat)) (p : Nat) : Prop :=
  ∃ l, l ∈ cs ∧ hc_A sm ot m fr to I (fun t => l.getD t 0) ∧ hc_Nv fr to I (fun t => l.getD t 0) p ∧ ∃ c, hc_G m fr to I sm' ot' n fr' to' I' (fun t => l.getD t 0) c ∧ ∀ i, i < n → l.getD (fr p) 0 ∉ c i
def hc_bd (sm ot : Nat → Nat → Bool) (m : Nat) (fr to : Nat → Nat) (I : Nat → Bool) (sm' ot' : Nat → Nat → Bool) (n : Nat) (fr' to' : Nat → Nat) (I' : Nat → Bool) (cs : List (List Nat)) (p : Nat) : Prop :=
  ∃ l, l ∈ cs ∧ hc_A sm ot m fr to I (fun t => l.getD t 0) ∧ hc_Nv fr to I (fun t => l.getD t 0) p ∧ ∃ c, hc_G m fr to I sm' ot' n fr' to' I' (fun t => l.getD t 0) c ∧ ∃ i, i < n ∧ l.getD (fr p) 0 ∈ c i
variable {cs : List (List Nat)}
theorem hc_fr_no (h : (∃ l, l ∈ cs ∧ hc_A sm ot m fr to I (fun t => l.getD t 0) ∧ ¬ ∃ c, hc_G m fr to I sm' ot' n fr' to' I' (fun t => l.getD t 0) c) ∨ ∃ p, p < m ∧ hc_nd sm ot m fr to I sm' ot' n fr' to' I' cs p ∧ hc_bd sm ot m fr to I sm' ot' n fr' to' I' cs p) (f : Nat → Bool) :
    ¬ ∀ l, l ∈ cs → hc_A sm ot m fr to I (fun t => l.getD t 0) → hc_F m fr to I sm' ot' n fr' to' I' f (fun t => l.getD t 0) := by
  intro hf
  rcases h with ⟨l, h1, h2, h3⟩ | ⟨p, hp, ⟨l, a1, a2, a3, c, a4, a5⟩, ⟨l2, b1, b2, b3, c2, b4, i, hi, b5⟩⟩
  · obtain ⟨c, h4, -⟩ := hf l h1 h2
    exact h3 ⟨c, h4⟩
  · obtain ⟨d, d1, d2⟩ := hf l a1 a2
    have hfp : f p = true := (d2 p hp a3).mpr (fun i hi => by rw [hc_G_det d1 a4 i hi]; exact a5 i hi)
    obtain ⟨d', e1, e2⟩ := hf l2 b1 b2
    refine (e2 p hp b3).mp hfp i hi ?_
    rw [hc_G_det e1 b4 i hi]
    exact b5
theorem hc_fr_yes (h : ∀ l, l ∈ cs → hc_A sm ot m fr to I (fun t => l.getD t 0) → ∃ c, hc_G m fr to I sm' ot' n fr' to' I' (fun t => l.getD t 0) c) {f : Nat → Bool} (hf : ∀ p, p < m → (f p = true ↔ hc_nd sm ot m fr to I sm' ot' n fr' to' I' cs p))
    (hno : ∀ p, p < m → hc_nd sm ot m fr to I sm' ot' n fr' to' I' cs p → ¬ hc_bd sm ot m fr to I sm' ot' n fr' to' I' cs p) :
    (∀ l, l ∈ cs → hc_A sm ot m fr to I (fun t => l.getD t 0) → hc_F m fr to I sm' ot' n fr' to' I' f (fun t => l.getD t 0)) ∧
    ∀ f' : Nat → Bool, (∀ l, l ∈ cs → hc_A sm ot m fr to I (fun t => l.getD t 0) → hc_F m fr to I sm' ot' n fr' to' I' f' (fun t => l.getD t 0)) → ∀ p, p < m → f p = true → f' p = true := by
  refine ⟨fun l hl hA => ?_, fun f' hf' p hp hfp => ?_⟩
  · obtain ⟨c, hc⟩ := h l hl hA
    refine ⟨c, hc, fun p hp hN => ⟨fun hfp i hi e => hno p hp ((hf p hp).mp hfp) ⟨l, hl, hA, hN, c, hc, i, hi, e⟩, fun q => (hf p hp).mpr ⟨l, hl, hA, hN, c, hc, q⟩⟩⟩
  · obtain ⟨l, a1, a2, a3, c, a4, a5⟩ := (hf p hp).mp hfp
    obtain ⟨d, d1, d2⟩ := hf' l a1 a2
    exact (d2 p hp a3).mpr (fun i hi => by rw [hc_G_det d1 a4 i hi]; exact a5 i hi)
end FRAME
