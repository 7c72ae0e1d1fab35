/-! The reference's state in numbers. -/
theorem hm_neg {k : Nat} (h : k < 2 ^ 32) : nI k < 0 ↔ 2 ^ 31 ≤ k := by
  constructor
  · intro q
    by_cases h9 : k < 2 ^ 31
    · exact absurd q (nI_pos h9)
    · omega
  · intro q
    rw [Int32.lt_iff_toInt_lt, Int32.toInt_zero]
    show (BitVec.ofNat 32 k).toInt < 0
    rw [BitVec.toInt_eq_toNat_cond, BitVec.toNat_ofNat, Nat.mod_eq_of_lt h, if_neg (by omega)]
    omega
theorem hm_eq {a b : Nat} (ha : a < 2 ^ 32) (hb : b < 2 ^ 32) : nI a = nI b ↔ a = b := by
  constructor
  · intro h
    have h1 : (BitVec.ofNat 32 a).toNat = (BitVec.ofNat 32 b).toNat := by
      have := congrArg (fun x : Int32 => x.toBitVec.toNat) h
      exact this
    rw [BitVec.toNat_ofNat, BitVec.toNat_ofNat, Nat.mod_eq_of_lt ha, Nat.mod_eq_of_lt hb] at h1
    exact h1
  · intro h; rw [h]
/-- every int is nI of a number -/
theorem hm_all (x : Int32) : ∃ k, k < 2 ^ 32 ∧ x = nI k := by
  refine ⟨x.toBitVec.toNat, x.toBitVec.isLt, ?_⟩
  apply Int32.toBitVec_inj.mp
  show x.toBitVec = BitVec.ofNat 32 x.toBitVec.toNat
  rw [BitVec.ofNat_toNat, BitVec.setWidth_eq]
theorem hm_le0 {n : Nat} (h0 : 0 < n) (h : n < 2 ^ 31) : ¬ nI n ≤ 0 := by
  rw [Int32.le_iff_toInt_le, nI_toInt h, Int32.toInt_zero]; omega
theorem hm_lt0 {n : Nat} (h0 : 0 < n) (h : n < 2 ^ 31) : 0 < nI n := by
  rw [Int32.lt_iff_toInt_lt, nI_toInt h, Int32.toInt_zero]; omega
theorem hw_nar1 : vp_nar .boolean (nI 1) = hc_b true := by decide +kernel
theorem hw_nar0 : vp_nar .boolean (nI 0) = hc_b false := by decide +kernel
theorem hw_b1 : hc_b true = nI 1 := by decide
theorem hw_bf : hc_b false = nI 0 := by decide
theorem hm_rg {f : Nat → Nat} : ∀ j, j < 6 → ((List.range 6).map f).getD j 0 = f j := by
  intro j hj
  rw [List.getD_eq_getElem?_getD, List.getElem?_map, List.getElem?_range hj]; rfl
def hr_m (Sa Oa My Fa Ta La : Nat → Int32) (SA OA : Nat → Bool) (MA FA TA : Nat → Nat) (LA : Nat → Bool) : Prop :=
  (∀ k, k < 72 → Sa k = hc_b (SA k) ∧ Oa k = hc_b (OA k)) ∧ (∀ c, c < 2 → My c = nI (MA c) ∧ MA c ≤ 5) ∧ ∀ k, k < 10 → Fa k = nI (FA k) ∧ FA k < 6 ∧ Ta k = nI (TA k) ∧ TA k < 6 ∧ La k = hc_b (LA k)
abbrev hr_s (SA : Nat → Bool) (c : Nat) : Nat → Nat → Bool := fun a b => SA (36 * c + 6 * a + b)
