/-! One relation over all cells, kept by each step; the answers are one. -/
section LZ
variable {S O Fr To Li S2 O2 Fr2 To2 Li2 : Nat → Int32} {nm nm2 : Int32} {sm ot sm' ot' : Nat → Nat → Bool} {n n2 a b : Nat} {fr to fr' to' fr2 to2 : Nat → Nat} {li li' li2 : Nat → Bool} {o : Bool}
variable {Sa Oa My Fa Ta La Sa' Oa' My' Fa' Ta' La' : Nat → Int32} {SA OA : Nat → Bool} {MA FA TA : Nat → Nat} {LA : Nat → Bool}
theorem rl_cong (h : rl_cl S O Fr To Li nm sm ot n fr to li) (hs : ∀ y, y < 6 → ∀ z, z < 6 → sm' y z = sm y z) (ho : ∀ y, y < 6 → ∀ z, z < 6 → ot' y z = ot y z) (hf : ∀ p, p < n → fr' p = fr p ∧ to' p = to p ∧ li' p = li p) : rl_cl S O Fr To Li nm sm' ot' n fr' to' li' := by
  obtain ⟨⟨h1, h2, h3⟩, h4, h5⟩ := h
  refine ⟨⟨h1, fun y hy i hi => ?_, fun p hp => ?_⟩, fun y hy z hz hyz => ?_, fun p hp => ?_⟩
  · obtain ⟨k1, k2⟩ := h2 y hy i hi
    rw [k1, k2]
    by_cases h6 : i < 6
    · rw [hs y hy i h6, ho y hy i h6]; exact ⟨rfl, rfl⟩
    · rw [decide_eq_false h6]; exact ⟨rfl, rfl⟩
  · obtain ⟨e1, e2, e3⟩ := hf p hp
    rw [e1, e2, e3]; exact h3 p hp
  · rw [hs y hy z hz, ho y hy z hz] at hyz; exact h4 y hy z hz hyz
  · obtain ⟨e1, e2, -⟩ := hf p hp
    rw [e1, e2]; exact h5 p hp
theorem lz_up {X : Nat → Bool} {c d y z : Nat} (ha : a < 6) (hb : b < 6) (hy : y < 6) (hz : z < 6) : va_up X (36 * c + 6 * a + b) true (36 * d + 6 * y + z) = (X (36 * d + 6 * y + z) || decide (d = c ∧ y = a ∧ z = b)) := by
  by_cases h : d = c ∧ y = a ∧ z = b
  · obtain ⟨rfl, rfl, rfl⟩ := h
    rw [hc_up_s]; simp
  · rw [hc_up_n X true (show 36 * d + 6 * y + z ≠ 36 * c + 6 * a + b from fun q => h ⟨by omega, by omega, by omega⟩)]; simp [h]
/-- a pair more -/
theorem lz_pair {c d : Nat} (hcd : c ≠ d) (hM : hr_m Sa Oa My Fa Ta La SA OA MA FA TA LA) (hC : rl_cl S O Fr To Li nm (hr_s SA c) (hr_s OA c) n fr to li) (hC' : rl_cl S2 O2 Fr2 To2 Li2 nm2 (hr_s SA d) (hr_s OA d) n2 fr2 to2 li2) (ha : a < 6) (hb : b < 6) {S' O' : Nat → Int32} {nm' : Int32}
    (h1 : S' = (bif o then S else upd S a (S a ||| (nI 1 <<< (nI b &&& 31)))) ∧ O' = (bif o then upd O a (O a ||| (nI 1 <<< (nI b &&& 31))) else O) ∧ nm' = nm ||| ((nI 1 <<< (nI a &&& 31)) ||| (nI 1 <<< (nI b &&& 31))))
    (h2 : (o = true ∧ Sa' = Sa ∧ Oa' = upd Oa (36 * c + 6 * a + b) (hc_b true)) ∨ (o = false ∧ Sa' = upd Sa (36 * c + 6 * a + b) (hc_b true) ∧ Oa' = Oa)) :
    ∃ SA' OA', hr_m Sa' Oa' My Fa Ta La SA' OA' MA FA TA LA ∧ rl_cl S' O' Fr To Li nm' (hr_s SA' c) (hr_s OA' c) n fr to li ∧ rl_cl S2 O2 Fr2 To2 Li2 nm2 (hr_s SA' d) (hr_s OA' d) n2 fr2 to2 li2 := by
  obtain ⟨rfl, rfl, rfl⟩ := h1
  rcases h2 with ⟨rfl, rfl, rfl⟩ | ⟨rfl, rfl, rfl⟩
  · refine ⟨SA, va_up OA (36 * c + 6 * a + b) true, rm_pairO hM, rl_pair (o := true) hC ha hb (fun y _ z _ => by simp) (fun y hy z hz => ?_), rl_cong hC' (fun _ _ _ _ => rfl) (fun y hy z hz => ?_) (fun _ _ => ⟨rfl, rfl, rfl⟩)⟩
    · show va_up OA (36 * c + 6 * a + b) true (36 * c + 6 * y + z) = (OA (36 * c + 6 * y + z) || (true && decide (y = a ∧ z = b)))
      rw [lz_up ha hb hy hz]; simp
    · show va_up OA (36 * c + 6 * a + b) true (36 * d + 6 * y + z) = OA (36 * d + 6 * y + z)
      rw [lz_up ha hb hy hz, decide_eq_false (fun q => hcd q.1.symm), Bool.or_false]
  · refine ⟨va_up SA (36 * c + 6 * a + b) true, OA, rm_pairS hM, rl_pair (o := false) hC ha hb (fun y hy z hz => ?_) (fun y _ z _ => by simp), rl_cong hC' (fun y hy z hz => ?_) (fun _ _ _ _ => rfl) (fun _ _ => ⟨rfl, rfl, rfl⟩)⟩
    · show va_up SA (36 * c + 6 * a + b) true (36 * c + 6 * y + z) = (SA (36 * c + 6 * y + z) || (!false && decide (y = a ∧ z = b)))
      rw [lz_up ha hb hy hz]; simp
    · show va_up SA (36 * c + 6 * a + b) true (36 * d + 6 * y + z) = SA (36 * d + 6 * y + z)
      rw [lz_up ha hb hy hz, decide_eq_false (fun q => hcd q.1.symm), Bool.or_false]
/-- a piece more, of claim 0 -/
theorem lz_piece0 (hM : hr_m Sa Oa My Fa Ta La SA OA MA FA TA LA) (hC1 : rl_cl S O Fr To Li nm (hr_s SA 0) (hr_s OA 0) (MA 0) FA TA LA) (hC2 : rl_cl S2 O2 Fr2 To2 Li2 nm2 (hr_s SA 1) (hr_s OA 1) (MA 1) (fun p => FA (5 + p)) (fun p => TA (5 + p)) (fun p => LA (5 + p))) (hn : MA 0 < 5) (ha : a < 6) (hb : b < 6) :
    hr_m Sa Oa (upd My 0 (nI (MA 0 + 1))) (upd Fa (5 * 0 + MA 0) (nI a)) (upd Ta (5 * 0 + MA 0) (nI b)) (upd La (5 * 0 + MA 0) (hc_b o)) SA OA (va_up MA 0 (MA 0 + 1)) (va_up FA (5 * 0 + MA 0) a) (va_up TA (5 * 0 + MA 0) b) (va_up LA (5 * 0 + MA 0) o) ∧
    rl_cl S O (upd Fr (MA 0) (nI a)) (upd To (MA 0) (nI b)) (upd Li (MA 0) (hc_b o)) (nm ||| ((nI 1 <<< (nI a &&& 31)) ||| (nI 1 <<< (nI b &&& 31)))) (hr_s SA 0) (hr_s OA 0) (MA 0 + 1) (va_up FA (5 * 0 + MA 0) a) (va_up TA (5 * 0 + MA 0) b) (va_up LA (5 * 0 + MA 0) o) ∧
    rl_cl S2 O2 Fr2 To2 Li2 nm2 (hr_s SA 1) (hr_s OA 1) (MA 1) (fun p => va_up FA (5 * 0 + MA 0) a (5 + p)) (fun p => va_up TA (5 * 0 + MA 0) b (5 + p)) (fun p => va_up LA (5 * 0 + MA 0) o (5 + p)) := by
  have e : 5 * 0 + MA 0 = MA 0 := by omega
  refine ⟨rm_piece hM (by omega) hn ha hb, ?_, ?_⟩
  · rw [e]
    exact rl_piece hC1 hn ha hb (fun p hp => ⟨hc_up_n FA _ (by omega), hc_up_n TA _ (by omega), hc_up_n LA _ (by omega)⟩) ⟨hc_up_s _ _ _, hc_up_s _ _ _, hc_up_s _ _ _⟩
  · refine rl_cong hC2 (fun _ _ _ _ => rfl) (fun _ _ _ _ => rfl) (fun p hp => ⟨?_, ?_, ?_⟩)
    · exact hc_up_n FA a (by omega)
    · exact hc_up_n TA b (by omega)
    · exact hc_up_n LA o (by omega)
/-- of claim 1 -/
theorem lz_piece1 (hM : hr_m Sa Oa My Fa Ta La SA OA MA FA TA LA) (hC1 : rl_cl S O Fr To Li nm (hr_s SA 0) (hr_s OA 0) (MA 0) FA TA LA) (hC2 : rl_cl S2 O2 Fr2 To2 Li2 nm2 (hr_s SA 1) (hr_s OA 1) (MA 1) (fun p => FA (5 + p)) (fun p => TA (5 + p)) (fun p => LA (5 + p))) (hn : MA 1 < 5) (ha : a < 6) (hb : b < 6) :
    hr_m Sa Oa (upd My 1 (nI (MA 1 + 1))) (upd Fa (5 * 1 + MA 1) (nI a)) (upd Ta (5 * 1 + MA 1) (nI b)) (upd La (5 * 1 + MA 1) (hc_b o)) SA OA (va_up MA 1 (MA 1 + 1)) (va_up FA (5 * 1 + MA 1) a) (va_up TA (5 * 1 + MA 1) b) (va_up LA (5 * 1 + MA 1) o) ∧
    rl_cl S O Fr To Li nm (hr_s SA 0) (hr_s OA 0) (MA 0) (va_up FA (5 * 1 + MA 1) a) (va_up TA (5 * 1 + MA 1) b) (va_up LA (5 * 1 + MA 1) o) ∧
    rl_cl S2 O2 (upd Fr2 (MA 1) (nI a)) (upd To2 (MA 1) (nI b)) (upd Li2 (MA 1) (hc_b o)) (nm2 ||| ((nI 1 <<< (nI a &&& 31)) ||| (nI 1 <<< (nI b &&& 31)))) (hr_s SA 1) (hr_s OA 1) (MA 1 + 1) (fun p => va_up FA (5 * 1 + MA 1) a (5 + p)) (fun p => va_up TA (5 * 1 + MA 1) b (5 + p)) (fun p => va_up LA (5 * 1 + MA 1) o (5 + p)) := by
  have h5 := hC1.1.1
  refine ⟨rm_piece hM (by omega) hn ha hb, ?_, ?_⟩
  · refine rl_cong hC1 (fun _ _ _ _ => rfl) (fun _ _ _ _ => rfl) (fun p hp => ⟨?_, ?_, ?_⟩)
    · exact hc_up_n FA a (by omega)
    · exact hc_up_n TA b (by omega)
    · exact hc_up_n LA o (by omega)
  · exact rl_piece hC2 hn ha hb (fun p hp => ⟨hc_up_n FA a (by omega), hc_up_n TA b (by omega), hc_up_n LA o (by omega)⟩) ⟨hc_up_s FA (5 * 1 + MA 1) a, hc_up_s TA (5 * 1 + MA 1) b, hc_up_s LA (5 * 1 + MA 1) o⟩
/-- no pairs, no pieces -/
theorem lz_clear {c d : Nat} (hcd : c ≠ d) (hM : hr_m Sa Oa My Fa Ta La SA OA MA FA TA LA) (hC' : rl_cl S2 O2 Fr2 To2 Li2 nm2 (hr_s SA d) (hr_s OA d) n2 fr2 to2 li2) {S' O' : Nat → Int32} (h1 : (∀ j, j < 6 → S' j = nI 0) ∧ ∀ j, j < 6 → O' j = nI 0)
    (hk : ∀ k, (Sa' k = if 36 * c ≤ k ∧ k < 36 * c + 36 then hc_b false else Sa k) ∧ (Oa' k = if 36 * c ≤ k ∧ k < 36 * c + 36 then hc_b false else Oa k)) :
    hr_m Sa' Oa' (upd My c (nI 0)) Fa Ta La (rm_cl c SA) (rm_cl c OA) (va_up MA c 0) FA TA LA ∧ rl_cl S' O' Fr To Li (nI 0) (hr_s (rm_cl c SA) c) (hr_s (rm_cl c OA) c) 0 fr to li ∧ rl_cl S2 O2 Fr2 To2 Li2 nm2 (hr_s (rm_cl c SA) d) (hr_s (rm_cl c OA) d) n2 fr2 to2 li2 := by
  have f1 : ∀ (X : Nat → Bool) y, y < 6 → ∀ z, z < 6 → hr_s (rm_cl c X) c y z = false := fun X y hy z hz => by
    show rm_cl c X (36 * c + 6 * y + z) = false
    unfold rm_cl; exact if_pos ⟨by omega, by omega⟩
  have f2 : ∀ (X : Nat → Bool) y, y < 6 → ∀ z, z < 6 → hr_s (rm_cl c X) d y z = hr_s X d y z := fun X y hy z hz => by
    show rm_cl c X (36 * d + 6 * y + z) = X (36 * d + 6 * y + z)
    unfold rm_cl; exact if_neg (by omega)
  exact ⟨rm_clear hM hk, rl_clear h1.1 h1.2 (f1 SA) (f1 OA), rl_cong hC' (f2 SA) (f2 OA) (fun _ _ => ⟨rfl, rfl, rfl⟩)⟩
/-- the claims change places -/
theorem lz_swap (hM : hr_m Sa Oa My Fa Ta La SA OA MA FA TA LA) (hC1 : rl_cl S O Fr To Li nm (hr_s SA 0) (hr_s OA 0) (MA 0) FA TA LA) (hC2 : rl_cl S2 O2 Fr2 To2 Li2 nm2 (hr_s SA 1) (hr_s OA 1) (MA 1) (fun p => FA (5 + p)) (fun p => TA (5 + p)) (fun p => LA (5 + p)))
    (h : (∀ k, k < 36 → (Sa' k = hc_b (SA (36 + k)) ∧ Sa' (36 + k) = hc_b (SA k)) ∧ (Oa' k = hc_b (OA (36 + k)) ∧ Oa' (36 + k) = hc_b (OA k))) ∧ (My' 0 = nI (MA 1) ∧ My' 1 = nI (MA 0)) ∧ ∀ k, k < 5 → (Fa' k = nI (FA (5 + k)) ∧ Fa' (5 + k) = nI (FA k)) ∧ (Ta' k = nI (TA (5 + k)) ∧ Ta' (5 + k) = nI (TA k)) ∧ (La' k = hc_b (LA (5 + k)) ∧ La' (5 + k) = hc_b (LA k))) :
    hr_m Sa' Oa' My' Fa' Ta' La' (rm_sw 36 SA) (rm_sw 36 OA) (rm_sw 1 MA) (rm_sw 5 FA) (rm_sw 5 TA) (rm_sw 5 LA) ∧
    rl_cl S2 O2 Fr2 To2 Li2 nm2 (hr_s (rm_sw 36 SA) 0) (hr_s (rm_sw 36 OA) 0) (MA 1) (rm_sw 5 FA) (rm_sw 5 TA) (rm_sw 5 LA) ∧
    rl_cl S O Fr To Li nm (hr_s (rm_sw 36 SA) 1) (hr_s (rm_sw 36 OA) 1) (MA 0) (fun p => rm_sw 5 FA (5 + p)) (fun p => rm_sw 5 TA (5 + p)) (fun p => rm_sw 5 LA (5 + p)) := by
  have f0 : ∀ (X : Nat → Bool) y, y < 6 → ∀ z, z < 6 → hr_s (rm_sw 36 X) 0 y z = hr_s X 1 y z := fun X y hy z hz => by
    show (if 36 * 0 + 6 * y + z < 36 then X (36 + (36 * 0 + 6 * y + z)) else X (36 * 0 + 6 * y + z - 36)) = X (36 * 1 + 6 * y + z)
    rw [if_pos (by omega)]; congr 1; omega
  have f1 : ∀ (X : Nat → Bool) y, y < 6 → ∀ z, z < 6 → hr_s (rm_sw 36 X) 1 y z = hr_s X 0 y z := fun X y hy z hz => by
    show (if 36 * 1 + 6 * y + z < 36 then X (36 + (36 * 1 + 6 * y + z)) else X (36 * 1 + 6 * y + z - 36)) = X (36 * 0 + 6 * y + z)
    rw [if_neg (by omega)]; congr 1; omega
  have g0 : ∀ {α : Type} (X : Nat → α) p, p < 5 → rm_sw 5 X p = X (5 + p) := fun X p hp => by
    unfold rm_sw; rw [if_pos hp]
  have g1 : ∀ {α : Type} (X : Nat → α) p, rm_sw 5 X (5 + p) = X p := fun X p => by
    unfold rm_sw; rw [if_neg (by omega), Nat.add_sub_cancel_left]
  have n1 := hC1.1.1
  have n2 := hC2.1.1
  exact ⟨rm_swap hM h.1 h.2.1 h.2.2, rl_cong hC2 (f0 SA) (f0 OA) (fun p hp => ⟨g0 FA p (by omega), g0 TA p (by omega), g0 LA p (by omega)⟩), rl_cong hC1 (f1 SA) (f1 OA) (fun p hp => ⟨g1 FA p, g1 TA p, g1 LA p⟩)⟩
/-! the answers -/
theorem lz_hcr {r r' : Int32} {P P' : Prop} (h : hc_r r P) (h' : hc_r r' P') (e : P ↔ P') : r = r' := by
  rcases h with ⟨a1, a2⟩ | ⟨a1, a2⟩ <;> rcases h' with ⟨b1, b2⟩ | ⟨b1, b2⟩
  · rw [a1, b1]
  · exact absurd (e.mp a2) b2
  · exact absurd (e.mpr b2) a2
  · rw [a1, b1]
theorem lz_01 {r : Int32} {P : Prop} (h : hc_r r P) : r = nI 0 ∨ r = nI 1 := h.elim (fun q => Or.inr q.1) (fun q => Or.inl q.1)
theorem lz_f0 {α : Type} (f : Nat → α) : (fun p => f (5 * 0 + p)) = f := funext fun p => by rw [Nat.mul_zero, Nat.zero_add]
variable {mo : Int32} {oa ob M : Nat}
theorem lz_possible0 (hC1 : rl_cl S O Fr To Li nm (hr_s SA 0) (hr_s OA 0) (MA 0) FA TA LA) (hM32 : M < 32) (hMb : ∀ t, t < 5 → bt nm t = M.testBit t) :
    (∃ l, l ∈ hc_cas M ∧ hc_A (hr_s SA 0) (hr_s OA 0) (MA 0) FA TA LA (fun t => l.getD t 0)) ↔ hk_S SA OA MA FA TA LA mo 0 oa ob 0 := by
  have h := ag_possible (SA := SA) (OA := OA) (MA := MA) (FA := FA) (TA := TA) (LA := LA) (mo := mo) (oa := oa) (ob := ob) (cx := 0) hM32 hC1.1.1 (by rw [lz_f0 FA, lz_f0 TA]; exact rl_U hC1 (fun _ _ q => q) hMb)
  rw [lz_f0 FA, lz_f0 TA, lz_f0 LA] at h
  exact h.symm
theorem lz_possible1 (hC2 : rl_cl S2 O2 Fr2 To2 Li2 nm2 (hr_s SA 1) (hr_s OA 1) (MA 1) (fun p => FA (5 + p)) (fun p => TA (5 + p)) (fun p => LA (5 + p))) (hM32 : M < 32) (hMb : ∀ t, t < 5 → bt nm2 t = M.testBit t) :
    (∃ l, l ∈ hc_cas M ∧ hc_A (hr_s SA 1) (hr_s OA 1) (MA 1) (fun p => FA (5 + p)) (fun p => TA (5 + p)) (fun p => LA (5 + p)) (fun t => l.getD t 0)) ↔ hk_S SA OA MA FA TA LA mo 0 oa ob 1 :=
  (ag_possible (SA := SA) (OA := OA) (MA := MA) (FA := FA) (TA := TA) (LA := LA) (mo := mo) (oa := oa) (ob := ob) (cx := 1) hM32 hC2.1.1 (rl_U hC2 (fun _ _ q => q) hMb)).symm
theorem lz_ht (hM : hr_m Sa Oa My Fa Ta La SA OA MA FA TA LA) : ∀ i, i < MA 1 → TA (5 + i) < 6 := fun i hi => by
  have h1 := (hM.2.1 1 (by omega)).2
  exact (hM.2.2 (5 + i) (by omega)).2.2.2.1
theorem lz_orb {x y : Int32} {t : Nat} (h : bt y t = true) : bt (x ||| y) t = true := by rw [b_or, h, Bool.or_true]
theorem lz_Ua {x : Int32} (ha : a < 6) (hx : bt x a = true) (hMb : ∀ t, t < 5 → bt x t = M.testBit t) : ag_U M a := by
  by_cases h5 : a = 5
  · exact Or.inr h5
  · exact Or.inl ⟨by omega, by rw [← hMb a (by omega)]; exact hx⟩
theorem lz_1 (ha : a < 32) : bt (nI 1 <<< (nI a &&& 31)) a = true := by rw [rl_1 ha ha, decide_eq_true rfl]
theorem lz_sure (hC1 : rl_cl S O Fr To Li nm (hr_s SA 0) (hr_s OA 0) (MA 0) FA TA LA) (hM32 : M < 32) {wh : Nat} (hMb : ∀ t, t < 5 → bt ((nm ||| nI 1 <<< (nI a &&& 31)) ||| nI 1 <<< (nI b &&& 31)) t = M.testBit t) (hwh : wh < 3) (ha : a < 6) (hb : b < 6) :
    (∀ l, l ∈ hc_cas M → hc_A (hr_s SA 0) (hr_s OA 0) (MA 0) FA TA LA (fun t => l.getD t 0) → hs_so wh (l.getD a 0) (l.getD b 0) (∃ p, p < MA 0 ∧ hc_Nv FA TA LA (fun t => l.getD t 0) p ∧ l.getD (FA p) 0 = l.getD a 0)) ↔ ¬ hk_S SA OA MA FA TA LA mo (wh + 2) a b 0 := by
  have h := ag_sure (SA := SA) (OA := OA) (MA := MA) (FA := FA) (TA := TA) (LA := LA) (mo := mo) (cx := 0) hM32 hC1.1.1 (by rw [lz_f0 FA, lz_f0 TA]; exact rl_U hC1 (fun t _ q => rl_or (rl_or q)) hMb) hwh (lz_Ua ha (rl_or (lz_orb (lz_1 (by omega)))) hMb) (lz_Ua hb (lz_orb (lz_1 (by omega))) hMb)
  simp only [Nat.mul_zero, Nat.zero_add] at h
  exact h.symm
variable {VW EW LW BW Va Ha : Nat → Int32} {fl : Int32} {VA : Nat → Nat} {HA : Nat → Option Nat} {r r' : Int32}
theorem lz_holds (hW : rl_st VW EW LW BW fl VA HA) (h : ∃ q, hs_tb HA (fun _ => false) (fun a => a) VA sm ot n fr to li q ∧ hc_r r (q = fl)) (h' : hc_r r' (hc_PO VA sm ot ∧ hh_T HA n (fun i => VA (fr i)) (fun i => VA (to i)) li)) : r = r' := by
  obtain ⟨q, h1, h2⟩ := h
  exact lz_hcr h2 h' (ag_holds hW.2.2.2.1.1 hW.2.2.2.2 h1)
theorem lz_next {x : Nat} (h : (HA x = none ∧ r = -1) ∨ ∃ z, HA x = some z ∧ r = nI z) (h' : (HA x = none ∧ r' = -1) ∨ ∃ z, HA x = some z ∧ r' = nI z) : r = r' := by
  rcases h with ⟨h1, h2⟩ | ⟨z, h1, h2⟩ <;> rcases h' with ⟨k1, k2⟩ | ⟨z', k1, k2⟩
  · rw [h2, k2]
  · rw [h1] at k1; cases k1
  · rw [h1] at k1; cases k1
  · rw [h1] at k1; cases k1; rw [h2, k2]
theorem lz_first {b b' : Nat} (h1 : 1 ≤ b) (h2 : HA b = none) (h3 : ∀ j, 1 ≤ j → j < b → HA j ≠ none) (h1' : 1 ≤ b') (h2' : HA b' = none) (h3' : ∀ j, 1 ≤ j → j < b' → HA j ≠ none) : b = b' := by
  rcases Nat.lt_trichotomy b b' with q | q | q
  · exact absurd h2 (h3' b h1 q)
  · exact q
  · exact absurd h2' (h3 b' h1' q)
theorem lz_z9 {y z : Nat} (hH : hr_h Va Ha VA HA) (h : HA y = some z) : z ≤ 9 := by
  have h9 := hH.2.2.1 y (by rw [h]; exact fun q => nomatch q)
  exact ((hH.2.2.2 y (by omega)).2 z h).1
end LZ
