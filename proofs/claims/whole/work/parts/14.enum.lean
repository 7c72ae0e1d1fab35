/-! The cases: which terms are equal, one after another. -/
/-- the greatest of the first k, 0 at least -/
def hc_mx (l : List Nat) : Nat → Nat
  | 0 => 0
  | k + 1 => max (hc_mx l k) (l.getD k 0)
/-- the reference's next grouping, from place k down -/
def hc_ng : Nat → List Nat → Option (List Nat)
  | 0, _ => none
  | k + 1, l => if l.getD (k + 1) 0 ≤ hc_mx l (k + 1) then some ((List.range 6).map (fun i => if i < k + 1 then l.getD i 0 else if i = k + 1 then l.getD i 0 + 1 else 0)) else hc_ng k l
/-- the class's next case: the named variables below t -/
def hc_av (M : Nat) : Nat → List Nat → Option (List Nat)
  | 0, _ => none
  | t + 1, l => if M.testBit t = true then (if l.getD t 0 ≤ hc_mx l t then some (l.set t (l.getD t 0 + 1)) else hc_av M t (l.set t 0)) else hc_av M t l
def hc_run (nx : List Nat → Option (List Nat)) : Nat → List Nat → List (List Nat)
  | 0, _ => []
  | n + 1, l => l :: (match nx l with | some l' => hc_run nx n l' | none => [])
def hc_ends (nx : List Nat → Option (List Nat)) : Nat → List Nat → Bool
  | 0, _ => false
  | n + 1, l => (match nx l with | some l' => hc_ends nx n l' | none => true)
def hc_all : List (List Nat) := hc_run (hc_ng 5) 203 [0, 0, 0, 0, 0, 0]
def hc_cas (M : Nat) : List (List Nat) := hc_run (hc_av M 5) 203 [0, 0, 0, 0, 0, 0]
/-- lists by growth: place after place an old value or the next new one; unnamed places hold 0 -/
def hc_gen (q : Nat → Bool) : Nat → List (List Nat × Nat)
  | 0 => [([], 0)]
  | k + 1 => (hc_gen q k).flatMap (fun x => if q k = true then (List.range (x.2 + 2)).map (fun y => (x.1 ++ [y], max x.2 y)) else [(x.1 ++ [0], x.2)])
set_option maxRecDepth 100000 in
theorem hc_all_ends : hc_ends (hc_ng 5) 203 [0, 0, 0, 0, 0, 0] = true := by decide +kernel
set_option maxRecDepth 100000 in
theorem hc_all_fit : ∀ l, l ∈ hc_all → l.length = 6 ∧ ∀ t, t < 6 → l.getD t 0 < 6 := by decide +kernel
set_option maxRecDepth 100000 in
theorem hc_cas_ends : ∀ M, M < 32 → hc_ends (hc_av M 5) 203 [0, 0, 0, 0, 0, 0] = true := by decide +kernel
set_option maxRecDepth 100000 in
theorem hc_cas_fit : ∀ M, M < 32 → ∀ l, l ∈ hc_cas M → l.length = 6 ∧ l.getD 5 0 = 0 ∧ ∀ t, t < 6 → l.getD t 0 < 6 := by decide +kernel
set_option maxRecDepth 100000 in
theorem hc_gen_all : ∀ x, x ∈ hc_gen (fun _ => true) 5 → (0 :: x.1) ∈ hc_all := by decide +kernel
set_option maxRecDepth 100000 in
theorem hc_gen_cas : ∀ M, M < 32 → ∀ x, x ∈ hc_gen (fun t => M.testBit t) 5 → (x.1 ++ [0]) ∈ hc_cas M := by decide +kernel
theorem hc_getD_app {l : List Nat} {k : Nat} (h : l.length = k) (y a : Nat) : (l ++ [y]).getD a 0 = if a < k then l.getD a 0 else if a = k then y else 0 := by
  rw [List.getD_eq_getElem?_getD, List.getD_eq_getElem?_getD]
  by_cases h1 : a < k
  · rw [if_pos h1, List.getElem?_append_left (by omega)]
  · rw [if_neg h1, List.getElem?_append_right (by omega)]
    by_cases h2 : a = k
    · rw [if_pos h2, h, h2, Nat.sub_self]; rfl
    · rw [if_neg h2, List.getElem?_eq_none (by simp only [List.length_cons, List.length_nil]; omega)]; rfl
theorem hc_gen_cov (q : Nat → Bool) (w : Nat → Nat) (b : Nat) : ∀ k : Nat, ∃ x, x ∈ hc_gen q k ∧ x.1.length = k ∧ (∀ a, a < k → x.1.getD a 0 ≤ x.2) ∧ (∀ a, a < k → q a = true → (w a = b ↔ x.1.getD a 0 = 0)) ∧
    ∀ a c, a < k → c < k → q a = true → q c = true → (w a = w c ↔ x.1.getD a 0 = x.1.getD c 0) := by
  intro k
  induction k with
  | zero => exact ⟨([], 0), List.mem_cons_self, rfl, fun a h => absurd h (Nat.not_lt_zero _), fun a h => absurd h (Nat.not_lt_zero _), fun a c h => absurd h (Nat.not_lt_zero _)⟩
  | succ k ih =>
    obtain ⟨x, h1, h2, h3, h4, h5⟩ := ih
    have hone : ∀ y z, y ≤ z → x.2 ≤ z → (x.1 ++ [y], z) ∈ hc_gen q (k + 1) → (q k = true → (w k = b ↔ y = 0)) → (∀ a, a < k → q a = true → q k = true → (w a = w k ↔ x.1.getD a 0 = y)) →
        ∃ x, x ∈ hc_gen q (k + 1) ∧ x.1.length = k + 1 ∧ (∀ a, a < k + 1 → x.1.getD a 0 ≤ x.2) ∧ (∀ a, a < k + 1 → q a = true → (w a = b ↔ x.1.getD a 0 = 0)) ∧
        ∀ a c, a < k + 1 → c < k + 1 → q a = true → q c = true → (w a = w c ↔ x.1.getD a 0 = x.1.getD c 0) := by
      intro y z hy hz hm hb hw
      have hg : ∀ a, a < k → (x.1 ++ [y]).getD a 0 = x.1.getD a 0 := fun a ha => by rw [hc_getD_app h2, if_pos ha]
      have hgk : (x.1 ++ [y]).getD k 0 = y := by rw [hc_getD_app h2, if_neg (Nat.lt_irrefl _), if_pos rfl]
      refine ⟨(x.1 ++ [y], z), hm, by simp only [List.length_append, List.length_cons, List.length_nil, h2], fun a ha => ?_, fun a ha hq => ?_, fun a c ha hc hqa hqc => ?_⟩
      · show (x.1 ++ [y]).getD a 0 ≤ z
        by_cases hak : a = k
        · rw [hak, hgk]; exact hy
        · rw [hg a (by omega)]; exact Nat.le_trans (h3 a (by omega)) hz
      · show w a = b ↔ (x.1 ++ [y]).getD a 0 = 0
        by_cases hak : a = k
        · rw [hak, hgk]; rw [hak] at hq; exact hb hq
        · rw [hg a (by omega)]; exact h4 a (by omega) hq
      · show w a = w c ↔ (x.1 ++ [y]).getD a 0 = (x.1 ++ [y]).getD c 0
        by_cases hak : a = k
        · by_cases hck : c = k
          · rw [hak, hck]; exact ⟨fun _ => rfl, fun _ => rfl⟩
          · rw [hak, hgk, hg c (by omega)]
            rw [hak] at hqa
            have h9 := hw c (by omega) hqc hqa
            exact ⟨fun e => (h9.mp e.symm).symm, fun e => (h9.mpr e.symm).symm⟩
        · by_cases hck : c = k
          · rw [hck, hgk, hg a (by omega)]
            rw [hck] at hqc
            exact hw a (by omega) hqa hqc
          · rw [hg a (by omega), hg c (by omega)]
            exact h5 a c (by omega) (by omega) hqa hqc
    by_cases hq : q k = true
    · have hmem : ∀ y, y < x.2 + 2 → (x.1 ++ [y], max x.2 y) ∈ hc_gen q (k + 1) := fun y hy => by
        show _ ∈ (hc_gen q k).flatMap _
        refine List.mem_flatMap.mpr ⟨x, h1, ?_⟩
        rw [if_pos hq]
        exact List.mem_map.mpr ⟨y, List.mem_range.mpr hy, rfl⟩
      by_cases hb : w k = b
      · exact hone 0 _ (Nat.zero_le _) (Nat.le_max_left _ _) (hmem 0 (by omega)) (fun _ => ⟨fun _ => rfl, fun _ => hb⟩) (fun a ha hqa _ => by rw [hb]; exact h4 a ha hqa)
      · by_cases hold : ∃ a, a < k ∧ q a = true ∧ w a = w k
        · obtain ⟨a, ha, hqa, hwa⟩ := hold
          refine hone (x.1.getD a 0) _ (Nat.le_max_right _ _) (Nat.le_max_left _ _) (hmem _ (by have := h3 a ha; omega)) (fun _ => by rw [← hwa]; exact h4 a ha hqa) (fun c hc hqc _ => by rw [← hwa]; exact h5 c a hc ha hqc hqa)
        · refine hone (x.2 + 1) _ (Nat.le_max_right _ _) (Nat.le_max_left _ _) (hmem _ (by omega)) (fun _ => ⟨fun e => absurd e hb, fun e => absurd e (by omega)⟩) (fun c hc hqc _ => ⟨fun e => absurd ⟨c, hc, hqc, e⟩ hold, fun e => ?_⟩)
          have := h3 c hc
          omega
    · refine hone 0 x.2 (Nat.zero_le _) (Nat.le_refl _) ?_ (fun h => absurd h hq) (fun a ha hqa h => absurd h hq)
      show _ ∈ (hc_gen q k).flatMap _
      refine List.mem_flatMap.mpr ⟨x, h1, ?_⟩
      rw [if_neg hq]
      exact List.mem_cons_self
theorem hc_cov_all (v : Nat → Nat) : ∃ l, l ∈ hc_all ∧ hc_kq (fun t => t < 6) v (fun t => l.getD t 0) := by
  obtain ⟨x, h1, h2, -, h4, h5⟩ := hc_gen_cov (fun _ => true) (fun t => v (t + 1)) (v 0) 5
  refine ⟨0 :: x.1, hc_gen_all x h1, fun a b ha hb => ?_⟩
  have ha : a < 6 := ha
  have hb : b < 6 := hb
  cases a with
  | zero =>
    cases b with
    | zero => exact ⟨fun _ => rfl, fun _ => rfl⟩
    | succ b =>
      have h9 := h4 b (by omega) rfl
      exact ⟨fun e => (h9.mp e.symm).symm, fun e => (h9.mpr (Eq.symm e)).symm⟩
  | succ a =>
    cases b with
    | zero => exact h4 a (by omega) rfl
    | succ b => exact h5 a b (by omega) (by omega) rfl rfl
theorem hc_cov_cas (M : Nat) (hM : M < 32) (v : Nat → Nat) : ∃ l, l ∈ hc_cas M ∧ hc_kq (fun t => (t < 5 ∧ M.testBit t = true) ∨ t = 5) v (fun t => l.getD t 0) := by
  obtain ⟨x, h1, h2, -, h4, h5⟩ := hc_gen_cov (fun t => M.testBit t) v (v 5) 5
  refine ⟨x.1 ++ [0], hc_gen_cas M hM x h1, fun a b ha hb => ?_⟩
  have hg : ∀ a, a < 5 → (x.1 ++ [0]).getD a 0 = x.1.getD a 0 := fun a ha => by rw [hc_getD_app h2, if_pos ha]
  have hg5 : (x.1 ++ [0]).getD 5 0 = 0 := by rw [hc_getD_app h2, if_neg (Nat.lt_irrefl _), if_pos rfl]
  show v a = v b ↔ (x.1 ++ [0]).getD a 0 = (x.1 ++ [0]).getD b 0
  rcases ha with ⟨ha1, ha2⟩ | ha
  · rcases hb with ⟨hb1, hb2⟩ | hb
    · rw [hg a ha1, hg b hb1]; exact h5 a b ha1 hb1 ha2 hb2
    · rw [hb, hg a ha1, hg5]; exact h4 a ha1 ha2
  · rcases hb with ⟨hb1, hb2⟩ | hb
    · rw [ha, hg b hb1, hg5]
      have h9 := h4 b hb1 hb2
      exact ⟨fun e => (h9.mp e.symm).symm, fun e => (h9.mpr (Eq.symm e)).symm⟩
    · rw [ha, hb]; exact ⟨fun _ => rfl, fun _ => rfl⟩
