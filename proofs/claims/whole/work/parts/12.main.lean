/-! The search over all ways against one look at the long stretches. -/
section LISTS
variable {S E : Nat → Nat} {I : Nat → Bool}
/-- places of the lists with cells among q .. q + k - 1 -/
def hc_ls (S E : Nat → Nat) (I : Nat → Bool) : Nat → Nat → List Nat
  | _, 0 => []
  | q, k + 1 => if I q = true ∧ S q ≠ E q then q :: hc_ls S E I (q + 1) k else hc_ls S E I (q + 1) k
theorem hc_ls_mem : ∀ (k q p : Nat), p ∈ hc_ls S E I q k ↔ q ≤ p ∧ p < q + k ∧ I p = true ∧ S p ≠ E p := by
  intro k
  induction k with
  | zero => intro q p; exact ⟨fun h => absurd h List.not_mem_nil, fun h => by omega⟩
  | succ k ih =>
    intro q p
    unfold hc_ls
    by_cases hq : I q = true ∧ S q ≠ E q
    · rw [if_pos hq, List.mem_cons, ih]
      constructor
      · rintro (h | ⟨h1, h2, h3⟩)
        · rw [h]; exact ⟨Nat.le_refl _, by omega, hq⟩
        · exact ⟨by omega, by omega, h3⟩
      · rintro ⟨h1, h2, h3⟩
        by_cases hpq : p = q
        · exact Or.inl hpq
        · exact Or.inr ⟨by omega, by omega, h3⟩
    · rw [if_neg hq, ih]
      constructor
      · rintro ⟨h1, h2, h3⟩
        exact ⟨by omega, by omega, h3⟩
      · rintro ⟨h1, h2, h3⟩
        have hpq : p ≠ q := fun h => hq (by rw [← h]; exact h3)
        exact ⟨by omega, by omega, h3⟩
theorem hc_ls_nodup : ∀ (k q : Nat), (hc_ls S E I q k).Nodup := by
  intro k
  induction k with
  | zero => intro q; exact List.nodup_nil
  | succ k ih =>
    intro q
    unfold hc_ls
    by_cases hq : I q = true ∧ S q ≠ E q
    · rw [if_pos hq]
      exact List.nodup_cons.mpr ⟨fun h => by have := ((hc_ls_mem k (q + 1) q).mp h).1; omega, ih (q + 1)⟩
    · rw [if_neg hq]; exact ih (q + 1)
theorem hc_ls_len : ∀ (k q : Nat), (hc_ls S E I q k).length ≤ k := by
  intro k
  induction k with
  | zero => intro q; exact Nat.le_refl _
  | succ k ih =>
    intro q
    unfold hc_ls
    by_cases hq : I q = true ∧ S q ≠ E q
    · rw [if_pos hq, List.length_cons]; have := ih (q + 1); omega
    · rw [if_neg hq]; have := ih (q + 1); omega
/-- CELL pieces have their cell from the start -/
def hc_as0 (S E : Nat → Nat) (I : Nat → Bool) : Nat → List (Nat × Nat × Bool)
  | 0 => []
  | p + 1 => if I p = false then (S p, E p, false) :: hc_as0 S E I p else hc_as0 S E I p
theorem hc_as0_mem : ∀ (m : Nat) (x : Nat × Nat × Bool), x ∈ hc_as0 S E I m ↔ ∃ p, p < m ∧ I p = false ∧ x = (S p, E p, false) := by
  intro m
  induction m with
  | zero => intro x; exact ⟨fun h => absurd h List.not_mem_nil, fun ⟨p, h, _⟩ => absurd h (Nat.not_lt_zero _)⟩
  | succ m ih =>
    intro x
    unfold hc_as0
    by_cases hm : I m = false
    · rw [if_pos hm, List.mem_cons, ih]
      constructor
      · rintro (h | ⟨p, h1, h2⟩)
        · exact ⟨m, Nat.lt_succ_self _, hm, h⟩
        · exact ⟨p, by omega, h2⟩
      · rintro ⟨p, h1, h2, h3⟩
        by_cases hpm : p = m
        · rw [hpm] at h3; exact Or.inl h3
        · exact Or.inr ⟨p, by omega, h2, h3⟩
    · rw [if_neg hm, ih]
      constructor
      · rintro ⟨p, h1, h2⟩; exact ⟨p, by omega, h2⟩
      · rintro ⟨p, h1, h2, h3⟩
        have hpm : p ≠ m := fun h => hm (by rw [← h]; exact h2)
        exact ⟨p, by omega, h2, h3⟩
def hc_rem (S E : Nat → Nat) (I : Nat → Bool) (q k : Nat) : List (Nat × Nat) := (hc_ls S E I q k).map (fun p => (S p, E p))
theorem hc_fin_app : ∀ (r1 r2 : List (Nat × Nat)) (as : List (Nat × Nat × Bool)), hc_fin (r1 ++ r2) as = hc_fin r2 (hc_fin r1 as) := by
  intro r1
  induction r1 with
  | nil => intro r2 as; rfl
  | cons r rs ih => intro r2 as; exact ih r2 _
theorem hc_nx_fin_out : ∀ (r2 : List (Nat × Nat)) (Y : List (Nat × Nat × Bool)) (g : Nat), (∀ r, r ∈ r2 → r.1 ≠ g) → hc_nx (hc_fin r2 Y) g = hc_nx Y g := by
  intro r2
  induction r2 with
  | nil => intro Y g _; rfl
  | cons r rs ih =>
    intro Y g h
    show hc_nx (hc_fin rs _) g = _
    rw [ih _ g (fun q hq => h q (List.mem_cons_of_mem _ hq)), hc_nx_cons, if_neg (h r List.mem_cons_self)]
theorem hc_nx_fin_in : ∀ (r2 : List (Nat × Nat)) (Y Y' : List (Nat × Nat × Bool)) (g : Nat), (∃ r, r ∈ r2 ∧ r.1 = g) → hc_nx (hc_fin r2 Y) g = hc_nx (hc_fin r2 Y') g := by
  intro r2
  induction r2 with
  | nil => intro Y Y' g ⟨r, h, _⟩; exact absurd h List.not_mem_nil
  | cons r rs ih =>
    intro Y Y' g ⟨q, hq, hg⟩
    show hc_nx (hc_fin rs _) g = hc_nx (hc_fin rs _) g
    by_cases h : ∃ r, r ∈ rs ∧ r.1 = g
    · exact ih _ _ g h
    · have h' : ∀ r, r ∈ rs → r.1 ≠ g := fun r hr hg => h ⟨r, hr, hg⟩
      rw [hc_nx_fin_out rs _ g h', hc_nx_fin_out rs _ g h']
      rcases List.mem_cons.mp hq with hq | hq
      · rw [hq] at hg
        rw [hc_nx_cons, hc_nx_cons, if_pos hg, if_pos hg]
      · exact absurd hg (h' q hq)
end LISTS
section MAIN
variable {nil m n : Nat} {S E S' E' : Nat → Nat} {I I' : Nat → Bool} {nxH : Nat → Option Nat} {lgH : Nat → Bool} {f : Nat → Bool} {fr : Nat → Prop} {L : List (Nat × Nat × Bool) → Prop}
/-- the longest state: no list runs through a free address -/
def hc_w0 (S E : Nat → Nat) (I : Nat → Bool) (m : Nat) : List (Nat × Nat × Bool) := hc_fin (hc_rem S E I 0 m) (hc_as0 S E I m)
theorem hc_w0_mem (x : Nat × Nat × Bool) : x ∈ hc_w0 S E I m ↔ ∃ p, p < m ∧ hc_N S E I p ∧ x = (S p, E p, I p) := by
  unfold hc_w0
  rw [hc_fin_mem, hc_as0_mem]
  constructor
  · rintro (⟨p, h1, h2, h3⟩ | ⟨r, h1, h2⟩)
    · exact ⟨p, h1, fun h => (by rw [h2] at h; cases h), by rw [h2]; exact h3⟩
    · obtain ⟨p, h3, h4⟩ := List.mem_map.mp h1
      obtain ⟨-, h5, h6, h7⟩ := (hc_ls_mem _ _ _).mp h3
      exact ⟨p, by omega, fun _ => h7, by rw [h2, ← h4, h6]⟩
  · rintro ⟨p, h1, h2, h3⟩
    cases hI : I p with
    | false => exact Or.inl ⟨p, h1, hI, by rw [h3, hI]⟩
    | true => exact Or.inr ⟨(S p, E p), List.mem_map.mpr ⟨p, (hc_ls_mem _ _ _).mpr ⟨Nat.zero_le _, by omega, hI, h2 hI⟩, rfl⟩, by rw [h3, hI]⟩
theorem hc_w0_fn (hB : hc_BG nil m S E I) : hc_fn (hc_w0 S E I m) := by
  intro x y hx hy hxy
  obtain ⟨p, h1, h2, h3⟩ := (hc_w0_mem x).mp hx
  obtain ⟨q, k1, k2, k3⟩ := (hc_w0_mem y).mp hy
  rw [h3, k3] at hxy
  have hpq := (hB q k1 k2).2 p h1 h2 hxy
  rw [h3, k3, hpq]
theorem hc_w0_H (hB : hc_BG nil m S E I) : hc_H (hc_nx (hc_w0 S E I m)) (hc_fa (hc_w0 S E I m)) m S E I := by
  refine ⟨fun p hp hN => ?_, fun g hg => ?_⟩
  · exact hc_nx_mem (hc_w0_fn hB) ((hc_w0_mem (S p, E p, I p)).mpr ⟨p, hp, hN, rfl⟩)
  · cases h : hc_nx (hc_w0 S E I m) g with
    | none => exact absurd h hg
    | some z =>
      obtain ⟨x, h1, h2, -, -⟩ := hc_nx_some _ _ _ h
      obtain ⟨p, k1, k2, k3⟩ := (hc_w0_mem x).mp h1
      exact ⟨p, k1, k2, by rw [← h2, k3]⟩
theorem hc_H_same {nx' : Nat → Option Nat} {lg' : Nat → Bool} (hH : hc_H nxH lgH m S E I) (hH' : hc_H nx' lg' m S E I) : (∀ g, nxH g = nx' g) ∧ ∀ g, nxH g ≠ none → lgH g = lg' g := by
  refine ⟨fun g => ?_, fun g hg => ?_⟩
  · by_cases h : nxH g = none
    · by_cases h' : nx' g = none
      · rw [h, h']
      · obtain ⟨p, h1, h2, h3⟩ := hH'.2 g h'
        rw [← h3, (hH.1 p h1 h2).1] at h
        cases h
    · obtain ⟨p, h1, h2, h3⟩ := hH.2 g h
      rw [← h3, (hH.1 p h1 h2).1, (hH'.1 p h1 h2).1]
  · obtain ⟨p, h1, h2, h3⟩ := hH.2 g hg
    rw [← h3, (hH.1 p h1 h2).2, (hH'.1 p h1 h2).2]
theorem hc_CT_congr {nx' : Nat → Option Nat} {lg' : Nat → Bool} {c : Nat → List Nat} (h1 : ∀ g, nxH g = nx' g) (h2 : ∀ g, nxH g ≠ none → lgH g = lg' g) (h : hc_CT nxH lgH nil n S' E' I' c) : hc_CT nx' lg' nil n S' E' I' c := by
  have hnx : nxH = nx' := funext h1
  subst hnx
  refine ⟨fun i hi => ?_, h.2⟩
  obtain ⟨⟨a1, a2⟩, a3⟩ := h.1 i hi
  refine ⟨⟨a1, fun hI => ?_⟩, fun hI hlo a ha hlg => a3 hI hlo a ha (by rw [h2 a (hc_pp_cell ⟨a1, a2⟩ ha)]; exact hlg)⟩
  obtain ⟨b1, b2, b3⟩ := a2 hI
  exact ⟨b1, b2, by rw [← h2 _ (by rw [b2]; exact fun q => nomatch q)]; exact b3⟩
/-- how the search begins -/
theorem hc_J0 (hB : hc_BG nil m S E I) : hc_J m S E I fr ((hc_ls S E I 0 m).map (fun p => (p, S p))) (hc_as0 S E I m) (fun a => if hc_nx (hc_as0 S E I m) a = none then [] else [a]) := by
  have hfn : hc_fn (hc_as0 S E I m) := by
    intro x y hx hy hxy
    obtain ⟨p, h1, h2, h3⟩ := (hc_as0_mem _ x).mp hx
    obtain ⟨q, k1, k2, k3⟩ := (hc_as0_mem _ y).mp hy
    rw [h3, k3] at hxy
    have hpq := (hB q k1 (fun h => (by rw [k2] at h; cases h))).2 p h1 (fun h => (by rw [h2] at h; cases h)) hxy
    rw [h3, k3, hpq]
  have hkey : ∀ g, hc_nx (hc_as0 S E I m) g ≠ none → ∃ p, p < m ∧ I p = false ∧ S p = g := fun g hg => by
    cases h : hc_nx (hc_as0 S E I m) g with
    | none => exact absurd h hg
    | some z =>
      obtain ⟨x, h1, h2, -, -⟩ := hc_nx_some _ _ _ h
      obtain ⟨p, k1, k2, k3⟩ := (hc_as0_mem _ x).mp h1
      exact ⟨p, k1, k2, by rw [← h2, k3]⟩
  have hli : ∀ p, p < m → hc_N S E I p → I p = true → hc_nx (hc_as0 S E I m) (S p) = none := by
    intro p hp hN hI
    by_cases h : hc_nx (hc_as0 S E I m) (S p) = none
    · exact h
    · obtain ⟨q, h1, h2, h3⟩ := hkey _ h
      have hqp := (hB p hp hN).2 q h1 (fun h => (by rw [h2] at h; cases h)) h3
      rw [hqp, hI] at h2
      cases h2
  refine ⟨?_, ?_, ?_, ?_, ?_, ?_, ?_⟩
  · rw [List.map_map]
    show ((hc_ls S E I 0 m).map (fun p => p)).Nodup
    rw [List.map_id']
    exact hc_ls_nodup m 0
  · intro y hy
    obtain ⟨p, h1, h2⟩ := List.mem_map.mp hy
    obtain ⟨-, h3, h4, h5⟩ := (hc_ls_mem _ _ _).mp h1
    rw [← h2]
    have hn := hli p (by omega) (fun _ => h5) h4
    refine ⟨by show p < m; omega, fun _ => h5, h4, ?_, h5, hn, Or.inl rfl⟩
    show hc_PP _ _ (S p) (if hc_nx (hc_as0 S E I m) (S p) = none then [] else [S p]) (S p)
    rw [if_pos hn]
    rfl
  · intro y hy
    obtain ⟨p, h1, h2⟩ := List.mem_map.mp (List.mem_of_mem_tail hy)
    rw [← h2]
  · intro p hp hN hpn
    have hI : I p = false := by
      cases hI : I p with
      | false => rfl
      | true => exact absurd (List.mem_map.mpr ⟨(p, S p), List.mem_map.mpr ⟨p, (hc_ls_mem _ _ _).mpr ⟨Nat.zero_le _, by omega, hI, hN hI⟩, rfl⟩, rfl⟩) hpn
    obtain ⟨a1, a2⟩ := hc_nx_mem hfn ((hc_as0_mem m (S p, E p, false)).mpr ⟨p, hp, hI, rfl⟩)
    refine ⟨fun h => (by rw [hI] at h; cases h), fun _ => ⟨?_, a1, a2⟩⟩
    show (if hc_nx (hc_as0 S E I m) (S p) = none then [] else [S p]) = [S p]
    rw [if_neg (by show ¬ hc_nx _ (S p, E p, false).1 = none; rw [a1]; exact fun q => nomatch q)]
  · intro p hp hN a ha
    by_cases h : hc_nx (hc_as0 S E I m) (S p) = none
    · simp only [h, if_true] at ha
      exact absurd ha List.not_mem_nil
    · simp only [h, if_false] at ha
      rw [List.mem_singleton.mp ha]
      exact ⟨Or.inl rfl, h⟩
  · intro p q x hp hq hN hNq h1 h2
    have hx : ∀ s : Nat, x ∈ (if hc_nx (hc_as0 S E I m) s = none then [] else [s]) → x = s := fun s h => by
      by_cases h9 : hc_nx (hc_as0 S E I m) s = none
      · rw [if_pos h9] at h; exact absurd h List.not_mem_nil
      · rw [if_neg h9] at h; exact List.mem_singleton.mp h
    exact (hx _ h1).symm.trans (hx _ h2)
  · intro g hg
    obtain ⟨p, h1, h2, h3⟩ := hkey g hg
    refine ⟨p, h1, fun h => (by rw [h2] at h; cases h), ?_⟩
    rw [h3]
    show g ∈ (if hc_nx (hc_as0 S E I m) g = none then [] else [g])
    rw [if_neg hg]
    exact List.mem_cons_self
theorem hc_leaf0 (hB : hc_BG nil m S E I) (hfr : ∀ a, fr a → ∀ p, p < m → hc_N S E I p → S p ≠ a) {k : Nat} (h : hc_Ex fr L k (hc_rem S E I 0 m) (hc_as0 S E I m)) : ∃ as' ch', L as' ∧ hc_Lf m S E I fr (hc_nx as') (hc_fa as') ch' := by
  refine hc_leaf hB hfr k ((hc_ls S E I 0 m).map (fun p => (p, S p))) (hc_as0 S E I m) _ (hc_J0 hB) ?_
  rw [List.map_map]
  exact h
theorem hc_Ex_w0 {k : Nat} (hk : m ≤ k) (h : L (hc_w0 S E I m)) : hc_Ex fr L k (hc_rem S E I 0 m) (hc_as0 S E I m) :=
  hc_Ex_fin _ k _ (by unfold hc_rem; rw [List.length_map]; exact Nat.le_trans (hc_ls_len m 0) hk) h
/-- a question that the way doesn't matter to -/
theorem hc_Ex_const (hB : hc_BG nil m S E I) (hfr : ∀ a, fr a → ∀ p, p < m → hc_N S E I p → S p ≠ a) {k : Nat} (hk : m ≤ k) {c : Prop} : hc_Ex fr (fun _ => c) k (hc_rem S E I 0 m) (hc_as0 S E I m) ↔ c := by
  refine ⟨fun h => ?_, fun h => hc_Ex_w0 hk h⟩
  obtain ⟨_, _, h, _⟩ := hc_leaf0 hB hfr h
  exact h
theorem hc_Ex_filled (hB : hc_BG nil m S E I) (hfr : ∀ a, fr a → ∀ p, p < m → hc_N S E I p → S p ≠ a) {k : Nat} (hk : m ≤ k) {x : Nat} :
    hc_Ex fr (fun as => hc_nx as x = none) k (hc_rem S E I 0 m) (hc_as0 S E I m) ↔ ∀ p, p < m → hc_N S E I p → S p ≠ x := by
  refine ⟨fun h p hp hN hSx => ?_, fun h => hc_Ex_w0 hk ?_⟩
  · obtain ⟨as', ch', h1, h2⟩ := hc_leaf0 hB hfr h
    have h3 := (h2.1 p hp hN).1
    rw [← hSx] at h1
    cases hI : I p with
    | false => rw [(h3.2 hI).2.1] at h1; cases h1
    | true => exact (hc_P_ne _ _ (h3.1 hI) (S p) (hc_P_head (h3.1 hI) (hN hI))).2 h1
  · by_cases h9 : hc_nx (hc_w0 S E I m) x = none
    · exact h9
    · obtain ⟨p, h1, h2, h3⟩ := (hc_w0_H hB).2 x h9
      exact absurd h3 (h p h1 h2)
theorem hc_main (hB : hc_BG nil m S E I) (hH : hc_H nxH lgH m S E I) (gr : Nat → Prop) (hgr : ∀ i, i < n → gr (E' i)) (PO : Prop) {k : Nat} (hk : m + 1 ≤ k) :
    (¬ hc_Ex (fun g => gr g ∧ g ≠ nil ∧ ∀ p, p < m → hc_N S E I p → S p ≠ g) (fun as => ¬ (PO ∧ hc_TR (hc_nx as) (hc_fa as) n S' E' I' m f S E I)) k (hc_rem S E I 0 m) (hc_as0 S E I m)) ↔
      PO ∧ ∃ c, hc_CT nxH lgH nil n S' E' I' c ∧ ∀ p, p < m → hc_N S E I p → (f p = true ↔ ∀ i, i < n → S p ∉ c i) := by
  have hH0 := hc_w0_H hB
  obtain ⟨hs1, hs2⟩ := hc_H_same hH0 hH
  constructor
  · intro h
    have h0 : PO ∧ hc_TR (hc_nx (hc_w0 S E I m)) (hc_fa (hc_w0 S E I m)) n S' E' I' m f S E I := by
      by_cases h9 : PO ∧ hc_TR (hc_nx (hc_w0 S E I m)) (hc_fa (hc_w0 S E I m)) n S' E' I' m f S E I
      · exact h9
      · exact absurd (hc_Ex_w0 (by omega) h9) h
    refine ⟨h0.1, ?_⟩
    obtain ⟨c, hC, hf⟩ := hc_need hB hH0 h0.2 (by
      intro p i hp hN hI hi hI' hne hnil hnone
      have hpl : p ∈ hc_ls S E I 0 m := (hc_ls_mem _ _ _).mpr ⟨Nat.zero_le _, by omega, hI, hN hI⟩
      obtain ⟨l1, l2, hl⟩ := List.append_of_mem hpl
      have hrem : hc_rem S E I 0 m = l1.map (fun p => (S p, E p)) ++ (S p, E p) :: l2.map (fun p => (S p, E p)) := by
        unfold hc_rem; rw [hl, List.map_append, List.map_cons]
      have hnd := hc_ls_nodup (S := S) (E := E) (I := I) m 0
      rw [hl] at hnd
      have hl2 : ∀ q, q ∈ l2 → q ≠ p := fun q hq hqp => by
        have h1 := (List.nodup_cons.mp (List.nodup_append.mp hnd).2.1).1
        rw [hqp] at hq
        exact h1 hq
      have hlm : ∀ q, q ∈ l2 → q < m ∧ hc_N S E I q := fun q hq => by
        have h1 : q ∈ hc_ls S E I 0 m := by rw [hl]; exact List.mem_append.mpr (Or.inr (List.mem_cons_of_mem _ hq))
        obtain ⟨-, h2, -, h3⟩ := (hc_ls_mem _ _ _).mp h1
        exact ⟨by omega, fun _ => h3⟩
      have hw0 : hc_w0 S E I m = hc_fin (l2.map (fun p => (S p, E p))) ((S p, E p, true) :: hc_fin (l1.map (fun p => (S p, E p))) (hc_as0 S E I m)) := by
        unfold hc_w0; rw [hrem, hc_fin_app]; rfl
      have hno : ∀ x, x ∈ hc_w0 S E I m → x.1 ≠ E' i := fun x hx q => by
        have h1 := (hc_nx_mem (hc_w0_fn hB) hx).1
        rw [q, hnone] at h1
        cases h1
      have hX : hc_nx (hc_fin (l1.map (fun p => (S p, E p))) (hc_as0 S E I m)) (E' i) = none := by
        cases h9 : hc_nx (hc_fin (l1.map (fun p => (S p, E p))) (hc_as0 S E I m)) (E' i) with
        | none => rfl
        | some z =>
          obtain ⟨x, h1, h2, -, -⟩ := hc_nx_some _ _ _ h9
          exact absurd h2 (hno x (by rw [hw0, hc_fin_mem]; exact Or.inl (List.mem_cons_of_mem _ h1)))
      have hea : E' i ≠ S p := fun q => hno (S p, E p, I p) ((hc_w0_mem _).mpr ⟨p, hp, hN, rfl⟩) q.symm
      have hfre : gr (E' i) ∧ E' i ≠ nil ∧ ∀ p, p < m → hc_N S E I p → S p ≠ E' i := ⟨hgr i hi, hnil, fun q hq hNq h1 => hno (S q, E q, I q) ((hc_w0_mem _).mpr ⟨q, hq, hNq, rfl⟩) h1⟩
      generalize hZ : hc_fin (l2.map (fun p => (S p, E p))) ((E' i, E p, true) :: (S p, E' i, true) :: hc_fin (l1.map (fun p => (S p, E p))) (hc_as0 S E I m)) = Z
      have hTR : PO ∧ hc_TR (hc_nx Z) (hc_fa Z) n S' E' I' m f S E I := by
        by_cases h9 : PO ∧ hc_TR (hc_nx Z) (hc_fa Z) n S' E' I' m f S E I
        · exact h9
        · refine absurd ?_ h
          rw [hrem]
          refine hc_Ex_via (fr := fun g => gr g ∧ g ≠ nil ∧ ∀ p, p < m → hc_N S E I p → S p ≠ g) hfre hne hea _ k _ ?_ hX ?_
          · rw [← hrem]
            unfold hc_rem
            rw [List.length_map]
            have := hc_ls_len (S := S) (E := E) (I := I) m 0
            omega
          · rw [hZ]; exact h9
      refine ⟨hc_fa Z, ?_⟩
      have hnxZ : hc_nx Z = hc_we (hc_nx (hc_w0 S E I m)) (S p) (E' i) (E p) := by
        funext g
        unfold hc_we
        rw [← hZ]
        by_cases hg : ∃ r, r ∈ l2.map (fun p => (S p, E p)) ∧ r.1 = g
        · have hg1 : g ≠ S p := fun q => by
            obtain ⟨r, h1, h2⟩ := hg
            obtain ⟨x, h3, h4⟩ := List.mem_map.mp h1
            have h5 : S x = S p := by rw [← q, ← h2, ← h4]
            exact hl2 x h3 ((hB p hp hN).2 x (hlm x h3).1 (hlm x h3).2 h5)
          have hg2 : g ≠ E' i := fun q => by
            obtain ⟨r, h1, h2⟩ := hg
            refine hno (r.1, r.2, true) (by rw [hw0, hc_fin_mem]; exact Or.inr ⟨r, h1, rfl⟩) ?_
            rw [← q]; exact h2
          rw [if_neg hg1, if_neg hg2, hw0]
          exact hc_nx_fin_in _ _ _ g hg
        · have hg' : ∀ r, r ∈ l2.map (fun p => (S p, E p)) → r.1 ≠ g := fun r h1 h2 => hg ⟨r, h1, h2⟩
          rw [hw0, hc_nx_fin_out _ _ g hg', hc_nx_fin_out _ _ g hg', hc_nx_cons, hc_nx_cons, hc_nx_cons]
          show (if E' i = g then some (E p) else if S p = g then some (E' i) else _) = _
          by_cases h1 : E' i = g
          · rw [if_pos h1, if_neg (fun q => hea (h1.trans q)), if_pos h1.symm]
          · rw [if_neg h1]
            by_cases h2 : S p = g
            · rw [if_pos h2, if_pos h2.symm]
            · rw [if_neg h2, if_neg (fun q => h2 q.symm), if_neg (fun q => h1 q.symm)]
              show _ = (if S p = g then _ else _)
              rw [if_neg h2]
      rw [← hnxZ]
      exact hTR.2)
    exact ⟨c, hc_CT_congr hs1 hs2 hC, hf⟩
  · rintro ⟨hPO, c, hC, hf⟩ hEx
    obtain ⟨as', ch', h1, h2⟩ := hc_leaf0 hB (fun a ha => ha.2.2) hEx
    refine h1 ⟨hPO, hc_sound hB hH h2 (fun a ha => ⟨ha.2.1, ?_⟩) hC hf⟩
    by_cases h9 : nxH a = none
    · exact h9
    · obtain ⟨p, k1, k2, k3⟩ := hH.2 a h9
      exact absurd k3 (ha.2.2 p k1 k2)
end MAIN
