/-! The ways in which lists can run through free addresses: the reference's search as a proposition. -/
def hc_nx : List (Nat × Nat × Bool) → Nat → Option Nat
  | [], _ => none
  | x :: l, g => if x.1 = g then some x.2.1 else hc_nx l g
def hc_fa : List (Nat × Nat × Bool) → Nat → Bool
  | [], _ => false
  | x :: l, g => if x.1 = g then x.2.2 else hc_fa l g
theorem hc_nx_none : ∀ (as : List (Nat × Nat × Bool)) (g : Nat), hc_nx as g = none → ∀ x, x ∈ as → x.1 ≠ g := by
  intro as
  induction as with
  | nil => intro g _ x hx; exact absurd hx List.not_mem_nil
  | cons y l ih =>
    intro g h x hx
    unfold hc_nx at h
    by_cases hy : y.1 = g
    · rw [if_pos hy] at h; cases h
    · rw [if_neg hy] at h
      rcases List.mem_cons.mp hx with hx | hx
      · rw [hx]; exact hy
      · exact ih g h x hx
theorem hc_nx_some : ∀ (as : List (Nat × Nat × Bool)) (g z : Nat), hc_nx as g = some z → ∃ x, x ∈ as ∧ x.1 = g ∧ x.2.1 = z ∧ hc_fa as g = x.2.2 := by
  intro as
  induction as with
  | nil => intro g z h; cases h
  | cons y l ih =>
    intro g z h
    unfold hc_nx at h
    by_cases hy : y.1 = g
    · rw [if_pos hy] at h
      injection h with h
      exact ⟨y, List.mem_cons_self, hy, h, by unfold hc_fa; rw [if_pos hy]⟩
    · rw [if_neg hy] at h
      obtain ⟨x, q1, q2, q3, q4⟩ := ih g z h
      exact ⟨x, List.mem_cons_of_mem _ q1, q2, q3, by unfold hc_fa; rw [if_neg hy]; exact q4⟩
/-- an address has one entry -/
def hc_fn (as : List (Nat × Nat × Bool)) : Prop := ∀ x y, x ∈ as → y ∈ as → x.1 = y.1 → x = y
theorem hc_nx_mem {as : List (Nat × Nat × Bool)} (hf : hc_fn as) {x : Nat × Nat × Bool} (hx : x ∈ as) : hc_nx as x.1 = some x.2.1 ∧ hc_fa as x.1 = x.2.2 := by
  cases h : hc_nx as x.1 with
  | none => exact absurd rfl (hc_nx_none as _ h x hx)
  | some z =>
    obtain ⟨y, q1, q2, q3, q4⟩ := hc_nx_some as _ _ h
    have h1 := hf y x q1 hx q2
    rw [h1] at q3 q4
    exact ⟨by rw [q3], q4⟩
theorem hc_nx_cons (x : Nat × Nat × Bool) (as : List (Nat × Nat × Bool)) (g : Nat) : hc_nx (x :: as) g = if x.1 = g then some x.2.1 else hc_nx as g := rfl
theorem hc_fa_cons (x : Nat × Nat × Bool) (as : List (Nat × Nat × Bool)) (g : Nat) : hc_fa (x :: as) g = if x.1 = g then x.2.2 else hc_fa as g := rfl
/-- some way from here: rem has the addresses whose next is still open, each with its list's end -/
def hc_Ex (fr : Nat → Prop) (L : List (Nat × Nat × Bool) → Prop) : Nat → List (Nat × Nat) → List (Nat × Nat × Bool) → Prop
  | 0, rem, as => rem = [] ∧ L as
  | _ + 1, [], as => L as
  | k + 1, r :: rs, as => ∃ b : Bool, hc_Ex fr L k rs ((r.1, r.2, b) :: as) ∨ ∃ g, fr g ∧ g ≠ r.2 ∧ g ≠ r.1 ∧ hc_nx as g = none ∧ hc_Ex fr L k ((g, r.2) :: rs) ((r.1, g, b) :: as)
theorem hc_Ex_nil {fr : Nat → Prop} {L : List (Nat × Nat × Bool) → Prop} {k : Nat} {as : List (Nat × Nat × Bool)} : hc_Ex fr L k [] as ↔ L as := by
  cases k with
  | zero => exact ⟨fun h => h.2, fun h => ⟨rfl, h⟩⟩
  | succ k => exact Iff.rfl
theorem hc_Ex_cons {fr : Nat → Prop} {L : List (Nat × Nat × Bool) → Prop} {k : Nat} {r : Nat × Nat} {rs : List (Nat × Nat)} {as : List (Nat × Nat × Bool)} :
    hc_Ex fr L (k + 1) (r :: rs) as ↔ ∃ b : Bool, hc_Ex fr L k rs ((r.1, r.2, b) :: as) ∨ ∃ g, fr g ∧ g ≠ r.2 ∧ g ≠ r.1 ∧ hc_nx as g = none ∧ hc_Ex fr L k ((g, r.2) :: rs) ((r.1, g, b) :: as) := Iff.rfl
theorem hc_PP_mono {nx nx' : Nat → Option Nat} {e x : Nat} (h : ∀ a, nx a ≠ none → nx' a = nx a) : ∀ (l : List Nat) (g : Nat), hc_PP nx e x l g → hc_PP nx' e x l g := by
  intro l
  induction l with
  | nil => intro g hp; exact hp
  | cons a l ih =>
    intro g hp
    obtain ⟨h1, h2, y, hy, hq⟩ := hp
    exact ⟨h1, h2, y, by rw [h g (by rw [hy]; exact fun q => nomatch q)]; exact hy, ih y hq⟩
theorem hc_PP_app {nx : Nat → Option Nat} {e x z : Nat} (hx : x ≠ e) (hz : nx x = some z) : ∀ (l : List Nat) (g : Nat), hc_PP nx e x l g → hc_PP nx e z (l ++ [x]) g := by
  intro l
  induction l with
  | nil => intro g hp; exact ⟨hp.symm, by rw [show g = x from hp]; exact hx, z, by rw [show g = x from hp]; exact hz, rfl⟩
  | cons a l ih =>
    intro g hp
    obtain ⟨h1, h2, y, hy, hq⟩ := hp
    exact ⟨h1, h2, y, hy, ih y hq⟩
section WAYS
variable {nil m : Nat} {S E : Nat → Nat} {I : Nat → Bool} {fr : Nat → Prop} {L : List (Nat × Nat × Bool) → Prop}
/-- how far the lists have come: pend has piece and address of the open ones, ch the addresses that each stretch has so far -/
def hc_J (m : Nat) (S E : Nat → Nat) (I : Nat → Bool) (fr : Nat → Prop) (pend : List (Nat × Nat)) (as : List (Nat × Nat × Bool)) (ch : Nat → List Nat) : Prop :=
  (pend.map (fun y => y.1)).Nodup ∧
  (∀ y, y ∈ pend → y.1 < m ∧ hc_N S E I y.1 ∧ I y.1 = true ∧ hc_PP (hc_nx as) (E y.1) y.2 (ch (S y.1)) (S y.1) ∧ y.2 ≠ E y.1 ∧ hc_nx as y.2 = none ∧ (y.2 = S y.1 ∨ fr y.2)) ∧
  (∀ y, y ∈ pend.tail → y.2 = S y.1) ∧
  (∀ p, p < m → hc_N S E I p → p ∉ pend.map (fun y => y.1) → hc_pp (hc_nx as) (hc_fa as) (S p) (E p) (I p) (ch (S p))) ∧
  (∀ p, p < m → hc_N S E I p → ∀ a, a ∈ ch (S p) → (a = S p ∨ fr a) ∧ hc_nx as a ≠ none) ∧
  (∀ p q x, p < m → q < m → hc_N S E I p → hc_N S E I q → x ∈ ch (S p) → x ∈ ch (S q) → S p = S q) ∧
  ∀ g, hc_nx as g ≠ none → ∃ p, p < m ∧ hc_N S E I p ∧ g ∈ ch (S p)
/-- the head's address gets its next z -/
theorem hc_J_step (hB : hc_BG nil m S E I) (hfr : ∀ a, fr a → ∀ p, p < m → hc_N S E I p → S p ≠ a) {y : Nat × Nat} {ys : List (Nat × Nat)} {as : List (Nat × Nat × Bool)} {ch : Nat → List Nat} (hJ : hc_J m S E I fr (y :: ys) as ch) (z : Nat) (b : Bool)
    (pend : List (Nat × Nat)) (hpend : (z = E y.1 ∧ pend = ys) ∨ (pend = (y.1, z) :: ys ∧ fr z ∧ z ≠ E y.1 ∧ z ≠ y.2 ∧ hc_nx as z = none)) :
    hc_J m S E I fr pend ((y.2, z, b) :: as) (fun a => if a = S y.1 then ch (S y.1) ++ [y.2] else ch a) := by
  obtain ⟨j1, j2, j3, j4, j5, j6, j7⟩ := hJ
  obtain ⟨hym, hyN, hyI, hyP, hyE, hyn, hyf⟩ := j2 y List.mem_cons_self
  have hmono : ∀ a, hc_nx as a ≠ none → hc_nx ((y.2, z, b) :: as) a = hc_nx as a := fun a ha => by
    rw [hc_nx_cons, if_neg (fun q => ha (by rw [← q]; exact hyn))]
  have hnew : hc_nx ((y.2, z, b) :: as) y.2 = some z := by rw [hc_nx_cons, if_pos rfl]
  have hxS : ∀ p, p < m → hc_N S E I p → ∀ a, a ∈ ch (S p) → a ≠ y.2 := fun p hp hN a ha q => (j5 p hp hN a ha).2 (by rw [q]; exact hyn)
  have hSi : ∀ p, p < m → hc_N S E I p → S p = S y.1 → p = y.1 := fun p hp hN h => (hB y.1 hym hyN).2 p hp hN h
  have hPz : hc_PP (hc_nx ((y.2, z, b) :: as)) (E y.1) z (ch (S y.1) ++ [y.2]) (S y.1) := hc_PP_app hyE hnew _ _ (hc_PP_mono hmono _ _ hyP)
  have j1c := List.nodup_cons.mp (show (y.1 :: ys.map (fun y => y.1)).Nodup from j1)
  have hys : ∀ w, w ∈ ys → w.1 ≠ y.1 := fun w hw q => j1c.1 (by rw [← q]; exact List.mem_map.mpr ⟨w, hw, rfl⟩)
  have hold : ∀ w, w ∈ ys → w.1 < m ∧ hc_N S E I w.1 ∧ I w.1 = true ∧ hc_PP (hc_nx ((y.2, z, b) :: as)) (E w.1) w.2 (if S w.1 = S y.1 then ch (S y.1) ++ [y.2] else ch (S w.1)) (S w.1) ∧ w.2 ≠ E w.1 ∧ hc_nx ((y.2, z, b) :: as) w.2 = none ∧ (w.2 = S w.1 ∨ fr w.2) := by
    intro w hw
    obtain ⟨a1, a2, a3, a4, a5, a6, a7⟩ := j2 w (List.mem_cons_of_mem _ hw)
    have hne : S w.1 ≠ S y.1 := fun q => hys w hw (hSi w.1 a1 a2 q)
    refine ⟨a1, a2, a3, by rw [if_neg hne]; exact hc_PP_mono hmono _ _ a4, a5, ?_, a7⟩
    rw [hc_nx_cons, if_neg]
    · exact a6
    · intro q
      have hw2 : w.2 = S w.1 := j3 w hw
      have q' : y.2 = S w.1 := by rw [← hw2]; exact q
      rcases hyf with h | h
      · exact hne (q'.symm.trans h)
      · exact hfr _ h w.1 a1 a2 q'.symm
  have hdone : ∀ p, p < m → hc_N S E I p → p ≠ y.1 → p ∉ ys.map (fun y => y.1) → hc_pp (hc_nx ((y.2, z, b) :: as)) (hc_fa ((y.2, z, b) :: as)) (S p) (E p) (I p) (if S p = S y.1 then ch (S y.1) ++ [y.2] else ch (S p)) := by
    intro p hp hN hpy hpn
    have hne : S p ≠ S y.1 := fun q => hpy (hSi p hp hN q)
    rw [if_neg hne]
    have h1 := j4 p hp hN (fun q => by
      rcases List.mem_cons.mp (show p ∈ y.1 :: ys.map (fun y => y.1) from q) with q | q
      · exact hpy q
      · exact hpn q)
    refine ⟨fun hI => hc_PP_mono hmono _ _ (h1.1 hI), fun hI => ?_⟩
    obtain ⟨a1, a2, a3⟩ := h1.2 hI
    refine ⟨a1, by rw [hmono _ (by rw [a2]; exact fun q => nomatch q)]; exact a2, ?_⟩
    rw [hc_fa_cons, if_neg]
    · exact a3
    · exact fun q => hxS p hp hN (S p) (by rw [a1]; exact List.mem_cons_self) q.symm
  have h5 : ∀ p, p < m → hc_N S E I p → ∀ a, a ∈ (if S p = S y.1 then ch (S y.1) ++ [y.2] else ch (S p)) → (a = S p ∨ fr a) ∧ hc_nx ((y.2, z, b) :: as) a ≠ none := by
    intro p hp hN a ha
    have hk : ∀ q, q < m → hc_N S E I q → a ∈ ch (S q) → hc_nx ((y.2, z, b) :: as) a ≠ none := fun q hq hNq h => by rw [hmono _ (j5 q hq hNq a h).2]; exact (j5 q hq hNq a h).2
    by_cases hS : S p = S y.1
    · rw [if_pos hS] at ha
      rcases List.mem_append.mp ha with ha | ha
      · refine ⟨?_, hk y.1 hym hyN ha⟩
        rw [hS]
        exact (j5 y.1 hym hyN a ha).1
      · rw [List.mem_singleton.mp ha]
        refine ⟨by rw [hS]; exact hyf, by rw [hnew]; exact fun q => nomatch q⟩
    · rw [if_neg hS] at ha
      exact ⟨(j5 p hp hN a ha).1, hk p hp hN ha⟩
  have hsub : ∀ p, p < m → hc_N S E I p → ∀ a, a ∈ (if S p = S y.1 then ch (S y.1) ++ [y.2] else ch (S p)) → a ∈ ch (S p) ∨ (a = y.2 ∧ S p = S y.1) := by
    intro p hp hN a ha
    by_cases hS : S p = S y.1
    · rw [if_pos hS] at ha
      rcases List.mem_append.mp ha with ha | ha
      · exact Or.inl (by rw [hS]; exact ha)
      · exact Or.inr ⟨List.mem_singleton.mp ha, hS⟩
    · rw [if_neg hS] at ha
      exact Or.inl ha
  have h6 : ∀ p q x, p < m → q < m → hc_N S E I p → hc_N S E I q → x ∈ (if S p = S y.1 then ch (S y.1) ++ [y.2] else ch (S p)) → x ∈ (if S q = S y.1 then ch (S y.1) ++ [y.2] else ch (S q)) → S p = S q := by
    intro p q x hp hq hN hNq h1 h2
    rcases hsub p hp hN x h1 with a1 | ⟨a1, a2⟩
    · rcases hsub q hq hNq x h2 with b1 | ⟨b1, b2⟩
      · exact j6 p q x hp hq hN hNq a1 b1
      · exact absurd b1 (hxS p hp hN x a1)
    · rcases hsub q hq hNq x h2 with b1 | ⟨b1, b2⟩
      · exact absurd a1 (hxS q hq hNq x b1)
      · exact a2.trans b2.symm
  have h7 : ∀ g, hc_nx ((y.2, z, b) :: as) g ≠ none → ∃ p, p < m ∧ hc_N S E I p ∧ g ∈ (if S p = S y.1 then ch (S y.1) ++ [y.2] else ch (S p)) := by
    intro g hg
    by_cases hgy : y.2 = g
    · exact ⟨y.1, hym, hyN, by rw [if_pos rfl, ← hgy]; exact List.mem_append.mpr (Or.inr List.mem_cons_self)⟩
    · rw [hc_nx_cons, if_neg hgy] at hg
      obtain ⟨p, a1, a2, a3⟩ := j7 g hg
      refine ⟨p, a1, a2, ?_⟩
      by_cases hS : S p = S y.1
      · rw [if_pos hS]
        rw [hS] at a3
        exact List.mem_append.mpr (Or.inl a3)
      · rw [if_neg hS]; exact a3
  rcases hpend with ⟨rfl, rfl⟩ | ⟨rfl, hz1, hz2, hz3, hz4⟩
  · refine ⟨j1c.2, hold, fun w hw => j3 w (List.mem_of_mem_tail hw), fun p hp hN hpn => ?_, h5, h6, h7⟩
    by_cases hpy : p = y.1
    · rw [hpy]
      refine ⟨fun _ => ?_, fun h => (by rw [hyI] at h; cases h)⟩
      show hc_PP _ _ _ (if S y.1 = S y.1 then ch (S y.1) ++ [y.2] else ch (S y.1)) _
      rw [if_pos rfl]
      exact hPz
    · exact hdone p hp hN hpy hpn
  · refine ⟨List.nodup_cons.mpr j1c, fun w hw => ?_, fun w hw => j3 w hw, fun p hp hN hpn => ?_, h5, h6, h7⟩
    · rcases List.mem_cons.mp hw with hw | hw
      · rw [hw]
        refine ⟨hym, hyN, hyI, ?_, hz2, ?_, Or.inr hz1⟩
        · show hc_PP _ _ _ (if S y.1 = S y.1 then ch (S y.1) ++ [y.2] else ch (S y.1)) _
          rw [if_pos rfl]
          exact hPz
        · show hc_nx ((y.2, z, b) :: as) z = none
          rw [hc_nx_cons, if_neg (fun q => hz3 q.symm)]
          exact hz4
      · exact hold w hw
    · exact hdone p hp hN (fun q => hpn (by rw [q]; exact List.mem_cons_self)) (fun q => hpn (List.mem_cons_of_mem _ q))
/-- what the search finds is a state that the pieces make -/
theorem hc_leaf (hB : hc_BG nil m S E I) (hfr : ∀ a, fr a → ∀ p, p < m → hc_N S E I p → S p ≠ a) : ∀ (k : Nat) (pend : List (Nat × Nat)) (as : List (Nat × Nat × Bool)) (ch : Nat → List Nat),
    hc_J m S E I fr pend as ch → hc_Ex fr L k (pend.map (fun y => (y.2, E y.1))) as → ∃ as' ch', L as' ∧ hc_Lf m S E I fr (hc_nx as') (hc_fa as') ch' := by
  intro k
  induction k with
  | zero =>
    intro pend as ch hJ h
    cases pend with
    | nil =>
      obtain ⟨-, -, -, j4, j5, j6, j7⟩ := hJ
      exact ⟨as, ch, hc_Ex_nil.mp h, fun p hp hN => ⟨j4 p hp hN (fun q => absurd q List.not_mem_nil), fun a ha => (j5 p hp hN a ha).1⟩, j6, j7⟩
    | cons y ys => exact absurd h.1 (fun q => nomatch q)
  | succ k ih =>
    intro pend as ch hJ h
    cases pend with
    | nil =>
      obtain ⟨-, -, -, j4, j5, j6, j7⟩ := hJ
      exact ⟨as, ch, hc_Ex_nil.mp h, fun p hp hN => ⟨j4 p hp hN (fun q => absurd q List.not_mem_nil), fun a ha => (j5 p hp hN a ha).1⟩, j6, j7⟩
    | cons y ys =>
      obtain ⟨b, h | ⟨g, g1, g2, g3, g4, h⟩⟩ := hc_Ex_cons.mp h
      · exact ih ys _ _ (hc_J_step hB hfr hJ (E y.1) b ys (Or.inl ⟨rfl, rfl⟩)) h
      · exact ih ((y.1, g) :: ys) _ _ (hc_J_step hB hfr hJ g b ((y.1, g) :: ys) (Or.inr ⟨rfl, g1, g2, g3, g4⟩)) h
/-- all open lists run long and straight to their ends -/
def hc_fin : List (Nat × Nat) → List (Nat × Nat × Bool) → List (Nat × Nat × Bool)
  | [], as => as
  | r :: rs, as => hc_fin rs ((r.1, r.2, true) :: as)
theorem hc_fin_mem : ∀ (rem : List (Nat × Nat)) (as : List (Nat × Nat × Bool)) (x : Nat × Nat × Bool), x ∈ hc_fin rem as ↔ x ∈ as ∨ ∃ r, r ∈ rem ∧ x = (r.1, r.2, true) := by
  intro rem
  induction rem with
  | nil => intro as x; exact ⟨fun h => Or.inl h, fun h => h.elim id (fun ⟨r, h, _⟩ => absurd h List.not_mem_nil)⟩
  | cons r rs ih =>
    intro as x
    show x ∈ hc_fin rs _ ↔ _
    rw [ih]
    constructor
    · rintro (h | ⟨q, h1, h2⟩)
      · rcases List.mem_cons.mp h with h | h
        · exact Or.inr ⟨r, List.mem_cons_self, h⟩
        · exact Or.inl h
      · exact Or.inr ⟨q, List.mem_cons_of_mem _ h1, h2⟩
    · rintro (h | ⟨q, h1, h2⟩)
      · exact Or.inl (List.mem_cons_of_mem _ h)
      · rcases List.mem_cons.mp h1 with h1 | h1
        · exact Or.inl (by rw [h2, h1]; exact List.mem_cons_self)
        · exact Or.inr ⟨q, h1, h2⟩
theorem hc_Ex_fin : ∀ (rem : List (Nat × Nat)) (k : Nat) (as : List (Nat × Nat × Bool)), rem.length ≤ k → L (hc_fin rem as) → hc_Ex fr L k rem as := by
  intro rem
  induction rem with
  | nil => intro k as _ h; exact hc_Ex_nil.mpr h
  | cons r rs ih =>
    intro k as hk h
    cases k with
    | zero => simp at hk
    | succ k => exact hc_Ex_cons.mpr ⟨true, Or.inl (ih k _ (by simp only [List.length_cons] at hk; omega) h)⟩
theorem hc_Ex_via {a e' e : Nat} {r2 : List (Nat × Nat)} (he : fr e) (h1 : e ≠ e') (h2 : e ≠ a) : ∀ (r1 : List (Nat × Nat)) (k : Nat) (as : List (Nat × Nat × Bool)), (r1 ++ (a, e') :: r2).length + 1 ≤ k → hc_nx (hc_fin r1 as) e = none →
    L (hc_fin r2 ((e, e', true) :: (a, e, true) :: hc_fin r1 as)) → hc_Ex fr L k (r1 ++ (a, e') :: r2) as := by
  intro r1
  induction r1 with
  | nil =>
    intro k as hk hn h
    simp only [List.nil_append, List.length_cons] at hk
    obtain ⟨k, rfl⟩ : ∃ j, k = j + 2 := ⟨k - 2, by omega⟩
    refine hc_Ex_cons.mpr ⟨true, Or.inr ⟨e, he, h1, h2, hn, ?_⟩⟩
    exact hc_Ex_cons.mpr ⟨true, Or.inl (hc_Ex_fin r2 k _ (by omega) h)⟩
  | cons r rs ih =>
    intro k as hk hn h
    simp only [List.cons_append, List.length_cons] at hk
    cases k with
    | zero => omega
    | succ k => exact hc_Ex_cons.mpr ⟨true, Or.inl (ih k _ (by omega) hn h)⟩
end WAYS
