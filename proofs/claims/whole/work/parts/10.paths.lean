/-! Paths over a partial next; pieces; what left's pieces make of a state (pure, no machine). -/
def hc_PP (nx : Nat → Option Nat) (e x : Nat) : List Nat → Nat → Prop
  | [], g => g = x
  | a :: l, g => a = g ∧ g ≠ e ∧ ∃ g', nx g = some g' ∧ hc_PP nx e x l g'
/-- from g along nx to e, no node of the list being e -/
def hc_P (nx : Nat → Option Nat) (e : Nat) (l : List Nat) (g : Nat) : Prop := hc_PP nx e e l g
theorem hc_P_nil {nx : Nat → Option Nat} {e g : Nat} : hc_P nx e [] g ↔ g = e := Iff.rfl
theorem hc_P_cons {nx : Nat → Option Nat} {e a g : Nat} {l : List Nat} : hc_P nx e (a :: l) g ↔ a = g ∧ g ≠ e ∧ ∃ g', nx g = some g' ∧ hc_P nx e l g' := Iff.rfl
theorem hc_P_det {nx : Nat → Option Nat} {e : Nat} : ∀ (l l' : List Nat) (g : Nat), hc_P nx e l g → hc_P nx e l' g → l = l' := by
  intro l
  induction l with
  | nil =>
    intro l' g h h'
    cases l' with
    | nil => rfl
    | cons a l' => exact absurd (hc_P_nil.mp h) (hc_P_cons.mp h').2.1
  | cons a l ih =>
    intro l' g h h'
    cases l' with
    | nil => exact absurd (hc_P_nil.mp h') (hc_P_cons.mp h).2.1
    | cons a' l' =>
      obtain ⟨h1, _, x, hx, hp⟩ := hc_P_cons.mp h
      obtain ⟨h1', _, x', hx', hp'⟩ := hc_P_cons.mp h'
      rw [hx] at hx'
      injection hx' with hx'
      rw [← hx'] at hp'
      rw [h1, h1', ih l' x hp hp']
theorem hc_P_ne {nx : Nat → Option Nat} {e : Nat} : ∀ (l : List Nat) (g : Nat), hc_P nx e l g → ∀ b, b ∈ l → b ≠ e ∧ nx b ≠ none := by
  intro l
  induction l with
  | nil => intro g _ b hb; exact absurd hb List.not_mem_nil
  | cons a l ih =>
    intro g h b hb
    obtain ⟨h1, h2, x, hx, hp⟩ := hc_P_cons.mp h
    rcases List.mem_cons.mp hb with hb | hb
    · rw [hb, h1]
      exact ⟨h2, by rw [hx]; exact fun q => nomatch q⟩
    · exact ih x hp b hb
theorem hc_P_head {nx : Nat → Option Nat} {e g : Nat} {l : List Nat} (h : hc_P nx e l g) (hg : g ≠ e) : g ∈ l := by
  cases l with
  | nil => exact absurd (hc_P_nil.mp h) hg
  | cons a l => rw [(hc_P_cons.mp h).1]; exact List.mem_cons_self
theorem hc_P_congr {nx nx' : Nat → Option Nat} {e : Nat} : ∀ (l : List Nat) (g : Nat), hc_P nx e l g → (∀ b, b ∈ l → nx' b = nx b) → hc_P nx' e l g := by
  intro l
  induction l with
  | nil => intro g h _; exact h
  | cons a l ih =>
    intro g h hc
    obtain ⟨h1, h2, x, hx, hp⟩ := hc_P_cons.mp h
    exact hc_P_cons.mpr ⟨h1, h2, x, by rw [← h1, hc a List.mem_cons_self, h1, hx], ih x hp (fun b hb => hc b (List.mem_cons_of_mem _ hb))⟩
theorem hc_P_app {nx : Nat → Option Nat} {e x : Nat} {l2 : List Nat} (h2 : hc_P nx e l2 x) : ∀ (l1 : List Nat) (g : Nat), hc_P nx x l1 g → (∀ b, b ∈ l1 → b ≠ e) → hc_P nx e (l1 ++ l2) g := by
  intro l1
  induction l1 with
  | nil => intro g h _; rw [hc_P_nil.mp h]; exact h2
  | cons a l1 ih =>
    intro g h hb
    obtain ⟨h1, h3, y, hy, hp⟩ := hc_P_cons.mp h
    exact hc_P_cons.mpr ⟨h1, by rw [← h1]; exact hb a List.mem_cons_self, y, hy, ih y hp (fun b h => hb b (List.mem_cons_of_mem _ h))⟩
/-- the path is cut at a, whose next is now the end -/
theorem hc_P_cut {nx nx' : Nat → Option Nat} {e a : Nat} (hn : ∀ b, b ≠ a → nx b ≠ none → nx' b = nx b) (ha : nx' a = some e) : ∀ (l : List Nat) (g : Nat), hc_P nx e l g → a ∈ l → ∃ l', hc_P nx' e l' g ∧ a ∈ l' := by
  intro l
  induction l with
  | nil => intro g _ h; exact absurd h List.not_mem_nil
  | cons b l ih =>
    intro g h hm
    obtain ⟨h1, h2, x, hx, hp⟩ := hc_P_cons.mp h
    by_cases hga : g = a
    · exact ⟨[a], hc_P_cons.mpr ⟨hga.symm, h2, e, by rw [hga]; exact ha, hc_P_nil.mpr rfl⟩, List.mem_cons_self⟩
    · rcases List.mem_cons.mp hm with hm | hm
      · exact absurd (hm.trans h1).symm hga
      · obtain ⟨l', q1, q2⟩ := ih x hp hm
        exact ⟨g :: l', hc_P_cons.mpr ⟨rfl, h2, x, by rw [hn g hga (by rw [hx]; exact fun q => nomatch q)]; exact hx, q1⟩, List.mem_cons_of_mem _ q2⟩
theorem hc_P_suf {nx : Nat → Option Nat} {e : Nat} : ∀ (l : List Nat) (g : Nat), hc_P nx e l g → ∀ a, a ∈ l → ∃ l2, hc_P nx e (a :: l2) a ∧ l2.length < l.length := by
  intro l
  induction l with
  | nil => intro g _ a ha; exact absurd ha List.not_mem_nil
  | cons b l ih =>
    intro g h a ha
    obtain ⟨h1, h2, x, hx, hp⟩ := hc_P_cons.mp h
    rcases List.mem_cons.mp ha with hb | hb
    · have hag : a = g := hb.trans h1
      exact ⟨l, hc_P_cons.mpr ⟨rfl, by rw [hag]; exact h2, x, by rw [hag]; exact hx, hp⟩, by simp⟩
    · obtain ⟨l2, q1, q2⟩ := ih x hp a hb
      exact ⟨l2, q1, by simp only [List.length_cons]; omega⟩
theorem hc_P_nodup {nx : Nat → Option Nat} {e : Nat} : ∀ (l : List Nat) (g : Nat), hc_P nx e l g → l.Nodup := by
  intro l
  induction l with
  | nil => intro g _; exact List.nodup_nil
  | cons b l ih =>
    intro g h
    obtain ⟨h1, h2, x, hx, hp⟩ := hc_P_cons.mp h
    refine List.nodup_cons.mpr ⟨fun hm => ?_, ih x hp⟩
    obtain ⟨l2, q1, q2⟩ := hc_P_suf l x hp b hm
    rw [← h1] at h
    have h3 := hc_P_det _ _ _ h q1
    injection h3 with _ h3
    rw [h3] at q2
    exact absurd q2 (Nat.lt_irrefl _)
/-- a list of different members of M is no longer than M -/
theorem hc_pigeon : ∀ (l M : List Nat), l.Nodup → (∀ a, a ∈ l → a ∈ M) → l.length ≤ M.length := by
  intro l
  induction l with
  | nil => intro M _ _; exact Nat.zero_le _
  | cons a l ih =>
    intro M hn hm
    obtain ⟨h1, h2⟩ := List.nodup_cons.mp hn
    have haM : a ∈ M := hm a List.mem_cons_self
    have h3 := ih (M.erase a) h2 (fun b hb => (List.mem_erase_of_ne (fun q => h1 (by rw [← q]; exact hb))).mpr (hm b (List.mem_cons_of_mem _ hb)))
    rw [List.length_erase_of_mem haM] at h3
    have h4 : 0 < M.length := List.length_pos_of_mem haM
    simp only [List.length_cons]
    omega
def hc_Dj (l l' : List Nat) : Prop := ∀ a, a ∈ l → a ∉ l'
theorem hc_Dj.symm {l l' : List Nat} (h : hc_Dj l l') : hc_Dj l' l := fun a h1 h2 => h a h2 h1
/-- the cells l of a piece: LIST (i) or CELL, from s to e; lg: no cell alone -/
def hc_pp (nx : Nat → Option Nat) (lg : Nat → Bool) (s e : Nat) (i : Bool) (l : List Nat) : Prop := (i = true → hc_P nx e l s) ∧ (i = false → l = [s] ∧ nx s = some e ∧ lg s = false)
def hc_lo (nx : Nat → Option Nat) (nil e : Nat) : Prop := e ≠ nil ∧ nx e = none
def hc_cp (nx : Nat → Option Nat) (lg : Nat → Bool) (nil s e : Nat) (i : Bool) (l : List Nat) : Prop := hc_pp nx lg s e i l ∧ (i = true → hc_lo nx nil e → ∀ a, a ∈ l → lg a = true → nx a = some e)
theorem hc_pp_det {nx : Nat → Option Nat} {lg lg' : Nat → Bool} {s e : Nat} {i : Bool} {l l' : List Nat} (h : hc_pp nx lg s e i l) (h' : hc_pp nx lg' s e i l') : l = l' := by
  cases i with
  | true => exact hc_P_det _ _ _ (h.1 rfl) (h'.1 rfl)
  | false => rw [(h.2 rfl).1, (h'.2 rfl).1]
theorem hc_pp_cell {nx : Nat → Option Nat} {lg : Nat → Bool} {s e : Nat} {i : Bool} {l : List Nat} (h : hc_pp nx lg s e i l) {a : Nat} (ha : a ∈ l) : nx a ≠ none := by
  cases i with
  | true => exact (hc_P_ne _ _ (h.1 rfl) a ha).2
  | false =>
    obtain ⟨h1, h2, _⟩ := h.2 rfl
    rw [h1] at ha
    rw [List.mem_singleton.mp ha, h2]
    exact fun q => nomatch q
/-- right's n pieces have the cells c between them -/
def hc_CT (nx : Nat → Option Nat) (lg : Nat → Bool) (nil n : Nat) (S E : Nat → Nat) (I : Nat → Bool) (c : Nat → List Nat) : Prop := (∀ i, i < n → hc_cp nx lg nil (S i) (E i) (I i) (c i)) ∧ ∀ i j, i < n → j < n → i ≠ j → hc_Dj (c i) (c j)
/-- n pieces, and those of m others at the bits f, have all cells between them -/
def hc_TR (nx : Nat → Option Nat) (lg : Nat → Bool) (n : Nat) (S' E' : Nat → Nat) (I' : Nat → Bool) (m : Nat) (f : Nat → Bool) (S E : Nat → Nat) (I : Nat → Bool) : Prop :=
  ∃ c d : Nat → List Nat, (∀ i, i < n → hc_pp nx lg (S' i) (E' i) (I' i) (c i)) ∧ (∀ p, p < m → f p = true → hc_pp nx lg (S p) (E p) (I p) (d p)) ∧
    (∀ i j, i < n → j < n → i ≠ j → hc_Dj (c i) (c j)) ∧ (∀ i p, i < n → p < m → f p = true → hc_Dj (c i) (d p)) ∧ (∀ p q, p < m → q < m → f p = true → f q = true → p ≠ q → hc_Dj (d p) (d q)) ∧
    ∀ g, nx g ≠ none → (∃ i, i < n ∧ g ∈ c i) ∨ ∃ p, p < m ∧ f p = true ∧ g ∈ d p
/-- the piece p has cells -/
def hc_N (S E : Nat → Nat) (I : Nat → Bool) (p : Nat) : Prop := I p = true → S p ≠ E p
def hc_BG (nil m : Nat) (S E : Nat → Nat) (I : Nat → Bool) : Prop := ∀ p, p < m → hc_N S E I p → S p ≠ nil ∧ ∀ q, q < m → hc_N S E I q → S q = S p → q = p
/-- the stretches of m pieces -/
def hc_H (nx : Nat → Option Nat) (lg : Nat → Bool) (m : Nat) (S E : Nat → Nat) (I : Nat → Bool) : Prop := (∀ p, p < m → hc_N S E I p → nx (S p) = some (E p) ∧ lg (S p) = I p) ∧ ∀ g, nx g ≠ none → ∃ p, p < m ∧ hc_N S E I p ∧ S p = g
/-- a state that m pieces make: ch has each stretch's cells by its first -/
def hc_Lf (m : Nat) (S E : Nat → Nat) (I : Nat → Bool) (fr : Nat → Prop) (nx : Nat → Option Nat) (fa : Nat → Bool) (ch : Nat → List Nat) : Prop :=
  (∀ p, p < m → hc_N S E I p → hc_pp nx fa (S p) (E p) (I p) (ch (S p)) ∧ ∀ a, a ∈ ch (S p) → a = S p ∨ fr a) ∧
  (∀ p q x, p < m → q < m → hc_N S E I p → hc_N S E I q → x ∈ ch (S p) → x ∈ ch (S q) → S p = S q) ∧ ∀ g, nx g ≠ none → ∃ p, p < m ∧ hc_N S E I p ∧ g ∈ ch (S p)
section CORE
variable {nil m n : Nat} {S E S' E' : Nat → Nat} {I I' : Nat → Bool} {nxH nx : Nat → Option Nat} {lgH fa : Nat → Bool} {ch : Nat → List Nat} {fr : Nat → Prop} {f : Nat → Bool}
theorem hc_expand (hH : hc_H nxH lgH m S E I) (hL : hc_Lf m S E I fr nx fa ch) (hfr : ∀ a, fr a → a ≠ nil ∧ nxH a = none) {e : Nat} :
    ∀ (l : List Nat) (g : Nat), hc_P nxH e l g → (hc_lo nxH nil e → ∀ a, a ∈ l → lgH a = true → nxH a = some e) → hc_P nx e (l.flatMap ch) g := by
  intro l
  induction l with
  | nil => intro g h _; exact h
  | cons a l ih =>
    intro g h hlo
    obtain ⟨h1, h2, x, hx, hp⟩ := hc_P_cons.mp h
    obtain ⟨p, hpm, hN, hS⟩ := hH.2 g (by rw [hx]; exact fun q => nomatch q)
    obtain ⟨⟨k1, k2⟩, k3⟩ := hL.1 p hpm hN
    obtain ⟨j1, j2⟩ := hH.1 p hpm hN
    rw [hS] at k1 k2 k3 j1 j2
    rw [hx] at j1
    injection j1 with j1
    rw [List.flatMap_cons, h1]
    have ih2 := ih x hp (fun q b hb => hlo q b (List.mem_cons_of_mem _ hb))
    cases hI : I p with
    | false =>
      obtain ⟨q1, q2, -⟩ := k2 hI
      rw [q1]
      exact hc_P_cons.mpr ⟨rfl, h2, x, by rw [q2, j1], ih2⟩
    | true =>
      have k4 := k1 hI
      rw [← j1] at k4
      refine hc_P_app ih2 _ _ k4 (fun b hb hbe => ?_)
      rcases k3 b hb with hb2 | hb2
      · exact h2 (hb2.symm.trans hbe)
      · obtain ⟨q1, q2⟩ := hfr b hb2
        rw [hbe] at q1 q2
        have h5 := hlo ⟨q1, q2⟩ a List.mem_cons_self (by rw [h1, j2, hI])
        rw [h1, hx] at h5
        injection h5 with h5
        exact (hc_P_ne _ _ k4 b hb).1 (hbe.trans h5.symm)
theorem hc_sound (hB : hc_BG nil m S E I) (hH : hc_H nxH lgH m S E I) (hL : hc_Lf m S E I fr nx fa ch) (hfr : ∀ a, fr a → a ≠ nil ∧ nxH a = none) {c : Nat → List Nat} (hC : hc_CT nxH lgH nil n S' E' I' c)
    (hf : ∀ p, p < m → hc_N S E I p → (f p = true ↔ ∀ i, i < n → S p ∉ c i)) : hc_TR nx fa n S' E' I' m f S E I := by
  have hst : ∀ i, i < n → ∀ a, a ∈ c i → ∃ p, p < m ∧ hc_N S E I p ∧ S p = a := fun i hi a ha => hH.2 a (hc_pp_cell (hC.1 i hi).1 ha)
  have hd : ∀ p, p < m → hc_N S E I p → ∀ x, x ∈ (if I p = true ∧ S p = E p then [] else ch (S p)) → x ∈ ch (S p) := fun p _ hN x hx => by
    rw [if_neg (fun q => hN q.1 q.2)] at hx; exact hx
  have hdN : ∀ p x, x ∈ (if I p = true ∧ S p = E p then [] else ch (S p)) → hc_N S E I p := fun p x hx h1 h2 => by
    rw [if_pos ⟨h1, h2⟩] at hx; exact absurd hx List.not_mem_nil
  refine ⟨fun i => (c i).flatMap ch, fun p => if I p = true ∧ S p = E p then [] else ch (S p), ?_, ?_, ?_, ?_, ?_, ?_⟩
  · intro i hi
    obtain ⟨⟨h1, h2⟩, h3⟩ := hC.1 i hi
    refine ⟨fun hI => hc_expand hH hL hfr _ _ (h1 hI) (h3 hI), fun hI => ?_⟩
    obtain ⟨q1, q2, q3⟩ := h2 hI
    obtain ⟨p, hpm, hN, hS⟩ := hH.2 (S' i) (by rw [q2]; exact fun q => nomatch q)
    obtain ⟨j1, j2⟩ := hH.1 p hpm hN
    obtain ⟨⟨-, k2⟩, -⟩ := hL.1 p hpm hN
    rw [hS] at j1 j2 k2
    rw [q3] at j2
    obtain ⟨k3, k5, k4⟩ := k2 j2.symm
    rw [q2] at j1
    injection j1 with j1
    show (c i).flatMap ch = [S' i] ∧ _
    rw [q1]
    exact ⟨by simp [k3], by rw [k5, j1], k4⟩
  · intro p hp hfp
    by_cases hN : I p = true ∧ S p = E p
    · show hc_pp nx fa (S p) (E p) (I p) (if I p = true ∧ S p = E p then [] else ch (S p))
      rw [if_pos hN]
      exact ⟨fun _ => hc_P_nil.mpr hN.2, fun h => (by rw [hN.1] at h; cases h)⟩
    · have hN' : hc_N S E I p := fun a b => hN ⟨a, b⟩
      show hc_pp nx fa (S p) (E p) (I p) (if I p = true ∧ S p = E p then [] else ch (S p))
      rw [if_neg hN]
      exact (hL.1 p hp hN').1
  · intro i j hi hj hij a ha hb
    obtain ⟨x, hx1, hx2⟩ := List.mem_flatMap.mp ha
    obtain ⟨y, hy1, hy2⟩ := List.mem_flatMap.mp hb
    obtain ⟨p, hpm, hN, hS⟩ := hst i hi x hx1
    obtain ⟨q, hqm, hNq, hSq⟩ := hst j hj y hy1
    have h9 := hL.2.1 p q a hpm hqm hN hNq (by rw [hS]; exact hx2) (by rw [hSq]; exact hy2)
    rw [hS, hSq] at h9
    rw [h9] at hx1
    exact hC.2 i j hi hj hij y hx1 hy1
  · intro i p hi hp hfp a ha hb
    obtain ⟨x, hx1, hx2⟩ := List.mem_flatMap.mp ha
    obtain ⟨q, hqm, hNq, hSq⟩ := hst i hi x hx1
    have hN := hdN p a hb
    have h9 := hL.2.1 q p a hqm hp hNq hN (by rw [hSq]; exact hx2) (hd p hp hN a hb)
    rw [hSq] at h9
    rw [h9] at hx1
    exact (hf p hp hN).mp hfp i hi hx1
  · intro p q hp hq hfp hfq hpq a ha hb
    have hN := hdN p a ha
    have hNq := hdN q a hb
    have h9 := hL.2.1 p q a hp hq hN hNq (hd p hp hN a ha) (hd q hq hNq a hb)
    exact hpq ((hB q hq hNq).2 p hp hN h9)
  · intro g hg
    obtain ⟨p, hpm, hN, hgm⟩ := hL.2.2 g hg
    by_cases hfp : f p = true
    · refine Or.inr ⟨p, hpm, hfp, ?_⟩
      show g ∈ (if I p = true ∧ S p = E p then [] else ch (S p))
      rw [if_neg (fun q => hN q.1 q.2)]
      exact hgm
    · have h9 : ¬ ∀ i, i < n → S p ∉ c i := fun q => hfp ((hf p hpm hN).mpr q)
      obtain ⟨i, h9⟩ := Classical.not_forall.mp h9
      obtain ⟨hi, h9⟩ := Classical.not_imp.mp h9
      exact Or.inl ⟨i, hi, List.mem_flatMap.mpr ⟨S p, Classical.not_not.mp h9, hgm⟩⟩
/-- the stretch at a leads by e now -/
def hc_we (nx : Nat → Option Nat) (a e e' : Nat) : Nat → Option Nat := fun g => if g = a then some e else if g = e then some e' else nx g
theorem hc_need (hB : hc_BG nil m S E I) (hH : hc_H nxH lgH m S E I) (h0 : hc_TR nxH lgH n S' E' I' m f S E I)
    (he : ∀ p i, p < m → hc_N S E I p → I p = true → i < n → I' i = true → E' i ≠ E p → E' i ≠ nil → nxH (E' i) = none → ∃ fa' : Nat → Bool, hc_TR (hc_we nxH (S p) (E' i) (E p)) fa' n S' E' I' m f S E I) :
    ∃ c, hc_CT nxH lgH nil n S' E' I' c ∧ ∀ p, p < m → hc_N S E I p → (f p = true ↔ ∀ i, i < n → S p ∉ c i) := by
  obtain ⟨c, d, hc, hd, hcc, hcd, hdd, hcov⟩ := h0
  have hdp : ∀ q, q < m → f q = true → ∀ x, x ∈ d q → x = S q ∧ hc_N S E I q := by
    intro q hq hfq x hx
    cases hI : I q with
    | false =>
      have h1 := ((hd q hq hfq).2 hI).1
      rw [h1] at hx
      exact ⟨List.mem_singleton.mp hx, fun h => (by rw [hI] at h; cases h)⟩
    | true =>
      have h1 := (hd q hq hfq).1 hI
      by_cases hSE : S q = E q
      · rw [hc_P_det _ [] _ h1 (hc_P_nil.mpr hSE)] at hx
        exact absurd hx List.not_mem_nil
      · have hN : hc_N S E I q := fun _ => hSE
        rw [hc_P_det _ [S q] _ h1 (hc_P_cons.mpr ⟨rfl, hSE, E q, (hH.1 q hq hN).1, hc_P_nil.mpr rfl⟩)] at hx
        exact ⟨List.mem_singleton.mp hx, hN⟩
  have hin : ∀ p, p < m → hc_N S E I p → f p = true → S p ∈ d p := by
    intro p hp hN hfp
    cases hI : I p with
    | false => rw [((hd p hp hfp).2 hI).1]; exact List.mem_cons_self
    | true => exact hc_P_head ((hd p hp hfp).1 hI) (hN hI)
  refine ⟨c, ⟨fun i hi => ⟨hc i hi, fun hI hlo a ha hlg => ?_⟩, hcc⟩, fun p hp hN => ⟨fun hfp i hi hm => hcd i p hi hp hfp _ hm (hin p hp hN hfp), fun hno => ?_⟩⟩
  · by_cases hae : nxH a = some (E' i)
    · exact hae
    exfalso
    obtain ⟨p, hpm, hN, hS⟩ := hH.2 a (hc_pp_cell (hc i hi) ha)
    obtain ⟨j1, j2⟩ := hH.1 p hpm hN
    rw [hS] at j1 j2
    have hIp : I p = true := by rw [← j2]; exact hlg
    have hne : E' i ≠ E p := fun q => hae (by rw [j1, q])
    obtain ⟨fa', c', d', hc', hd', hcc', hcd', hdd', hcov'⟩ := he p i hpm hN hIp hi hI hne hlo.1 hlo.2
    rw [hS] at hc' hd' hcov'
    have hea : E' i ≠ a := fun q => by rw [← q, hlo.2] at j1; cases j1
    have hwe : ∀ b, b ≠ a → nxH b ≠ none → hc_we nxH a (E' i) (E p) b = nxH b := fun b h1 h2 => by
      unfold hc_we
      rw [if_neg h1, if_neg (fun q => h2 (by rw [q]; exact hlo.2))]
    have hwa : hc_we nxH a (E' i) (E p) a = some (E' i) := if_pos rfl
    have hac' : a ∈ c' i := by
      obtain ⟨l', q1, q2⟩ := hc_P_cut hwe hwa _ _ ((hc i hi).1 hI) ha
      rw [hc_P_det _ _ _ ((hc' i hi).1 hI) q1]
      exact q2
    rcases hcov' (E' i) (by unfold hc_we; rw [if_neg hea, if_pos rfl]; exact fun q => nomatch q) with ⟨j, hj, hm⟩ | ⟨q, hq, hfq, hm⟩
    · cases hIj : I' j with
      | false =>
        rw [((hc' j hj).2 hIj).1] at hm
        have h1 := ((hc j hj).2 hIj).2.1
        rw [← List.mem_singleton.mp hm, hlo.2] at h1
        cases h1
      | true =>
        by_cases haj : a ∈ c j
        · have hij : i = j := by
            by_cases hij : i = j
            · exact hij
            · exact absurd haj (hcc i j hi hj hij a ha)
          rw [← hij] at hm
          exact (hc_P_ne _ _ ((hc' i hi).1 hI) _ hm).1 rfl
        · have h1 := (hc j hj).1 hIj
          have h2 : hc_P (hc_we nxH a (E' i) (E p)) (E' j) (c j) (S' j) := hc_P_congr _ _ h1 (fun b hb => hwe b (fun q => haj (by rw [← q]; exact hb)) (hc_P_ne _ _ h1 b hb).2)
          rw [hc_P_det _ _ _ ((hc' j hj).1 hIj) h2] at hm
          exact (hc_P_ne _ _ h1 _ hm).2 hlo.2
    · cases hIq : I q with
      | false =>
        rw [((hd' q hq hfq).2 hIq).1] at hm
        have h1 := (hH.1 q hq (fun h => (by rw [hIq] at h; cases h))).1
        rw [← List.mem_singleton.mp hm, hlo.2] at h1
        cases h1
      | true =>
        have h1 := (hd' q hq hfq).1 hIq
        by_cases hSE : S q = E q
        · rw [hc_P_det _ [] _ h1 (hc_P_nil.mpr hSE)] at hm
          exact absurd hm List.not_mem_nil
        · have hNq : hc_N S E I q := fun _ => hSE
          have h2 := (hH.1 q hq hNq).1
          by_cases hqa : S q = a
          · have h3 := hc_P_head h1 hSE
            rw [hqa] at h3
            exact hcd' i q hi hq hfq a hac' h3
          · rw [hc_P_det _ [S q] _ h1 (hc_P_cons.mpr ⟨rfl, hSE, E q, by rw [hwe _ hqa (by rw [h2]; exact fun q => nomatch q)]; exact h2, hc_P_nil.mpr rfl⟩)] at hm
            rw [← List.mem_singleton.mp hm, hlo.2] at h2
            cases h2
  · by_cases hfp : f p = true
    · exact hfp
    exfalso
    rcases hcov (S p) (by rw [(hH.1 p hp hN).1]; exact fun q => nomatch q) with ⟨i, hi, hm⟩ | ⟨q, hq, hfq, hm⟩
    · exact hno i hi hm
    · obtain ⟨h1, h2⟩ := hdp q hq hfq _ hm
      have h3 := (hB q hq h2).2 p hp hN h1
      rw [h3] at hfp
      exact hfp hfq
end CORE
