section
/-! bits of an Int32; the first family is kit/laws/BITS.to-paste (bt) -/
def bt (x : Int32) (i : Nat) : Bool := x.toBitVec.getLsbD i
theorem b_ext {x y : Int32} (h : ∀ i, i < 32 → bt x i = bt y i) : x = y := Int32.toBitVec_inj.mp (BitVec.eq_of_getLsbD_eq (fun i hi => h i hi))
theorem b_or (x y : Int32) (i : Nat) : bt (x ||| y) i = (bt x i || bt y i) := by unfold bt; rw [Int32.toBitVec_or, BitVec.getLsbD_or]
theorem b_and (x y : Int32) (i : Nat) : bt (x &&& y) i = (bt x i && bt y i) := by unfold bt; rw [Int32.toBitVec_and, BitVec.getLsbD_and]
theorem b_xor (x y : Int32) (i : Nat) : bt (x ^^^ y) i = (bt x i ^^ bt y i) := by unfold bt; rw [Int32.toBitVec_xor, BitVec.getLsbD_xor]
theorem b_big {x : Int32} {i : Nat} (h : 32 ≤ i) : bt x i = false := BitVec.getLsbD_of_ge _ _ h
theorem b_255 (i : Nat) : bt 255 i = decide (i < 8) := by
  rcases Nat.lt_or_ge i 32 with h | h
  · exact (by decide +kernel : ∀ i, i < 32 → bt 255 i = decide (i < 8)) i h
  · rw [b_big h, decide_eq_false (by omega)]
theorem b_65535 (i : Nat) : bt 65535 i = decide (i < 16) := by
  rcases Nat.lt_or_ge i 32 with h | h
  · exact (by decide +kernel : ∀ i, i < 32 → bt 65535 i = decide (i < 16)) i h
  · rw [b_big h, decide_eq_false (by omega)]
theorem b_m1 : ∀ i, i < 32 → bt (-1) i = true := by decide +kernel
theorem b_0 (i : Nat) : bt 0 i = false := BitVec.getLsbD_zero
theorem s_l : ∀ n, n < 32 → ((nI n &&& 31).toBitVec.smod 32).toNat = n := by decide +kernel
theorem s_u : ∀ n, n < 32 → (((nI n).toUInt32 &&& Int32.toUInt32 31).toBitVec % 32).toNat = n := by decide +kernel
theorem b_shl (n : Nat) (hn : n < 32) (x : Int32) {i : Nat} (hi : i < 32) : bt (x <<< (nI n &&& 31)) i = (decide (n ≤ i) && bt x (i - n)) := by
  unfold bt
  rw [Int32.toBitVec_shiftLeft]
  show (x.toBitVec <<< ((nI n &&& 31).toBitVec.smod 32).toNat).getLsbD i = _
  rw [s_l n hn, BitVec.getLsbD_shiftLeft]
  rcases Nat.lt_or_ge i n with h | h
  · simp [h, Nat.not_le.mpr h]
  · simp [hi, h, Nat.not_lt.mpr h]
theorem b_ushr (n : Nat) (hn : n < 32) (x : Int32) (i : Nat) : bt ((x.toUInt32 >>> ((nI n).toUInt32 &&& Int32.toUInt32 31)).toInt32) i = bt x (n + i) := by
  show (x.toUInt32 >>> ((nI n).toUInt32 &&& Int32.toUInt32 31)).toBitVec.getLsbD i = x.toUInt32.toBitVec.getLsbD (n + i)
  rw [UInt32.toBitVec_shiftRight]
  show (x.toUInt32.toBitVec >>> (((nI n).toUInt32 &&& Int32.toUInt32 31).toBitVec % 32).toNat).getLsbD i = _
  rw [s_u n hn, BitVec.getLsbD_ushiftRight]
theorem b_sshr (n : Nat) (hn : n < 32) (x : Int32) {i : Nat} (hi : i < 32) : bt (x >>> (nI n &&& 31)) i = if n + i < 32 then bt x (n + i) else bt x 31 := by
  unfold bt
  rw [Int32.toBitVec_shiftRight]
  show (x.toBitVec.sshiftRight ((nI n &&& 31).toBitVec.smod 32).toNat).getLsbD i = _
  rw [s_l n hn, BitVec.getLsbD_sshiftRight, BitVec.msb_eq_getLsbD_last]
  simp [hi]
/-! own rows on bits -/
theorem hb_1 : ∀ k, k < 32 → ∀ i, i < 32 → bt ((1 : Int32) <<< (nI k &&& 31)) i = decide (i = k) := by decide +kernel
theorem hb_not (x : Int32) {i : Nat} (hi : i < 32) : bt (x ^^^ (-1)) i = !bt x i := by rw [b_xor, b_m1 i hi, Bool.xor_true]
theorem hb_0 {x : Int32} : x = 0 ↔ ∀ i, i < 32 → bt x i = false := ⟨fun h i _ => by rw [h]; exact b_0 i, fun h => b_ext (fun i hi => by rw [h i hi, b_0])⟩
theorem hb_n0 {x : Int32} : x ≠ 0 ↔ ∃ i, i < 32 ∧ bt x i = true := by
  constructor
  · intro h
    by_cases h9 : ∃ i, i < 32 ∧ bt x i = true
    · exact h9
    · exact absurd (hb_0.mpr (fun i hi => by cases hb : bt x i with | false => rfl | true => exact absurd ⟨i, hi, hb⟩ h9)) h
  · rintro ⟨i, hi, h⟩ q
    rw [q, b_0] at h
    cases h
theorem hb_nI (k : Nat) {i : Nat} (hi : i < 32) : bt (nI k) i = k.testBit i := by
  show (BitVec.ofNat 32 k).getLsbD i = _
  rw [BitVec.getLsbD_ofNat]
  simp [hi]
theorem hb_m1 {x : Int32} {i : Nat} (hi : i < 32) (h : bt x i = false) : x ≠ -1 := fun q => by
  rw [q, b_m1 i hi] at h
  cases h
end
section
/-! Paths over a partial next; pieces; what left's pieces make of a state (pure, no machine). -/
def hc_PP (nx : Nat → Option Nat) (e x : Nat) : List Nat → Nat → Prop
  | [], g => g = x
  | a :: l, g => a = g ∧ g ≠ e ∧ ∃ g', nx g = some g' ∧ hc_PP nx e x l g'
/-- from g along nx to e, no node of the list being e -/
def hc_P (nx : Nat → Option Nat) (e : Nat) (l : List Nat) (g : Nat) : Prop := hc_PP nx e e l g
theorem hc_P_nil {nx : Nat → Option Nat} {e g : Nat} : hc_P nx e [] g ↔ g = e := Iff.rfl
theorem hc_P_cons {nx : Nat → Option Nat} {e a g : Nat} {l : List Nat} : hc_P nx e (a :: l) g ↔ a = g ∧ g ≠ e ∧ ∃ g', nx g = some g' ∧ hc_P nx e l g' := Iff.rfl
theorem hc_P_det {nx : Nat → Option Nat} {e : Nat} : ∀ (l l' : List Nat) (g : Nat), hc_P nx e l g → hc_P nx e l' g → l = l' := by
  intro l
  induction l with
  | nil =>
    intro l' g h h'
    cases l' with
    | nil => rfl
    | cons a l' => exact absurd (hc_P_nil.mp h) (hc_P_cons.mp h').2.1
  | cons a l ih =>
    intro l' g h h'
    cases l' with
    | nil => exact absurd (hc_P_nil.mp h') (hc_P_cons.mp h).2.1
    | cons a' l' =>
      obtain ⟨h1, _, x, hx, hp⟩ := hc_P_cons.mp h
      obtain ⟨h1', _, x', hx', hp'⟩ := hc_P_cons.mp h'
      rw [hx] at hx'
      injection hx' with hx'
      rw [← hx'] at hp'
      rw [h1, h1', ih l' x hp hp']
theorem hc_P_ne {nx : Nat → Option Nat} {e : Nat} : ∀ (l : List Nat) (g : Nat), hc_P nx e l g → ∀ b, b ∈ l → b ≠ e ∧ nx b ≠ none := by
  intro l
  induction l with
  | nil => intro g _ b hb; exact absurd hb List.not_mem_nil
  | cons a l ih =>
    intro g h b hb
    obtain ⟨h1, h2, x, hx, hp⟩ := hc_P_cons.mp h
    rcases List.mem_cons.mp hb with hb | hb
    · rw [hb, h1]
      exact ⟨h2, by rw [hx]; exact fun q => nomatch q⟩
    · exact ih x hp b hb
theorem hc_P_head {nx : Nat → Option Nat} {e g : Nat} {l : List Nat} (h : hc_P nx e l g) (hg : g ≠ e) : g ∈ l := by
  cases l with
  | nil => exact absurd (hc_P_nil.mp h) hg
  | cons a l => rw [(hc_P_cons.mp h).1]; exact List.mem_cons_self
theorem hc_P_congr {nx nx' : Nat → Option Nat} {e : Nat} : ∀ (l : List Nat) (g : Nat), hc_P nx e l g → (∀ b, b ∈ l → nx' b = nx b) → hc_P nx' e l g := by
  intro l
  induction l with
  | nil => intro g h _; exact h
  | cons a l ih =>
    intro g h hc
    obtain ⟨h1, h2, x, hx, hp⟩ := hc_P_cons.mp h
    exact hc_P_cons.mpr ⟨h1, h2, x, by rw [← h1, hc a List.mem_cons_self, h1, hx], ih x hp (fun b hb => hc b (List.mem_cons_of_mem _ hb))⟩
theorem hc_P_app {nx : Nat → Option Nat} {e x : Nat} {l2 : List Nat} (h2 : hc_P nx e l2 x) : ∀ (l1 : List Nat) (g : Nat), hc_P nx x l1 g → (∀ b, b ∈ l1 → b ≠ e) → hc_P nx e (l1 ++ l2) g := by
  intro l1
  induction l1 with
  | nil => intro g h _; rw [hc_P_nil.mp h]; exact h2
  | cons a l1 ih =>
    intro g h hb
    obtain ⟨h1, h3, y, hy, hp⟩ := hc_P_cons.mp h
    exact hc_P_cons.mpr ⟨h1, by rw [← h1]; exact hb a List.mem_cons_self, y, hy, ih y hp (fun b h => hb b (List.mem_cons_of_mem _ h))⟩
/-- the path is cut at a, whose next is now the end -/
theorem hc_P_cut {nx nx' : Nat → Option Nat} {e a : Nat} (hn : ∀ b, b ≠ a → nx b ≠ none → nx' b = nx b) (ha : nx' a = some e) : ∀ (l : List Nat) (g : Nat), hc_P nx e l g → a ∈ l → ∃ l', hc_P nx' e l' g ∧ a ∈ l' := by
  intro l
  induction l with
  | nil => intro g _ h; exact absurd h List.not_mem_nil
  | cons b l ih =>
    intro g h hm
    obtain ⟨h1, h2, x, hx, hp⟩ := hc_P_cons.mp h
    by_cases hga : g = a
    · exact ⟨[a], hc_P_cons.mpr ⟨hga.symm, h2, e, by rw [hga]; exact ha, hc_P_nil.mpr rfl⟩, List.mem_cons_self⟩
    · rcases List.mem_cons.mp hm with hm | hm
      · exact absurd (hm.trans h1).symm hga
      · obtain ⟨l', q1, q2⟩ := ih x hp hm
        exact ⟨g :: l', hc_P_cons.mpr ⟨rfl, h2, x, by rw [hn g hga (by rw [hx]; exact fun q => nomatch q)]; exact hx, q1⟩, List.mem_cons_of_mem _ q2⟩
theorem hc_P_suf {nx : Nat → Option Nat} {e : Nat} : ∀ (l : List Nat) (g : Nat), hc_P nx e l g → ∀ a, a ∈ l → ∃ l2, hc_P nx e (a :: l2) a ∧ l2.length < l.length := by
  intro l
  induction l with
  | nil => intro g _ a ha; exact absurd ha List.not_mem_nil
  | cons b l ih =>
    intro g h a ha
    obtain ⟨h1, h2, x, hx, hp⟩ := hc_P_cons.mp h
    rcases List.mem_cons.mp ha with hb | hb
    · have hag : a = g := hb.trans h1
      exact ⟨l, hc_P_cons.mpr ⟨rfl, by rw [hag]; exact h2, x, by rw [hag]; exact hx, hp⟩, by simp⟩
    · obtain ⟨l2, q1, q2⟩ := ih x hp a hb
      exact ⟨l2, q1, by simp only [List.length_cons]; omega⟩
theorem hc_P_nodup {nx : Nat → Option Nat} {e : Nat} : ∀ (l : List Nat) (g : Nat), hc_P nx e l g → l.Nodup := by
  intro l
  induction l with
  | nil => intro g _; exact List.nodup_nil
  | cons b l ih =>
    intro g h
    obtain ⟨h1, h2, x, hx, hp⟩ := hc_P_cons.mp h
    refine List.nodup_cons.mpr ⟨fun hm => ?_, ih x hp⟩
    obtain ⟨l2, q1, q2⟩ := hc_P_suf l x hp b hm
    rw [← h1] at h
    have h3 := hc_P_det _ _ _ h q1
    injection h3 with _ h3
    rw [h3] at q2
    exact absurd q2 (Nat.lt_irrefl _)
/-- a list of different members of M is no longer than M -/
theorem hc_pigeon : ∀ (l M : List Nat), l.Nodup → (∀ a, a ∈ l → a ∈ M) → l.length ≤ M.length := by
  intro l
  induction l with
  | nil => intro M _ _; exact Nat.zero_le _
  | cons a l ih =>
    intro M hn hm
    obtain ⟨h1, h2⟩ := List.nodup_cons.mp hn
    have haM : a ∈ M := hm a List.mem_cons_self
    have h3 := ih (M.erase a) h2 (fun b hb => (List.mem_erase_of_ne (fun q => h1 (by rw [← q]; exact hb))).mpr (hm b (List.mem_cons_of_mem _ hb)))
    rw [List.length_erase_of_mem haM] at h3
    have h4 : 0 < M.length := List.length_pos_of_mem haM
    simp only [List.length_cons]
    omega
def hc_Dj (l l' : List Nat) : Prop := ∀ a, a ∈ l → a ∉ l'
theorem hc_Dj.symm {l l' : List Nat} (h : hc_Dj l l') : hc_Dj l' l := fun a h1 h2 => h a h2 h1
/-- the cells l of a piece: LIST (i) or CELL, from s to e; lg: no cell alone -/
def hc_pp (nx : Nat → Option Nat) (lg : Nat → Bool) (s e : Nat) (i : Bool) (l : List Nat) : Prop := (i = true → hc_P nx e l s) ∧ (i = false → l = [s] ∧ nx s = some e ∧ lg s = false)
def hc_lo (nx : Nat → Option Nat) (nil e : Nat) : Prop := e ≠ nil ∧ nx e = none
def hc_cp (nx : Nat → Option Nat) (lg : Nat → Bool) (nil s e : Nat) (i : Bool) (l : List Nat) : Prop := hc_pp nx lg s e i l ∧ (i = true → hc_lo nx nil e → ∀ a, a ∈ l → lg a = true → nx a = some e)
theorem hc_pp_det {nx : Nat → Option Nat} {lg lg' : Nat → Bool} {s e : Nat} {i : Bool} {l l' : List Nat} (h : hc_pp nx lg s e i l) (h' : hc_pp nx lg' s e i l') : l = l' := by
  cases i with
  | true => exact hc_P_det _ _ _ (h.1 rfl) (h'.1 rfl)
  | false => rw [(h.2 rfl).1, (h'.2 rfl).1]
theorem hc_pp_cell {nx : Nat → Option Nat} {lg : Nat → Bool} {s e : Nat} {i : Bool} {l : List Nat} (h : hc_pp nx lg s e i l) {a : Nat} (ha : a ∈ l) : nx a ≠ none := by
  cases i with
  | true => exact (hc_P_ne _ _ (h.1 rfl) a ha).2
  | false =>
    obtain ⟨h1, h2, _⟩ := h.2 rfl
    rw [h1] at ha
    rw [List.mem_singleton.mp ha, h2]
    exact fun q => nomatch q
/-- right's n pieces have the cells c between them -/
def hc_CT (nx : Nat → Option Nat) (lg : Nat → Bool) (nil n : Nat) (S E : Nat → Nat) (I : Nat → Bool) (c : Nat → List Nat) : Prop := (∀ i, i < n → hc_cp nx lg nil (S i) (E i) (I i) (c i)) ∧ ∀ i j, i < n → j < n → i ≠ j → hc_Dj (c i) (c j)
/-- n pieces, and those of m others at the bits f, have all cells between them -/
def hc_TR (nx : Nat → Option Nat) (lg : Nat → Bool) (n : Nat) (S' E' : Nat → Nat) (I' : Nat → Bool) (m : Nat) (f : Nat → Bool) (S E : Nat → Nat) (I : Nat → Bool) : Prop :=
  ∃ c d : Nat → List Nat, (∀ i, i < n → hc_pp nx lg (S' i) (E' i) (I' i) (c i)) ∧ (∀ p, p < m → f p = true → hc_pp nx lg (S p) (E p) (I p) (d p)) ∧
    (∀ i j, i < n → j < n → i ≠ j → hc_Dj (c i) (c j)) ∧ (∀ i p, i < n → p < m → f p = true → hc_Dj (c i) (d p)) ∧ (∀ p q, p < m → q < m → f p = true → f q = true → p ≠ q → hc_Dj (d p) (d q)) ∧
    ∀ g, nx g ≠ none → (∃ i, i < n ∧ g ∈ c i) ∨ ∃ p, p < m ∧ f p = true ∧ g ∈ d p
/-- the piece p has cells -/
def hc_N (S E : Nat → Nat) (I : Nat → Bool) (p : Nat) : Prop := I p = true → S p ≠ E p
def hc_BG (nil m : Nat) (S E : Nat → Nat) (I : Nat → Bool) : Prop := ∀ p, p < m → hc_N S E I p → S p ≠ nil ∧ ∀ q, q < m → hc_N S E I q → S q = S p → q = p
/-- the stretches of m pieces -/
def hc_H (nx : Nat → Option Nat) (lg : Nat → Bool) (m : Nat) (S E : Nat → Nat) (I : Nat → Bool) : Prop := (∀ p, p < m → hc_N S E I p → nx (S p) = some (E p) ∧ lg (S p) = I p) ∧ ∀ g, nx g ≠ none → ∃ p, p < m ∧ hc_N S E I p ∧ S p = g
/-- a state that m pieces make: ch has each stretch's cells by its first -/
def hc_Lf (m : Nat) (S E : Nat → Nat) (I : Nat → Bool) (fr : Nat → Prop) (nx : Nat → Option Nat) (fa : Nat → Bool) (ch : Nat → List Nat) : Prop :=
  (∀ p, p < m → hc_N S E I p → hc_pp nx fa (S p) (E p) (I p) (ch (S p)) ∧ ∀ a, a ∈ ch (S p) → a = S p ∨ fr a) ∧
  (∀ p q x, p < m → q < m → hc_N S E I p → hc_N S E I q → x ∈ ch (S p) → x ∈ ch (S q) → S p = S q) ∧ ∀ g, nx g ≠ none → ∃ p, p < m ∧ hc_N S E I p ∧ g ∈ ch (S p)
section CORE
variable {nil m n : Nat} {S E S' E' : Nat → Nat} {I I' : Nat → Bool} {nxH nx : Nat → Option Nat} {lgH fa : Nat → Bool} {ch : Nat → List Nat} {fr : Nat → Prop} {f : Nat → Bool}
theorem hc_expand (hH : hc_H nxH lgH m S E I) (hL : hc_Lf m S E I fr nx fa ch) (hfr : ∀ a, fr a → a ≠ nil ∧ nxH a = none) {e : Nat} :
    ∀ (l : List Nat) (g : Nat), hc_P nxH e l g → (hc_lo nxH nil e → ∀ a, a ∈ l → lgH a = true → nxH a = some e) → hc_P nx e (l.flatMap ch) g := by
  intro l
  induction l with
  | nil => intro g h _; exact h
  | cons a l ih =>
    intro g h hlo
    obtain ⟨h1, h2, x, hx, hp⟩ := hc_P_cons.mp h
    obtain ⟨p, hpm, hN, hS⟩ := hH.2 g (by rw [hx]; exact fun q => nomatch q)
    obtain ⟨⟨k1, k2⟩, k3⟩ := hL.1 p hpm hN
    obtain ⟨j1, j2⟩ := hH.1 p hpm hN
    rw [hS] at k1 k2 k3 j1 j2
    rw [hx] at j1
    injection j1 with j1
    rw [List.flatMap_cons, h1]
    have ih2 := ih x hp (fun q b hb => hlo q b (List.mem_cons_of_mem _ hb))
    cases hI : I p with
    | false =>
      obtain ⟨q1, q2, -⟩ := k2 hI
      rw [q1]
      exact hc_P_cons.mpr ⟨rfl, h2, x, by rw [q2, j1], ih2⟩
    | true =>
      have k4 := k1 hI
      rw [← j1] at k4
      refine hc_P_app ih2 _ _ k4 (fun b hb hbe => ?_)
      rcases k3 b hb with hb2 | hb2
      · exact h2 (hb2.symm.trans hbe)
      · obtain ⟨q1, q2⟩ := hfr b hb2
        rw [hbe] at q1 q2
        have h5 := hlo ⟨q1, q2⟩ a List.mem_cons_self (by rw [h1, j2, hI])
        rw [h1, hx] at h5
        injection h5 with h5
        exact (hc_P_ne _ _ k4 b hb).1 (hbe.trans h5.symm)
theorem hc_sound (hB : hc_BG nil m S E I) (hH : hc_H nxH lgH m S E I) (hL : hc_Lf m S E I fr nx fa ch) (hfr : ∀ a, fr a → a ≠ nil ∧ nxH a = none) {c : Nat → List Nat} (hC : hc_CT nxH lgH nil n S' E' I' c)
    (hf : ∀ p, p < m → hc_N S E I p → (f p = true ↔ ∀ i, i < n → S p ∉ c i)) : hc_TR nx fa n S' E' I' m f S E I := by
  have hst : ∀ i, i < n → ∀ a, a ∈ c i → ∃ p, p < m ∧ hc_N S E I p ∧ S p = a := fun i hi a ha => hH.2 a (hc_pp_cell (hC.1 i hi).1 ha)
  have hd : ∀ p, p < m → hc_N S E I p → ∀ x, x ∈ (if I p = true ∧ S p = E p then [] else ch (S p)) → x ∈ ch (S p) := fun p _ hN x hx => by
    rw [if_neg (fun q => hN q.1 q.2)] at hx; exact hx
  have hdN : ∀ p x, x ∈ (if I p = true ∧ S p = E p then [] else ch (S p)) → hc_N S E I p := fun p x hx h1 h2 => by
    rw [if_pos ⟨h1, h2⟩] at hx; exact absurd hx List.not_mem_nil
  refine ⟨fun i => (c i).flatMap ch, fun p => if I p = true ∧ S p = E p then [] else ch (S p), ?_, ?_, ?_, ?_, ?_, ?_⟩
  · intro i hi
    obtain ⟨⟨h1, h2⟩, h3⟩ := hC.1 i hi
    refine ⟨fun hI => hc_expand hH hL hfr _ _ (h1 hI) (h3 hI), fun hI => ?_⟩
    obtain ⟨q1, q2, q3⟩ := h2 hI
    obtain ⟨p, hpm, hN, hS⟩ := hH.2 (S' i) (by rw [q2]; exact fun q => nomatch q)
    obtain ⟨j1, j2⟩ := hH.1 p hpm hN
    obtain ⟨⟨-, k2⟩, -⟩ := hL.1 p hpm hN
    rw [hS] at j1 j2 k2
    rw [q3] at j2
    obtain ⟨k3, k5, k4⟩ := k2 j2.symm
    rw [q2] at j1
    injection j1 with j1
    show (c i).flatMap ch = [S' i] ∧ _
    rw [q1]
    exact ⟨by simp [k3], by rw [k5, j1], k4⟩
  · intro p hp hfp
    by_cases hN : I p = true ∧ S p = E p
    · show hc_pp nx fa (S p) (E p) (I p) (if I p = true ∧ S p = E p then [] else ch (S p))
      rw [if_pos hN]
      exact ⟨fun _ => hc_P_nil.mpr hN.2, fun h => (by rw [hN.1] at h; cases h)⟩
    · have hN' : hc_N S E I p := fun a b => hN ⟨a, b⟩
      show hc_pp nx fa (S p) (E p) (I p) (if I p = true ∧ S p = E p then [] else ch (S p))
      rw [if_neg hN]
      exact (hL.1 p hp hN').1
  · intro i j hi hj hij a ha hb
    obtain ⟨x, hx1, hx2⟩ := List.mem_flatMap.mp ha
    obtain ⟨y, hy1, hy2⟩ := List.mem_flatMap.mp hb
    obtain ⟨p, hpm, hN, hS⟩ := hst i hi x hx1
    obtain ⟨q, hqm, hNq, hSq⟩ := hst j hj y hy1
    have h9 := hL.2.1 p q a hpm hqm hN hNq (by rw [hS]; exact hx2) (by rw [hSq]; exact hy2)
    rw [hS, hSq] at h9
    rw [h9] at hx1
    exact hC.2 i j hi hj hij y hx1 hy1
  · intro i p hi hp hfp a ha hb
    obtain ⟨x, hx1, hx2⟩ := List.mem_flatMap.mp ha
    obtain ⟨q, hqm, hNq, hSq⟩ := hst i hi x hx1
    have hN := hdN p a hb
    have h9 := hL.2.1 q p a hqm hp hNq hN (by rw [hSq]; exact hx2) (hd p hp hN a hb)
    rw [hSq] at h9
    rw [h9] at hx1
    exact (hf p hp hN).mp hfp i hi hx1
  · intro p q hp hq hfp hfq hpq a ha hb
    have hN := hdN p a ha
    have hNq := hdN q a hb
    have h9 := hL.2.1 p q a hp hq hN hNq (hd p hp hN a ha) (hd q hq hNq a hb)
    exact hpq ((hB q hq hNq).2 p hp hN h9)
  · intro g hg
    obtain ⟨p, hpm, hN, hgm⟩ := hL.2.2 g hg
    by_cases hfp : f p = true
    · refine Or.inr ⟨p, hpm, hfp, ?_⟩
      show g ∈ (if I p = true ∧ S p = E p then [] else ch (S p))
      rw [if_neg (fun q => hN q.1 q.2)]
      exact hgm
    · have h9 : ¬ ∀ i, i < n → S p ∉ c i := fun q => hfp ((hf p hpm hN).mpr q)
      obtain ⟨i, h9⟩ := Classical.not_forall.mp h9
      obtain ⟨hi, h9⟩ := Classical.not_imp.mp h9
      exact Or.inl ⟨i, hi, List.mem_flatMap.mpr ⟨S p, Classical.not_not.mp h9, hgm⟩⟩
/-- the stretch at a leads by e now -/
def hc_we (nx : Nat → Option Nat) (a e e' : Nat) : Nat → Option Nat := fun g => if g = a then some e else if g = e then some e' else nx g
theorem hc_need (hB : hc_BG nil m S E I) (hH : hc_H nxH lgH m S E I) (h0 : hc_TR nxH lgH n S' E' I' m f S E I)
    (he : ∀ p i, p < m → hc_N S E I p → I p = true → i < n → I' i = true → E' i ≠ E p → E' i ≠ nil → nxH (E' i) = none → ∃ fa' : Nat → Bool, hc_TR (hc_we nxH (S p) (E' i) (E p)) fa' n S' E' I' m f S E I) :
    ∃ c, hc_CT nxH lgH nil n S' E' I' c ∧ ∀ p, p < m → hc_N S E I p → (f p = true ↔ ∀ i, i < n → S p ∉ c i) := by
  obtain ⟨c, d, hc, hd, hcc, hcd, hdd, hcov⟩ := h0
  have hdp : ∀ q, q < m → f q = true → ∀ x, x ∈ d q → x = S q ∧ hc_N S E I q := by
    intro q hq hfq x hx
    cases hI : I q with
    | false =>
      have h1 := ((hd q hq hfq).2 hI).1
      rw [h1] at hx
      exact ⟨List.mem_singleton.mp hx, fun h => (by rw [hI] at h; cases h)⟩
    | true =>
      have h1 := (hd q hq hfq).1 hI
      by_cases hSE : S q = E q
      · rw [hc_P_det _ [] _ h1 (hc_P_nil.mpr hSE)] at hx
        exact absurd hx List.not_mem_nil
      · have hN : hc_N S E I q := fun _ => hSE
        rw [hc_P_det _ [S q] _ h1 (hc_P_cons.mpr ⟨rfl, hSE, E q, (hH.1 q hq hN).1, hc_P_nil.mpr rfl⟩)] at hx
        exact ⟨List.mem_singleton.mp hx, hN⟩
  have hin : ∀ p, p < m → hc_N S E I p → f p = true → S p ∈ d p := by
    intro p hp hN hfp
    cases hI : I p with
    | false => rw [((hd p hp hfp).2 hI).1]; exact List.mem_cons_self
    | true => exact hc_P_head ((hd p hp hfp).1 hI) (hN hI)
  refine ⟨c, ⟨fun i hi => ⟨hc i hi, fun hI hlo a ha hlg => ?_⟩, hcc⟩, fun p hp hN => ⟨fun hfp i hi hm => hcd i p hi hp hfp _ hm (hin p hp hN hfp), fun hno => ?_⟩⟩
  · by_cases hae : nxH a = some (E' i)
    · exact hae
    exfalso
    obtain ⟨p, hpm, hN, hS⟩ := hH.2 a (hc_pp_cell (hc i hi) ha)
    obtain ⟨j1, j2⟩ := hH.1 p hpm hN
    rw [hS] at j1 j2
    have hIp : I p = true := by rw [← j2]; exact hlg
    have hne : E' i ≠ E p := fun q => hae (by rw [j1, q])
    obtain ⟨fa', c', d', hc', hd', hcc', hcd', hdd', hcov'⟩ := he p i hpm hN hIp hi hI hne hlo.1 hlo.2
    rw [hS] at hc' hd' hcov'
    have hea : E' i ≠ a := fun q => by rw [← q, hlo.2] at j1; cases j1
    have hwe : ∀ b, b ≠ a → nxH b ≠ none → hc_we nxH a (E' i) (E p) b = nxH b := fun b h1 h2 => by
      unfold hc_we
      rw [if_neg h1, if_neg (fun q => h2 (by rw [q]; exact hlo.2))]
    have hwa : hc_we nxH a (E' i) (E p) a = some (E' i) := if_pos rfl
    have hac' : a ∈ c' i := by
      obtain ⟨l', q1, q2⟩ := hc_P_cut hwe hwa _ _ ((hc i hi).1 hI) ha
      rw [hc_P_det _ _ _ ((hc' i hi).1 hI) q1]
      exact q2
    rcases hcov' (E' i) (by unfold hc_we; rw [if_neg hea, if_pos rfl]; exact fun q => nomatch q) with ⟨j, hj, hm⟩ | ⟨q, hq, hfq, hm⟩
    · cases hIj : I' j with
      | false =>
        rw [((hc' j hj).2 hIj).1] at hm
        have h1 := ((hc j hj).2 hIj).2.1
        rw [← List.mem_singleton.mp hm, hlo.2] at h1
        cases h1
      | true =>
        by_cases haj : a ∈ c j
        · have hij : i = j := by
            by_cases hij : i = j
            · exact hij
            · exact absurd haj (hcc i j hi hj hij a ha)
          rw [← hij] at hm
          exact (hc_P_ne _ _ ((hc' i hi).1 hI) _ hm).1 rfl
        · have h1 := (hc j hj).1 hIj
          have h2 : hc_P (hc_we nxH a (E' i) (E p)) (E' j) (c j) (S' j) := hc_P_congr _ _ h1 (fun b hb => hwe b (fun q => haj (by rw [← q]; exact hb)) (hc_P_ne _ _ h1 b hb).2)
          rw [hc_P_det _ _ _ ((hc' j hj).1 hIj) h2] at hm
          exact (hc_P_ne _ _ h1 _ hm).2 hlo.2
    · cases hIq : I q with
      | false =>
        rw [((hd' q hq hfq).2 hIq).1] at hm
        have h1 := (hH.1 q hq (fun h => (by rw [hIq] at h; cases h))).1
        rw [← List.mem_singleton.mp hm, hlo.2] at h1
        cases h1
      | true =>
        have h1 := (hd' q hq hfq).1 hIq
        by_cases hSE : S q = E q
        · rw [hc_P_det _ [] _ h1 (hc_P_nil.mpr hSE)] at hm
          exact absurd hm List.not_mem_nil
        · have hNq : hc_N S E I q := fun _ => hSE
          have h2 := (hH.1 q hq hNq).1
          by_cases hqa : S q = a
          · have h3 := hc_P_head h1 hSE
            rw [hqa] at h3
            exact hcd' i q hi hq hfq a hac' h3
          · rw [hc_P_det _ [S q] _ h1 (hc_P_cons.mpr ⟨rfl, hSE, E q, by rw [hwe _ hqa (by rw [h2]; exact fun q => nomatch q)]; exact h2, hc_P_nil.mpr rfl⟩)] at hm
            rw [← List.mem_singleton.mp hm, hlo.2] at h2
            cases h2
  · by_cases hfp : f p = true
    · exact hfp
    exfalso
    rcases hcov (S p) (by rw [(hH.1 p hp hN).1]; exact fun q => nomatch q) with ⟨i, hi, hm⟩ | ⟨q, hq, hfq, hm⟩
    · exact hno i hi hm
    · obtain ⟨h1, h2⟩ := hdp q hq hfq _ hm
      have h3 := (hB q hq h2).2 p hp hN h1
      rw [h3] at hfp
      exact hfp hfq
end CORE
end
section
/-! The ways in which lists can run through free addresses: the reference's search as a proposition. -/
def hc_nx : List (Nat × Nat × Bool) → Nat → Option Nat
  | [], _ => none
  | x :: l, g => if x.1 = g then some x.2.1 else hc_nx l g
def hc_fa : List (Nat × Nat × Bool) → Nat → Bool
  | [], _ => false
  | x :: l, g => if x.1 = g then x.2.2 else hc_fa l g
theorem hc_nx_none : ∀ (as : List (Nat × Nat × Bool)) (g : Nat), hc_nx as g = none → ∀ x, x ∈ as → x.1 ≠ g := by
  intro as
  induction as with
  | nil => intro g _ x hx; exact absurd hx List.not_mem_nil
  | cons y l ih =>
    intro g h x hx
    unfold hc_nx at h
    by_cases hy : y.1 = g
    · rw [if_pos hy] at h; cases h
    · rw [if_neg hy] at h
      rcases List.mem_cons.mp hx with hx | hx
      · rw [hx]; exact hy
      · exact ih g h x hx
theorem hc_nx_some : ∀ (as : List (Nat × Nat × Bool)) (g z : Nat), hc_nx as g = some z → ∃ x, x ∈ as ∧ x.1 = g ∧ x.2.1 = z ∧ hc_fa as g = x.2.2 := by
  intro as
  induction as with
  | nil => intro g z h; cases h
  | cons y l ih =>
    intro g z h
    unfold hc_nx at h
    by_cases hy : y.1 = g
    · rw [if_pos hy] at h
      injection h with h
      exact ⟨y, List.mem_cons_self, hy, h, by unfold hc_fa; rw [if_pos hy]⟩
    · rw [if_neg hy] at h
      obtain ⟨x, q1, q2, q3, q4⟩ := ih g z h
      exact ⟨x, List.mem_cons_of_mem _ q1, q2, q3, by unfold hc_fa; rw [if_neg hy]; exact q4⟩
/-- an address has one entry -/
def hc_fn (as : List (Nat × Nat × Bool)) : Prop := ∀ x y, x ∈ as → y ∈ as → x.1 = y.1 → x = y
theorem hc_nx_mem {as : List (Nat × Nat × Bool)} (hf : hc_fn as) {x : Nat × Nat × Bool} (hx : x ∈ as) : hc_nx as x.1 = some x.2.1 ∧ hc_fa as x.1 = x.2.2 := by
  cases h : hc_nx as x.1 with
  | none => exact absurd rfl (hc_nx_none as _ h x hx)
  | some z =>
    obtain ⟨y, q1, q2, q3, q4⟩ := hc_nx_some as _ _ h
    have h1 := hf y x q1 hx q2
    rw [h1] at q3 q4
    exact ⟨by rw [q3], q4⟩
theorem hc_nx_cons (x : Nat × Nat × Bool) (as : List (Nat × Nat × Bool)) (g : Nat) : hc_nx (x :: as) g = if x.1 = g then some x.2.1 else hc_nx as g := rfl
theorem hc_fa_cons (x : Nat × Nat × Bool) (as : List (Nat × Nat × Bool)) (g : Nat) : hc_fa (x :: as) g = if x.1 = g then x.2.2 else hc_fa as g := rfl
/-- some way from here: rem has the addresses whose next is still open, each with its list's end -/
def hc_Ex (fr : Nat → Prop) (L : List (Nat × Nat × Bool) → Prop) : Nat → List (Nat × Nat) → List (Nat × Nat × Bool) → Prop
  | 0, rem, as => rem = [] ∧ L as
  | _ + 1, [], as => L as
  | k + 1, r :: rs, as => ∃ b : Bool, hc_Ex fr L k rs ((r.1, r.2, b) :: as) ∨ ∃ g, fr g ∧ g ≠ r.2 ∧ g ≠ r.1 ∧ hc_nx as g = none ∧ hc_Ex fr L k ((g, r.2) :: rs) ((r.1, g, b) :: as)
theorem hc_Ex_nil {fr : Nat → Prop} {L : List (Nat × Nat × Bool) → Prop} {k : Nat} {as : List (Nat × Nat × Bool)} : hc_Ex fr L k [] as ↔ L as := by
  cases k with
  | zero => exact ⟨fun h => h.2, fun h => ⟨rfl, h⟩⟩
  | succ k => exact Iff.rfl
theorem hc_Ex_cons {fr : Nat → Prop} {L : List (Nat × Nat × Bool) → Prop} {k : Nat} {r : Nat × Nat} {rs : List (Nat × Nat)} {as : List (Nat × Nat × Bool)} :
    hc_Ex fr L (k + 1) (r :: rs) as ↔ ∃ b : Bool, hc_Ex fr L k rs ((r.1, r.2, b) :: as) ∨ ∃ g, fr g ∧ g ≠ r.2 ∧ g ≠ r.1 ∧ hc_nx as g = none ∧ hc_Ex fr L k ((g, r.2) :: rs) ((r.1, g, b) :: as) := Iff.rfl
theorem hc_PP_mono {nx nx' : Nat → Option Nat} {e x : Nat} (h : ∀ a, nx a ≠ none → nx' a = nx a) : ∀ (l : List Nat) (g : Nat), hc_PP nx e x l g → hc_PP nx' e x l g := by
  intro l
  induction l with
  | nil => intro g hp; exact hp
  | cons a l ih =>
    intro g hp
    obtain ⟨h1, h2, y, hy, hq⟩ := hp
    exact ⟨h1, h2, y, by rw [h g (by rw [hy]; exact fun q => nomatch q)]; exact hy, ih y hq⟩
theorem hc_PP_app {nx : Nat → Option Nat} {e x z : Nat} (hx : x ≠ e) (hz : nx x = some z) : ∀ (l : List Nat) (g : Nat), hc_PP nx e x l g → hc_PP nx e z (l ++ [x]) g := by
  intro l
  induction l with
  | nil => intro g hp; exact ⟨hp.symm, by rw [show g = x from hp]; exact hx, z, by rw [show g = x from hp]; exact hz, rfl⟩
  | cons a l ih =>
    intro g hp
    obtain ⟨h1, h2, y, hy, hq⟩ := hp
    exact ⟨h1, h2, y, hy, ih y hq⟩
section WAYS
variable {nil m : Nat} {S E : Nat → Nat} {I : Nat → Bool} {fr : Nat → Prop} {L : List (Nat × Nat × Bool) → Prop}
/-- how far the lists have come: pend has piece and address of the open ones, ch the addresses that each stretch has so far -/
def hc_J (m : Nat) (S E : Nat → Nat) (I : Nat → Bool) (fr : Nat → Prop) (pend : List (Nat × Nat)) (as : List (Nat × Nat × Bool)) (ch : Nat → List Nat) : Prop :=
  (pend.map (fun y => y.1)).Nodup ∧
  (∀ y, y ∈ pend → y.1 < m ∧ hc_N S E I y.1 ∧ I y.1 = true ∧ hc_PP (hc_nx as) (E y.1) y.2 (ch (S y.1)) (S y.1) ∧ y.2 ≠ E y.1 ∧ hc_nx as y.2 = none ∧ (y.2 = S y.1 ∨ fr y.2)) ∧
  (∀ y, y ∈ pend.tail → y.2 = S y.1) ∧
  (∀ p, p < m → hc_N S E I p → p ∉ pend.map (fun y => y.1) → hc_pp (hc_nx as) (hc_fa as) (S p) (E p) (I p) (ch (S p))) ∧
  (∀ p, p < m → hc_N S E I p → ∀ a, a ∈ ch (S p) → (a = S p ∨ fr a) ∧ hc_nx as a ≠ none) ∧
  (∀ p q x, p < m → q < m → hc_N S E I p → hc_N S E I q → x ∈ ch (S p) → x ∈ ch (S q) → S p = S q) ∧
  ∀ g, hc_nx as g ≠ none → ∃ p, p < m ∧ hc_N S E I p ∧ g ∈ ch (S p)
/-- the head's address gets its next z -/
theorem hc_J_step (hB : hc_BG nil m S E I) (hfr : ∀ a, fr a → ∀ p, p < m → hc_N S E I p → S p ≠ a) {y : Nat × Nat} {ys : List (Nat × Nat)} {as : List (Nat × Nat × Bool)} {ch : Nat → List Nat} (hJ : hc_J m S E I fr (y :: ys) as ch) (z : Nat) (b : Bool)
    (pend : List (Nat × Nat)) (hpend : (z = E y.1 ∧ pend = ys) ∨ (pend = (y.1, z) :: ys ∧ fr z ∧ z ≠ E y.1 ∧ z ≠ y.2 ∧ hc_nx as z = none)) :
    hc_J m S E I fr pend ((y.2, z, b) :: as) (fun a => if a = S y.1 then ch (S y.1) ++ [y.2] else ch a) := by
  obtain ⟨j1, j2, j3, j4, j5, j6, j7⟩ := hJ
  obtain ⟨hym, hyN, hyI, hyP, hyE, hyn, hyf⟩ := j2 y List.mem_cons_self
  have hmono : ∀ a, hc_nx as a ≠ none → hc_nx ((y.2, z, b) :: as) a = hc_nx as a := fun a ha => by
    rw [hc_nx_cons, if_neg (fun q => ha (by rw [← q]; exact hyn))]
  have hnew : hc_nx ((y.2, z, b) :: as) y.2 = some z := by rw [hc_nx_cons, if_pos rfl]
  have hxS : ∀ p, p < m → hc_N S E I p → ∀ a, a ∈ ch (S p) → a ≠ y.2 := fun p hp hN a ha q => (j5 p hp hN a ha).2 (by rw [q]; exact hyn)
  have hSi : ∀ p, p < m → hc_N S E I p → S p = S y.1 → p = y.1 := fun p hp hN h => (hB y.1 hym hyN).2 p hp hN h
  have hPz : hc_PP (hc_nx ((y.2, z, b) :: as)) (E y.1) z (ch (S y.1) ++ [y.2]) (S y.1) := hc_PP_app hyE hnew _ _ (hc_PP_mono hmono _ _ hyP)
  have j1c := List.nodup_cons.mp (show (y.1 :: ys.map (fun y => y.1)).Nodup from j1)
  have hys : ∀ w, w ∈ ys → w.1 ≠ y.1 := fun w hw q => j1c.1 (by rw [← q]; exact List.mem_map.mpr ⟨w, hw, rfl⟩)
  have hold : ∀ w, w ∈ ys → w.1 < m ∧ hc_N S E I w.1 ∧ I w.1 = true ∧ hc_PP (hc_nx ((y.2, z, b) :: as)) (E w.1) w.2 (if S w.1 = S y.1 then ch (S y.1) ++ [y.2] else ch (S w.1)) (S w.1) ∧ w.2 ≠ E w.1 ∧ hc_nx ((y.2, z, b) :: as) w.2 = none ∧ (w.2 = S w.1 ∨ fr w.2) := by
    intro w hw
    obtain ⟨a1, a2, a3, a4, a5, a6, a7⟩ := j2 w (List.mem_cons_of_mem _ hw)
    have hne : S w.1 ≠ S y.1 := fun q => hys w hw (hSi w.1 a1 a2 q)
    refine ⟨a1, a2, a3, by rw [if_neg hne]; exact hc_PP_mono hmono _ _ a4, a5, ?_, a7⟩
    rw [hc_nx_cons, if_neg]
    · exact a6
    · intro q
      have hw2 : w.2 = S w.1 := j3 w hw
      have q' : y.2 = S w.1 := by rw [← hw2]; exact q
      rcases hyf with h | h
      · exact hne (q'.symm.trans h)
      · exact hfr _ h w.1 a1 a2 q'.symm
  have hdone : ∀ p, p < m → hc_N S E I p → p ≠ y.1 → p ∉ ys.map (fun y => y.1) → hc_pp (hc_nx ((y.2, z, b) :: as)) (hc_fa ((y.2, z, b) :: as)) (S p) (E p) (I p) (if S p = S y.1 then ch (S y.1) ++ [y.2] else ch (S p)) := by
    intro p hp hN hpy hpn
    have hne : S p ≠ S y.1 := fun q => hpy (hSi p hp hN q)
    rw [if_neg hne]
    have h1 := j4 p hp hN (fun q => by
      rcases List.mem_cons.mp (show p ∈ y.1 :: ys.map (fun y => y.1) from q) with q | q
      · exact hpy q
      · exact hpn q)
    refine ⟨fun hI => hc_PP_mono hmono _ _ (h1.1 hI), fun hI => ?_⟩
    obtain ⟨a1, a2, a3⟩ := h1.2 hI
    refine ⟨a1, by rw [hmono _ (by rw [a2]; exact fun q => nomatch q)]; exact a2, ?_⟩
    rw [hc_fa_cons, if_neg]
    · exact a3
    · exact fun q => hxS p hp hN (S p) (by rw [a1]; exact List.mem_cons_self) q.symm
  have h5 : ∀ p, p < m → hc_N S E I p → ∀ a, a ∈ (if S p = S y.1 then ch (S y.1) ++ [y.2] else ch (S p)) → (a = S p ∨ fr a) ∧ hc_nx ((y.2, z, b) :: as) a ≠ none := by
    intro p hp hN a ha
    have hk : ∀ q, q < m → hc_N S E I q → a ∈ ch (S q) → hc_nx ((y.2, z, b) :: as) a ≠ none := fun q hq hNq h => by rw [hmono _ (j5 q hq hNq a h).2]; exact (j5 q hq hNq a h).2
    by_cases hS : S p = S y.1
    · rw [if_pos hS] at ha
      rcases List.mem_append.mp ha with ha | ha
      · refine ⟨?_, hk y.1 hym hyN ha⟩
        rw [hS]
        exact (j5 y.1 hym hyN a ha).1
      · rw [List.mem_singleton.mp ha]
        refine ⟨by rw [hS]; exact hyf, by rw [hnew]; exact fun q => nomatch q⟩
    · rw [if_neg hS] at ha
      exact ⟨(j5 p hp hN a ha).1, hk p hp hN ha⟩
  have hsub : ∀ p, p < m → hc_N S E I p → ∀ a, a ∈ (if S p = S y.1 then ch (S y.1) ++ [y.2] else ch (S p)) → a ∈ ch (S p) ∨ (a = y.2 ∧ S p = S y.1) := by
    intro p hp hN a ha
    by_cases hS : S p = S y.1
    · rw [if_pos hS] at ha
      rcases List.mem_append.mp ha with ha | ha
      · exact Or.inl (by rw [hS]; exact ha)
      · exact Or.inr ⟨List.mem_singleton.mp ha, hS⟩
    · rw [if_neg hS] at ha
      exact Or.inl ha
  have h6 : ∀ p q x, p < m → q < m → hc_N S E I p → hc_N S E I q → x ∈ (if S p = S y.1 then ch (S y.1) ++ [y.2] else ch (S p)) → x ∈ (if S q = S y.1 then ch (S y.1) ++ [y.2] else ch (S q)) → S p = S q := by
    intro p q x hp hq hN hNq h1 h2
    rcases hsub p hp hN x h1 with a1 | ⟨a1, a2⟩
    · rcases hsub q hq hNq x h2 with b1 | ⟨b1, b2⟩
      · exact j6 p q x hp hq hN hNq a1 b1
      · exact absurd b1 (hxS p hp hN x a1)
    · rcases hsub q hq hNq x h2 with b1 | ⟨b1, b2⟩
      · exact absurd a1 (hxS q hq hNq x b1)
      · exact a2.trans b2.symm
  have h7 : ∀ g, hc_nx ((y.2, z, b) :: as) g ≠ none → ∃ p, p < m ∧ hc_N S E I p ∧ g ∈ (if S p = S y.1 then ch (S y.1) ++ [y.2] else ch (S p)) := by
    intro g hg
    by_cases hgy : y.2 = g
    · exact ⟨y.1, hym, hyN, by rw [if_pos rfl, ← hgy]; exact List.mem_append.mpr (Or.inr List.mem_cons_self)⟩
    · rw [hc_nx_cons, if_neg hgy] at hg
      obtain ⟨p, a1, a2, a3⟩ := j7 g hg
      refine ⟨p, a1, a2, ?_⟩
      by_cases hS : S p = S y.1
      · rw [if_pos hS]
        rw [hS] at a3
        exact List.mem_append.mpr (Or.inl a3)
      · rw [if_neg hS]; exact a3
  rcases hpend with ⟨rfl, rfl⟩ | ⟨rfl, hz1, hz2, hz3, hz4⟩
  · refine ⟨j1c.2, hold, fun w hw => j3 w (List.mem_of_mem_tail hw), fun p hp hN hpn => ?_, h5, h6, h7⟩
    by_cases hpy : p = y.1
    · rw [hpy]
      refine ⟨fun _ => ?_, fun h => (by rw [hyI] at h; cases h)⟩
      show hc_PP _ _ _ (if S y.1 = S y.1 then ch (S y.1) ++ [y.2] else ch (S y.1)) _
      rw [if_pos rfl]
      exact hPz
    · exact hdone p hp hN hpy hpn
  · refine ⟨List.nodup_cons.mpr j1c, fun w hw => ?_, fun w hw => j3 w hw, fun p hp hN hpn => ?_, h5, h6, h7⟩
    · rcases List.mem_cons.mp hw with hw | hw
      · rw [hw]
        refine ⟨hym, hyN, hyI, ?_, hz2, ?_, Or.inr hz1⟩
        · show hc_PP _ _ _ (if S y.1 = S y.1 then ch (S y.1) ++ [y.2] else ch (S y.1)) _
          rw [if_pos rfl]
          exact hPz
        · show hc_nx ((y.2, z, b) :: as) z = none
          rw [hc_nx_cons, if_neg (fun q => hz3 q.symm)]
          exact hz4
      · exact hold w hw
    · exact hdone p hp hN (fun q => hpn (by rw [q]; exact List.mem_cons_self)) (fun q => hpn (List.mem_cons_of_mem _ q))
/-- what the search finds is a state that the pieces make -/
theorem hc_leaf (hB : hc_BG nil m S E I) (hfr : ∀ a, fr a → ∀ p, p < m → hc_N S E I p → S p ≠ a) : ∀ (k : Nat) (pend : List (Nat × Nat)) (as : List (Nat × Nat × Bool)) (ch : Nat → List Nat),
    hc_J m S E I fr pend as ch → hc_Ex fr L k (pend.map (fun y => (y.2, E y.1))) as → ∃ as' ch', L as' ∧ hc_Lf m S E I fr (hc_nx as') (hc_fa as') ch' := by
  intro k
  induction k with
  | zero =>
    intro pend as ch hJ h
    cases pend with
    | nil =>
      obtain ⟨-, -, -, j4, j5, j6, j7⟩ := hJ
      exact ⟨as, ch, hc_Ex_nil.mp h, fun p hp hN => ⟨j4 p hp hN (fun q => absurd q List.not_mem_nil), fun a ha => (j5 p hp hN a ha).1⟩, j6, j7⟩
    | cons y ys => exact absurd h.1 (fun q => nomatch q)
  | succ k ih =>
    intro pend as ch hJ h
    cases pend with
    | nil =>
      obtain ⟨-, -, -, j4, j5, j6, j7⟩ := hJ
      exact ⟨as, ch, hc_Ex_nil.mp h, fun p hp hN => ⟨j4 p hp hN (fun q => absurd q List.not_mem_nil), fun a ha => (j5 p hp hN a ha).1⟩, j6, j7⟩
    | cons y ys =>
      obtain ⟨b, h | ⟨g, g1, g2, g3, g4, h⟩⟩ := hc_Ex_cons.mp h
      · exact ih ys _ _ (hc_J_step hB hfr hJ (E y.1) b ys (Or.inl ⟨rfl, rfl⟩)) h
      · exact ih ((y.1, g) :: ys) _ _ (hc_J_step hB hfr hJ g b ((y.1, g) :: ys) (Or.inr ⟨rfl, g1, g2, g3, g4⟩)) h
/-- all open lists run long and straight to their ends -/
def hc_fin : List (Nat × Nat) → List (Nat × Nat × Bool) → List (Nat × Nat × Bool)
  | [], as => as
  | r :: rs, as => hc_fin rs ((r.1, r.2, true) :: as)
theorem hc_fin_mem : ∀ (rem : List (Nat × Nat)) (as : List (Nat × Nat × Bool)) (x : Nat × Nat × Bool), x ∈ hc_fin rem as ↔ x ∈ as ∨ ∃ r, r ∈ rem ∧ x = (r.1, r.2, true) := by
  intro rem
  induction rem with
  | nil => intro as x; exact ⟨fun h => Or.inl h, fun h => h.elim id (fun ⟨r, h, _⟩ => absurd h List.not_mem_nil)⟩
  | cons r rs ih =>
    intro as x
    show x ∈ hc_fin rs _ ↔ _
    rw [ih]
    constructor
    · rintro (h | ⟨q, h1, h2⟩)
      · rcases List.mem_cons.mp h with h | h
        · exact Or.inr ⟨r, List.mem_cons_self, h⟩
        · exact Or.inl h
      · exact Or.inr ⟨q, List.mem_cons_of_mem _ h1, h2⟩
    · rintro (h | ⟨q, h1, h2⟩)
      · exact Or.inl (List.mem_cons_of_mem _ h)
      · rcases List.mem_cons.mp h1 with h1 | h1
        · exact Or.inl (by rw [h2, h1]; exact List.mem_cons_self)
        · exact Or.inr ⟨q, h1, h2⟩
theorem hc_Ex_fin : ∀ (rem : List (Nat × Nat)) (k : Nat) (as : List (Nat × Nat × Bool)), rem.length ≤ k → L (hc_fin rem as) → hc_Ex fr L k rem as := by
  intro rem
  induction rem with
  | nil => intro k as _ h; exact hc_Ex_nil.mpr h
  | cons r rs ih =>
    intro k as hk h
    cases k with
    | zero => simp at hk
    | succ k => exact hc_Ex_cons.mpr ⟨true, Or.inl (ih k _ (by simp only [List.length_cons] at hk; omega) h)⟩
theorem hc_Ex_via {a e' e : Nat} {r2 : List (Nat × Nat)} (he : fr e) (h1 : e ≠ e') (h2 : e ≠ a) : ∀ (r1 : List (Nat × Nat)) (k : Nat) (as : List (Nat × Nat × Bool)), (r1 ++ (a, e') :: r2).length + 1 ≤ k → hc_nx (hc_fin r1 as) e = none →
    L (hc_fin r2 ((e, e', true) :: (a, e, true) :: hc_fin r1 as)) → hc_Ex fr L k (r1 ++ (a, e') :: r2) as := by
  intro r1
  induction r1 with
  | nil =>
    intro k as hk hn h
    simp only [List.nil_append, List.length_cons] at hk
    obtain ⟨k, rfl⟩ : ∃ j, k = j + 2 := ⟨k - 2, by omega⟩
    refine hc_Ex_cons.mpr ⟨true, Or.inr ⟨e, he, h1, h2, hn, ?_⟩⟩
    exact hc_Ex_cons.mpr ⟨true, Or.inl (hc_Ex_fin r2 k _ (by omega) h)⟩
  | cons r rs ih =>
    intro k as hk hn h
    simp only [List.cons_append, List.length_cons] at hk
    cases k with
    | zero => omega
    | succ k => exact hc_Ex_cons.mpr ⟨true, Or.inl (ih k _ (by omega) hn h)⟩
end WAYS
end
section
/-! The search over all ways against one look at the long stretches. -/
section LISTS
variable {S E : Nat → Nat} {I : Nat → Bool}
/-- places of the lists with cells among q .. q + k - 1 -/
def hc_ls (S E : Nat → Nat) (I : Nat → Bool) : Nat → Nat → List Nat
  | _, 0 => []
  | q, k + 1 => if I q = true ∧ S q ≠ E q then q :: hc_ls S E I (q + 1) k else hc_ls S E I (q + 1) k
theorem hc_ls_mem : ∀ (k q p : Nat), p ∈ hc_ls S E I q k ↔ q ≤ p ∧ p < q + k ∧ I p = true ∧ S p ≠ E p := by
  intro k
  induction k with
  | zero => intro q p; exact ⟨fun h => absurd h List.not_mem_nil, fun h => by omega⟩
  | succ k ih =>
    intro q p
    unfold hc_ls
    by_cases hq : I q = true ∧ S q ≠ E q
    · rw [if_pos hq, List.mem_cons, ih]
      constructor
      · rintro (h | ⟨h1, h2, h3⟩)
        · rw [h]; exact ⟨Nat.le_refl _, by omega, hq⟩
        · exact ⟨by omega, by omega, h3⟩
      · rintro ⟨h1, h2, h3⟩
        by_cases hpq : p = q
        · exact Or.inl hpq
        · exact Or.inr ⟨by omega, by omega, h3⟩
    · rw [if_neg hq, ih]
      constructor
      · rintro ⟨h1, h2, h3⟩
        exact ⟨by omega, by omega, h3⟩
      · rintro ⟨h1, h2, h3⟩
        have hpq : p ≠ q := fun h => hq (by rw [← h]; exact h3)
        exact ⟨by omega, by omega, h3⟩
theorem hc_ls_nodup : ∀ (k q : Nat), (hc_ls S E I q k).Nodup := by
  intro k
  induction k with
  | zero => intro q; exact List.nodup_nil
  | succ k ih =>
    intro q
    unfold hc_ls
    by_cases hq : I q = true ∧ S q ≠ E q
    · rw [if_pos hq]
      exact List.nodup_cons.mpr ⟨fun h => by have := ((hc_ls_mem k (q + 1) q).mp h).1; omega, ih (q + 1)⟩
    · rw [if_neg hq]; exact ih (q + 1)
theorem hc_ls_len : ∀ (k q : Nat), (hc_ls S E I q k).length ≤ k := by
  intro k
  induction k with
  | zero => intro q; exact Nat.le_refl _
  | succ k ih =>
    intro q
    unfold hc_ls
    by_cases hq : I q = true ∧ S q ≠ E q
    · rw [if_pos hq, List.length_cons]; have := ih (q + 1); omega
    · rw [if_neg hq]; have := ih (q + 1); omega
/-- CELL pieces have their cell from the start -/
def hc_as0 (S E : Nat → Nat) (I : Nat → Bool) : Nat → List (Nat × Nat × Bool)
  | 0 => []
  | p + 1 => if I p = false then (S p, E p, false) :: hc_as0 S E I p else hc_as0 S E I p
theorem hc_as0_mem : ∀ (m : Nat) (x : Nat × Nat × Bool), x ∈ hc_as0 S E I m ↔ ∃ p, p < m ∧ I p = false ∧ x = (S p, E p, false) := by
  intro m
  induction m with
  | zero => intro x; exact ⟨fun h => absurd h List.not_mem_nil, fun ⟨p, h, _⟩ => absurd h (Nat.not_lt_zero _)⟩
  | succ m ih =>
    intro x
    unfold hc_as0
    by_cases hm : I m = false
    · rw [if_pos hm, List.mem_cons, ih]
      constructor
      · rintro (h | ⟨p, h1, h2⟩)
        · exact ⟨m, Nat.lt_succ_self _, hm, h⟩
        · exact ⟨p, by omega, h2⟩
      · rintro ⟨p, h1, h2, h3⟩
        by_cases hpm : p = m
        · rw [hpm] at h3; exact Or.inl h3
        · exact Or.inr ⟨p, by omega, h2, h3⟩
    · rw [if_neg hm, ih]
      constructor
      · rintro ⟨p, h1, h2⟩; exact ⟨p, by omega, h2⟩
      · rintro ⟨p, h1, h2, h3⟩
        have hpm : p ≠ m := fun h => hm (by rw [← h]; exact h2)
        exact ⟨p, by omega, h2, h3⟩
def hc_rem (S E : Nat → Nat) (I : Nat → Bool) (q k : Nat) : List (Nat × Nat) := (hc_ls S E I q k).map (fun p => (S p, E p))
theorem hc_fin_app : ∀ (r1 r2 : List (Nat × Nat)) (as : List (Nat × Nat × Bool)), hc_fin (r1 ++ r2) as = hc_fin r2 (hc_fin r1 as) := by
  intro r1
  induction r1 with
  | nil => intro r2 as; rfl
  | cons r rs ih => intro r2 as; exact ih r2 _
theorem hc_nx_fin_out : ∀ (r2 : List (Nat × Nat)) (Y : List (Nat × Nat × Bool)) (g : Nat), (∀ r, r ∈ r2 → r.1 ≠ g) → hc_nx (hc_fin r2 Y) g = hc_nx Y g := by
  intro r2
  induction r2 with
  | nil => intro Y g _; rfl
  | cons r rs ih =>
    intro Y g h
    show hc_nx (hc_fin rs _) g = _
    rw [ih _ g (fun q hq => h q (List.mem_cons_of_mem _ hq)), hc_nx_cons, if_neg (h r List.mem_cons_self)]
theorem hc_nx_fin_in : ∀ (r2 : List (Nat × Nat)) (Y Y' : List (Nat × Nat × Bool)) (g : Nat), (∃ r, r ∈ r2 ∧ r.1 = g) → hc_nx (hc_fin r2 Y) g = hc_nx (hc_fin r2 Y') g := by
  intro r2
  induction r2 with
  | nil => intro Y Y' g ⟨r, h, _⟩; exact absurd h List.not_mem_nil
  | cons r rs ih =>
    intro Y Y' g ⟨q, hq, hg⟩
    show hc_nx (hc_fin rs _) g = hc_nx (hc_fin rs _) g
    by_cases h : ∃ r, r ∈ rs ∧ r.1 = g
    · exact ih _ _ g h
    · have h' : ∀ r, r ∈ rs → r.1 ≠ g := fun r hr hg => h ⟨r, hr, hg⟩
      rw [hc_nx_fin_out rs _ g h', hc_nx_fin_out rs _ g h']
      rcases List.mem_cons.mp hq with hq | hq
      · rw [hq] at hg
        rw [hc_nx_cons, hc_nx_cons, if_pos hg, if_pos hg]
      · exact absurd hg (h' q hq)
end LISTS
section MAIN
variable {nil m n : Nat} {S E S' E' : Nat → Nat} {I I' : Nat → Bool} {nxH : Nat → Option Nat} {lgH : Nat → Bool} {f : Nat → Bool} {fr : Nat → Prop} {L : List (Nat × Nat × Bool) → Prop}
/-- the longest state: no list runs through a free address -/
def hc_w0 (S E : Nat → Nat) (I : Nat → Bool) (m : Nat) : List (Nat × Nat × Bool) := hc_fin (hc_rem S E I 0 m) (hc_as0 S E I m)
theorem hc_w0_mem (x : Nat × Nat × Bool) : x ∈ hc_w0 S E I m ↔ ∃ p, p < m ∧ hc_N S E I p ∧ x = (S p, E p, I p) := by
  unfold hc_w0
  rw [hc_fin_mem, hc_as0_mem]
  constructor
  · rintro (⟨p, h1, h2, h3⟩ | ⟨r, h1, h2⟩)
    · exact ⟨p, h1, fun h => (by rw [h2] at h; cases h), by rw [h2]; exact h3⟩
    · obtain ⟨p, h3, h4⟩ := List.mem_map.mp h1
      obtain ⟨-, h5, h6, h7⟩ := (hc_ls_mem _ _ _).mp h3
      exact ⟨p, by omega, fun _ => h7, by rw [h2, ← h4, h6]⟩
  · rintro ⟨p, h1, h2, h3⟩
    cases hI : I p with
    | false => exact Or.inl ⟨p, h1, hI, by rw [h3, hI]⟩
    | true => exact Or.inr ⟨(S p, E p), List.mem_map.mpr ⟨p, (hc_ls_mem _ _ _).mpr ⟨Nat.zero_le _, by omega, hI, h2 hI⟩, rfl⟩, by rw [h3, hI]⟩
theorem hc_w0_fn (hB : hc_BG nil m S E I) : hc_fn (hc_w0 S E I m) := by
  intro x y hx hy hxy
  obtain ⟨p, h1, h2, h3⟩ := (hc_w0_mem x).mp hx
  obtain ⟨q, k1, k2, k3⟩ := (hc_w0_mem y).mp hy
  rw [h3, k3] at hxy
  have hpq := (hB q k1 k2).2 p h1 h2 hxy
  rw [h3, k3, hpq]
theorem hc_w0_H (hB : hc_BG nil m S E I) : hc_H (hc_nx (hc_w0 S E I m)) (hc_fa (hc_w0 S E I m)) m S E I := by
  refine ⟨fun p hp hN => ?_, fun g hg => ?_⟩
  · exact hc_nx_mem (hc_w0_fn hB) ((hc_w0_mem (S p, E p, I p)).mpr ⟨p, hp, hN, rfl⟩)
  · cases h : hc_nx (hc_w0 S E I m) g with
    | none => exact absurd h hg
    | some z =>
      obtain ⟨x, h1, h2, -, -⟩ := hc_nx_some _ _ _ h
      obtain ⟨p, k1, k2, k3⟩ := (hc_w0_mem x).mp h1
      exact ⟨p, k1, k2, by rw [← h2, k3]⟩
theorem hc_H_same {nx' : Nat → Option Nat} {lg' : Nat → Bool} (hH : hc_H nxH lgH m S E I) (hH' : hc_H nx' lg' m S E I) : (∀ g, nxH g = nx' g) ∧ ∀ g, nxH g ≠ none → lgH g = lg' g := by
  refine ⟨fun g => ?_, fun g hg => ?_⟩
  · by_cases h : nxH g = none
    · by_cases h' : nx' g = none
      · rw [h, h']
      · obtain ⟨p, h1, h2, h3⟩ := hH'.2 g h'
        rw [← h3, (hH.1 p h1 h2).1] at h
        cases h
    · obtain ⟨p, h1, h2, h3⟩ := hH.2 g h
      rw [← h3, (hH.1 p h1 h2).1, (hH'.1 p h1 h2).1]
  · obtain ⟨p, h1, h2, h3⟩ := hH.2 g hg
    rw [← h3, (hH.1 p h1 h2).2, (hH'.1 p h1 h2).2]
theorem hc_CT_congr {nx' : Nat → Option Nat} {lg' : Nat → Bool} {c : Nat → List Nat} (h1 : ∀ g, nxH g = nx' g) (h2 : ∀ g, nxH g ≠ none → lgH g = lg' g) (h : hc_CT nxH lgH nil n S' E' I' c) : hc_CT nx' lg' nil n S' E' I' c := by
  have hnx : nxH = nx' := funext h1
  subst hnx
  refine ⟨fun i hi => ?_, h.2⟩
  obtain ⟨⟨a1, a2⟩, a3⟩ := h.1 i hi
  refine ⟨⟨a1, fun hI => ?_⟩, fun hI hlo a ha hlg => a3 hI hlo a ha (by rw [h2 a (hc_pp_cell ⟨a1, a2⟩ ha)]; exact hlg)⟩
  obtain ⟨b1, b2, b3⟩ := a2 hI
  exact ⟨b1, b2, by rw [← h2 _ (by rw [b2]; exact fun q => nomatch q)]; exact b3⟩
/-- how the search begins -/
theorem hc_J0 (hB : hc_BG nil m S E I) : hc_J m S E I fr ((hc_ls S E I 0 m).map (fun p => (p, S p))) (hc_as0 S E I m) (fun a => if hc_nx (hc_as0 S E I m) a = none then [] else [a]) := by
  have hfn : hc_fn (hc_as0 S E I m) := by
    intro x y hx hy hxy
    obtain ⟨p, h1, h2, h3⟩ := (hc_as0_mem _ x).mp hx
    obtain ⟨q, k1, k2, k3⟩ := (hc_as0_mem _ y).mp hy
    rw [h3, k3] at hxy
    have hpq := (hB q k1 (fun h => (by rw [k2] at h; cases h))).2 p h1 (fun h => (by rw [h2] at h; cases h)) hxy
    rw [h3, k3, hpq]
  have hkey : ∀ g, hc_nx (hc_as0 S E I m) g ≠ none → ∃ p, p < m ∧ I p = false ∧ S p = g := fun g hg => by
    cases h : hc_nx (hc_as0 S E I m) g with
    | none => exact absurd h hg
    | some z =>
      obtain ⟨x, h1, h2, -, -⟩ := hc_nx_some _ _ _ h
      obtain ⟨p, k1, k2, k3⟩ := (hc_as0_mem _ x).mp h1
      exact ⟨p, k1, k2, by rw [← h2, k3]⟩
  have hli : ∀ p, p < m → hc_N S E I p → I p = true → hc_nx (hc_as0 S E I m) (S p) = none := by
    intro p hp hN hI
    by_cases h : hc_nx (hc_as0 S E I m) (S p) = none
    · exact h
    · obtain ⟨q, h1, h2, h3⟩ := hkey _ h
      have hqp := (hB p hp hN).2 q h1 (fun h => (by rw [h2] at h; cases h)) h3
      rw [hqp, hI] at h2
      cases h2
  refine ⟨?_, ?_, ?_, ?_, ?_, ?_, ?_⟩
  · rw [List.map_map]
    show ((hc_ls S E I 0 m).map (fun p => p)).Nodup
    rw [List.map_id']
    exact hc_ls_nodup m 0
  · intro y hy
    obtain ⟨p, h1, h2⟩ := List.mem_map.mp hy
    obtain ⟨-, h3, h4, h5⟩ := (hc_ls_mem _ _ _).mp h1
    rw [← h2]
    have hn := hli p (by omega) (fun _ => h5) h4
    refine ⟨by show p < m; omega, fun _ => h5, h4, ?_, h5, hn, Or.inl rfl⟩
    show hc_PP _ _ (S p) (if hc_nx (hc_as0 S E I m) (S p) = none then [] else [S p]) (S p)
    rw [if_pos hn]
    rfl
  · intro y hy
    obtain ⟨p, h1, h2⟩ := List.mem_map.mp (List.mem_of_mem_tail hy)
    rw [← h2]
  · intro p hp hN hpn
    have hI : I p = false := by
      cases hI : I p with
      | false => rfl
      | true => exact absurd (List.mem_map.mpr ⟨(p, S p), List.mem_map.mpr ⟨p, (hc_ls_mem _ _ _).mpr ⟨Nat.zero_le _, by omega, hI, hN hI⟩, rfl⟩, rfl⟩) hpn
    obtain ⟨a1, a2⟩ := hc_nx_mem hfn ((hc_as0_mem m (S p, E p, false)).mpr ⟨p, hp, hI, rfl⟩)
    refine ⟨fun h => (by rw [hI] at h; cases h), fun _ => ⟨?_, a1, a2⟩⟩
    show (if hc_nx (hc_as0 S E I m) (S p) = none then [] else [S p]) = [S p]
    rw [if_neg (by show ¬ hc_nx _ (S p, E p, false).1 = none; rw [a1]; exact fun q => nomatch q)]
  · intro p hp hN a ha
    by_cases h : hc_nx (hc_as0 S E I m) (S p) = none
    · simp only [h, if_true] at ha
      exact absurd ha List.not_mem_nil
    · simp only [h, if_false] at ha
      rw [List.mem_singleton.mp ha]
      exact ⟨Or.inl rfl, h⟩
  · intro p q x hp hq hN hNq h1 h2
    have hx : ∀ s : Nat, x ∈ (if hc_nx (hc_as0 S E I m) s = none then [] else [s]) → x = s := fun s h => by
      by_cases h9 : hc_nx (hc_as0 S E I m) s = none
      · rw [if_pos h9] at h; exact absurd h List.not_mem_nil
      · rw [if_neg h9] at h; exact List.mem_singleton.mp h
    exact (hx _ h1).symm.trans (hx _ h2)
  · intro g hg
    obtain ⟨p, h1, h2, h3⟩ := hkey g hg
    refine ⟨p, h1, fun h => (by rw [h2] at h; cases h), ?_⟩
    rw [h3]
    show g ∈ (if hc_nx (hc_as0 S E I m) g = none then [] else [g])
    rw [if_neg hg]
    exact List.mem_cons_self
theorem hc_leaf0 (hB : hc_BG nil m S E I) (hfr : ∀ a, fr a → ∀ p, p < m → hc_N S E I p → S p ≠ a) {k : Nat} (h : hc_Ex fr L k (hc_rem S E I 0 m) (hc_as0 S E I m)) : ∃ as' ch', L as' ∧ hc_Lf m S E I fr (hc_nx as') (hc_fa as') ch' := by
  refine hc_leaf hB hfr k ((hc_ls S E I 0 m).map (fun p => (p, S p))) (hc_as0 S E I m) _ (hc_J0 hB) ?_
  rw [List.map_map]
  exact h
theorem hc_Ex_w0 {k : Nat} (hk : m ≤ k) (h : L (hc_w0 S E I m)) : hc_Ex fr L k (hc_rem S E I 0 m) (hc_as0 S E I m) :=
  hc_Ex_fin _ k _ (by unfold hc_rem; rw [List.length_map]; exact Nat.le_trans (hc_ls_len m 0) hk) h
/-- a question that the way doesn't matter to -/
theorem hc_Ex_const (hB : hc_BG nil m S E I) (hfr : ∀ a, fr a → ∀ p, p < m → hc_N S E I p → S p ≠ a) {k : Nat} (hk : m ≤ k) {c : Prop} : hc_Ex fr (fun _ => c) k (hc_rem S E I 0 m) (hc_as0 S E I m) ↔ c := by
  refine ⟨fun h => ?_, fun h => hc_Ex_w0 hk h⟩
  obtain ⟨_, _, h, _⟩ := hc_leaf0 hB hfr h
  exact h
theorem hc_Ex_filled (hB : hc_BG nil m S E I) (hfr : ∀ a, fr a → ∀ p, p < m → hc_N S E I p → S p ≠ a) {k : Nat} (hk : m ≤ k) {x : Nat} :
    hc_Ex fr (fun as => hc_nx as x = none) k (hc_rem S E I 0 m) (hc_as0 S E I m) ↔ ∀ p, p < m → hc_N S E I p → S p ≠ x := by
  refine ⟨fun h p hp hN hSx => ?_, fun h => hc_Ex_w0 hk ?_⟩
  · obtain ⟨as', ch', h1, h2⟩ := hc_leaf0 hB hfr h
    have h3 := (h2.1 p hp hN).1
    rw [← hSx] at h1
    cases hI : I p with
    | false => rw [(h3.2 hI).2.1] at h1; cases h1
    | true => exact (hc_P_ne _ _ (h3.1 hI) (S p) (hc_P_head (h3.1 hI) (hN hI))).2 h1
  · by_cases h9 : hc_nx (hc_w0 S E I m) x = none
    · exact h9
    · obtain ⟨p, h1, h2, h3⟩ := (hc_w0_H hB).2 x h9
      exact absurd h3 (h p h1 h2)
theorem hc_main (hB : hc_BG nil m S E I) (hH : hc_H nxH lgH m S E I) (gr : Nat → Prop) (hgr : ∀ i, i < n → gr (E' i)) (PO : Prop) {k : Nat} (hk : m + 1 ≤ k) :
    (¬ hc_Ex (fun g => gr g ∧ g ≠ nil ∧ ∀ p, p < m → hc_N S E I p → S p ≠ g) (fun as => ¬ (PO ∧ hc_TR (hc_nx as) (hc_fa as) n S' E' I' m f S E I)) k (hc_rem S E I 0 m) (hc_as0 S E I m)) ↔
      PO ∧ ∃ c, hc_CT nxH lgH nil n S' E' I' c ∧ ∀ p, p < m → hc_N S E I p → (f p = true ↔ ∀ i, i < n → S p ∉ c i) := by
  have hH0 := hc_w0_H hB
  obtain ⟨hs1, hs2⟩ := hc_H_same hH0 hH
  constructor
  · intro h
    have h0 : PO ∧ hc_TR (hc_nx (hc_w0 S E I m)) (hc_fa (hc_w0 S E I m)) n S' E' I' m f S E I := by
      by_cases h9 : PO ∧ hc_TR (hc_nx (hc_w0 S E I m)) (hc_fa (hc_w0 S E I m)) n S' E' I' m f S E I
      · exact h9
      · exact absurd (hc_Ex_w0 (by omega) h9) h
    refine ⟨h0.1, ?_⟩
    obtain ⟨c, hC, hf⟩ := hc_need hB hH0 h0.2 (by
      intro p i hp hN hI hi hI' hne hnil hnone
      have hpl : p ∈ hc_ls S E I 0 m := (hc_ls_mem _ _ _).mpr ⟨Nat.zero_le _, by omega, hI, hN hI⟩
      obtain ⟨l1, l2, hl⟩ := List.append_of_mem hpl
      have hrem : hc_rem S E I 0 m = l1.map (fun p => (S p, E p)) ++ (S p, E p) :: l2.map (fun p => (S p, E p)) := by
        unfold hc_rem; rw [hl, List.map_append, List.map_cons]
      have hnd := hc_ls_nodup (S := S) (E := E) (I := I) m 0
      rw [hl] at hnd
      have hl2 : ∀ q, q ∈ l2 → q ≠ p := fun q hq hqp => by
        have h1 := (List.nodup_cons.mp (List.nodup_append.mp hnd).2.1).1
        rw [hqp] at hq
        exact h1 hq
      have hlm : ∀ q, q ∈ l2 → q < m ∧ hc_N S E I q := fun q hq => by
        have h1 : q ∈ hc_ls S E I 0 m := by rw [hl]; exact List.mem_append.mpr (Or.inr (List.mem_cons_of_mem _ hq))
        obtain ⟨-, h2, -, h3⟩ := (hc_ls_mem _ _ _).mp h1
        exact ⟨by omega, fun _ => h3⟩
      have hw0 : hc_w0 S E I m = hc_fin (l2.map (fun p => (S p, E p))) ((S p, E p, true) :: hc_fin (l1.map (fun p => (S p, E p))) (hc_as0 S E I m)) := by
        unfold hc_w0; rw [hrem, hc_fin_app]; rfl
      have hno : ∀ x, x ∈ hc_w0 S E I m → x.1 ≠ E' i := fun x hx q => by
        have h1 := (hc_nx_mem (hc_w0_fn hB) hx).1
        rw [q, hnone] at h1
        cases h1
      have hX : hc_nx (hc_fin (l1.map (fun p => (S p, E p))) (hc_as0 S E I m)) (E' i) = none := by
        cases h9 : hc_nx (hc_fin (l1.map (fun p => (S p, E p))) (hc_as0 S E I m)) (E' i) with
        | none => rfl
        | some z =>
          obtain ⟨x, h1, h2, -, -⟩ := hc_nx_some _ _ _ h9
          exact absurd h2 (hno x (by rw [hw0, hc_fin_mem]; exact Or.inl (List.mem_cons_of_mem _ h1)))
      have hea : E' i ≠ S p := fun q => hno (S p, E p, I p) ((hc_w0_mem _).mpr ⟨p, hp, hN, rfl⟩) q.symm
      have hfre : gr (E' i) ∧ E' i ≠ nil ∧ ∀ p, p < m → hc_N S E I p → S p ≠ E' i := ⟨hgr i hi, hnil, fun q hq hNq h1 => hno (S q, E q, I q) ((hc_w0_mem _).mpr ⟨q, hq, hNq, rfl⟩) h1⟩
      generalize hZ : hc_fin (l2.map (fun p => (S p, E p))) ((E' i, E p, true) :: (S p, E' i, true) :: hc_fin (l1.map (fun p => (S p, E p))) (hc_as0 S E I m)) = Z
      have hTR : PO ∧ hc_TR (hc_nx Z) (hc_fa Z) n S' E' I' m f S E I := by
        by_cases h9 : PO ∧ hc_TR (hc_nx Z) (hc_fa Z) n S' E' I' m f S E I
        · exact h9
        · refine absurd ?_ h
          rw [hrem]
          refine hc_Ex_via (fr := fun g => gr g ∧ g ≠ nil ∧ ∀ p, p < m → hc_N S E I p → S p ≠ g) hfre hne hea _ k _ ?_ hX ?_
          · rw [← hrem]
            unfold hc_rem
            rw [List.length_map]
            have := hc_ls_len (S := S) (E := E) (I := I) m 0
            omega
          · rw [hZ]; exact h9
      refine ⟨hc_fa Z, ?_⟩
      have hnxZ : hc_nx Z = hc_we (hc_nx (hc_w0 S E I m)) (S p) (E' i) (E p) := by
        funext g
        unfold hc_we
        rw [← hZ]
        by_cases hg : ∃ r, r ∈ l2.map (fun p => (S p, E p)) ∧ r.1 = g
        · have hg1 : g ≠ S p := fun q => by
            obtain ⟨r, h1, h2⟩ := hg
            obtain ⟨x, h3, h4⟩ := List.mem_map.mp h1
            have h5 : S x = S p := by rw [← q, ← h2, ← h4]
            exact hl2 x h3 ((hB p hp hN).2 x (hlm x h3).1 (hlm x h3).2 h5)
          have hg2 : g ≠ E' i := fun q => by
            obtain ⟨r, h1, h2⟩ := hg
            refine hno (r.1, r.2, true) (by rw [hw0, hc_fin_mem]; exact Or.inr ⟨r, h1, rfl⟩) ?_
            rw [← q]; exact h2
          rw [if_neg hg1, if_neg hg2, hw0]
          exact hc_nx_fin_in _ _ _ g hg
        · have hg' : ∀ r, r ∈ l2.map (fun p => (S p, E p)) → r.1 ≠ g := fun r h1 h2 => hg ⟨r, h1, h2⟩
          rw [hw0, hc_nx_fin_out _ _ g hg', hc_nx_fin_out _ _ g hg', hc_nx_cons, hc_nx_cons, hc_nx_cons]
          show (if E' i = g then some (E p) else if S p = g then some (E' i) else _) = _
          by_cases h1 : E' i = g
          · rw [if_pos h1, if_neg (fun q => hea (h1.trans q)), if_pos h1.symm]
          · rw [if_neg h1]
            by_cases h2 : S p = g
            · rw [if_pos h2, if_pos h2.symm]
            · rw [if_neg h2, if_neg (fun q => h2 q.symm), if_neg (fun q => h1 q.symm)]
              show _ = (if S p = g then _ else _)
              rw [if_neg h2]
      rw [← hnxZ]
      exact hTR.2)
    exact ⟨c, hc_CT_congr hs1 hs2 hC, hf⟩
  · rintro ⟨hPO, c, hC, hf⟩ hEx
    obtain ⟨as', ch', h1, h2⟩ := hc_leaf0 hB (fun a ha => ha.2.2) hEx
    refine h1 ⟨hPO, hc_sound hB hH h2 (fun a ha => ⟨ha.2.1, ?_⟩) hC hf⟩
    by_cases h9 : nxH a = none
    · exact h9
    · obtain ⟨p, k1, k2, k3⟩ := hH.2 a h9
      exact absurd k3 (ha.2.2 p k1 k2)
end MAIN
end
section
/-! From one valuation to another that makes the same terms equal. -/
section MOVE
variable {v v' : Nat → Nat} {U : Nat → Prop} {m n : Nat} {fr to fr' to' : Nat → Nat} {I I' : Nat → Bool} {nx nx' : Nat → Option Nat} {lg lg' : Nat → Bool}
/-- the same named terms are equal -/
def hc_kq (U : Nat → Prop) (v v' : Nat → Nat) : Prop := ∀ a b, U a → U b → (v a = v b ↔ v' a = v' b)
theorem hc_kq.symm (h : hc_kq U v v') : hc_kq U v' v := fun a b ha hb => (h a b ha hb).symm
theorem hc_N_move (hk : hc_kq U v v') {p : Nat} (h1 : U (fr p)) (h2 : U (to p)) (h : hc_N (fun p => v (fr p)) (fun p => v (to p)) I p) : hc_N (fun p => v' (fr p)) (fun p => v' (to p)) I p := fun hI q => h hI ((hk _ _ h1 h2).mpr q)
theorem hc_BG_move (hk : hc_kq U v v') (h5 : U 5) (hU : ∀ p, p < m → U (fr p) ∧ U (to p)) (h : hc_BG (v 5) m (fun p => v (fr p)) (fun p => v (to p)) I) : hc_BG (v' 5) m (fun p => v' (fr p)) (fun p => v' (to p)) I := by
  intro p hp hN
  obtain ⟨a1, a2⟩ := h p hp (hc_N_move hk.symm (hU p hp).1 (hU p hp).2 hN)
  refine ⟨fun q => a1 ((hk _ _ (hU p hp).1 h5).mpr q), fun q hq hNq hqp => a2 q hq (hc_N_move hk.symm (hU q hq).1 (hU q hq).2 hNq) ((hk _ _ (hU q hq).1 (hU p hp).1).mpr hqp)⟩
def hc_PO (v : Nat → Nat) (sm ot : Nat → Nat → Bool) : Prop := ∀ a, a < 6 → ∀ b, b < 6 → (sm a b = true → v a = v b) ∧ (ot a b = true → v a ≠ v b)
theorem hc_PO_move {sm ot : Nat → Nat → Bool} (hk : hc_kq U v v') (hU : ∀ a, a < 6 → ∀ b, b < 6 → sm a b = true ∨ ot a b = true → U a ∧ U b) (h : hc_PO v sm ot) : hc_PO v' sm ot := by
  intro a ha b hb
  obtain ⟨h1, h2⟩ := h a ha b hb
  refine ⟨fun q => ?_, fun q e => ?_⟩
  · obtain ⟨u1, u2⟩ := hU a ha b hb (Or.inl q)
    exact (hk a b u1 u2).mp (h1 q)
  · obtain ⟨u1, u2⟩ := hU a ha b hb (Or.inr q)
    exact h2 q ((hk a b u1 u2).mpr e)
theorem hc_CT_move (hk : hc_kq U v v') (h5 : U 5) (hU : ∀ p, p < m → U (fr p) ∧ U (to p)) (hU' : ∀ i, i < n → U (fr' i) ∧ U (to' i))
    (hH : hc_H nx lg m (fun p => v (fr p)) (fun p => v (to p)) I) (hH' : hc_H nx' lg' m (fun p => v' (fr p)) (fun p => v' (to p)) I) {c : Nat → List Nat} (hC : hc_CT nx lg (v 5) n (fun i => v (fr' i)) (fun i => v (to' i)) I' c) :
    ∃ c', hc_CT nx' lg' (v' 5) n (fun i => v' (fr' i)) (fun i => v' (to' i)) I' c' ∧ ∀ p, p < m → hc_N (fun p => v (fr p)) (fun p => v (to p)) I p → ∀ i, i < n → (v' (fr p) ∈ c' i ↔ v (fr p) ∈ c i) := by
  have hph : ∀ g, ∃ y, ∀ t, U t → v t = g → v' t = y := by
    intro g
    by_cases h : ∃ t, U t ∧ v t = g
    · obtain ⟨t, ht, hg⟩ := h
      exact ⟨v' t, fun u hu hug => (hk u t hu ht).mp (hug.trans hg.symm)⟩
    · exact ⟨0, fun t ht hg => absurd ⟨t, ht, hg⟩ h⟩
  obtain ⟨φ, hφ⟩ := Classical.axiomOfChoice hph
  have hφ : ∀ t, U t → φ (v t) = v' t := fun t ht => (hφ (v t) t ht rfl).symm
  -- a cell of the one is a cell of the other
  have hcell : ∀ t, U t → nx (v t) ≠ none → ∃ p, p < m ∧ hc_N (fun p => v (fr p)) (fun p => v (to p)) I p ∧ v (fr p) = v t ∧ nx (v t) = some (v (to p)) ∧ lg (v t) = I p ∧ nx' (v' t) = some (v' (to p)) ∧ lg' (v' t) = I p := by
    intro t ht hn
    obtain ⟨p, h1, h2, h3⟩ := hH.2 _ hn
    have h3' : v (fr p) = v t := h3
    obtain ⟨a1, a2⟩ := hH.1 p h1 h2
    obtain ⟨b1, b2⟩ := hH'.1 p h1 (hc_N_move hk (hU p h1).1 (hU p h1).2 h2)
    have h4 : v' (fr p) = v' t := (hk _ _ (hU p h1).1 ht).mp h3'
    have a1' : nx (v (fr p)) = some (v (to p)) := a1
    have a2' : lg (v (fr p)) = I p := a2
    have b1' : nx' (v' (fr p)) = some (v' (to p)) := b1
    have b2' : lg' (v' (fr p)) = I p := b2
    rw [h3'] at a1' a2'
    rw [h4] at b1' b2'
    exact ⟨p, h1, h2, h3', a1', a2', b1', b2'⟩
  have hnone : ∀ t, U t → nx' (v' t) = none → nx (v t) = none := by
    intro t ht hn
    by_cases h : nx (v t) = none
    · exact h
    · obtain ⟨p, -, -, -, -, -, h6, -⟩ := hcell t ht h
      rw [hn] at h6
      cases h6
  have hpath : ∀ (u : Nat), U u → ∀ (l : List Nat) (t : Nat), U t → hc_P nx (v u) l (v t) → hc_P nx' (v' u) (l.map φ) (v' t) := by
    intro u hu l
    induction l with
    | nil => intro t ht h; exact hc_P_nil.mpr ((hk _ _ ht hu).mp (hc_P_nil.mp h))
    | cons a l ih =>
      intro t ht h
      obtain ⟨h1, h2, x, hx, hp⟩ := hc_P_cons.mp h
      obtain ⟨p, k1, -, -, k4, -, k6, -⟩ := hcell t ht (by rw [hx]; exact fun q => nomatch q)
      rw [hx] at k4
      injection k4 with k4
      rw [k4] at hp
      exact hc_P_cons.mpr ⟨by rw [h1]; exact hφ t ht, fun q => h2 ((hk _ _ ht hu).mpr q), v' (to p), k6, ih (to p) (hU p k1).2 hp⟩
  have hmem : ∀ i, i < n → ∀ a, a ∈ c i → ∃ p, p < m ∧ hc_N (fun p => v (fr p)) (fun p => v (to p)) I p ∧ a = v (fr p) ∧ φ a = v' (fr p) := by
    intro i hi a ha
    obtain ⟨p, h1, h2, h3⟩ := hH.2 a (hc_pp_cell (hC.1 i hi).1 ha)
    have h3' : v (fr p) = a := h3
    exact ⟨p, h1, h2, h3'.symm, by rw [← h3']; exact hφ _ (hU p h1).1⟩
  refine ⟨fun i => (c i).map φ, ⟨fun i hi => ?_, fun i j hi hj hij a ha hb => ?_⟩, fun p hp hN i hi => ?_⟩
  · obtain ⟨⟨a1, a2⟩, a3⟩ := hC.1 i hi
    refine ⟨⟨fun hI => hpath _ (hU' i hi).2 _ _ (hU' i hi).1 (a1 hI), fun hI => ?_⟩, fun hI hlo a ha hlg => ?_⟩
    · obtain ⟨b1, b2, b3⟩ := a2 hI
      have b2' : nx (v (fr' i)) = some (v (to' i)) := b2
      have b3' : lg (v (fr' i)) = false := b3
      obtain ⟨p, k1, k2, k3, k4, k5, k6, k7⟩ := hcell (fr' i) (hU' i hi).1 (by rw [b2']; exact fun q => nomatch q)
      rw [b2'] at k4
      injection k4 with k4
      rw [b3'] at k5
      show (c i).map φ = [v' (fr' i)] ∧ nx' (v' (fr' i)) = some (v' (to' i)) ∧ lg' (v' (fr' i)) = false
      refine ⟨?_, ?_, by rw [k7, ← k5]⟩
      · rw [b1]
        show [φ (v (fr' i))] = _
        rw [hφ _ (hU' i hi).1]
      · rw [k6, (hk _ _ (hU' i hi).2 (hU p k1).2).mp k4]
    · obtain ⟨b, hb1, hb2⟩ := List.mem_map.mp ha
      obtain ⟨p, k1, k2, k3, k4⟩ := hmem i hi b hb1
      have hbn : nx (v (fr p)) ≠ none := by rw [← k3]; exact hc_pp_cell ⟨a1, a2⟩ hb1
      obtain ⟨q, j1, j2, j3, j4, j5, j6, j7⟩ := hcell (fr p) (hU p k1).1 hbn
      have hlo' : hc_lo nx (v 5) (v (to' i)) := ⟨fun q => hlo.1 ((hk _ _ (hU' i hi).2 h5).mp q), hnone _ (hU' i hi).2 hlo.2⟩
      rw [← hb2, k4, j7] at hlg
      have h9 := a3 hI hlo' b hb1 (by rw [k3, j5]; exact hlg)
      have h9' : nx b = some (v (to' i)) := h9
      rw [k3, j4] at h9'
      injection h9' with h9'
      show nx' a = some (v' (to' i))
      rw [← hb2, k4, j6, (hk _ _ (hU q j1).2 (hU' i hi).2).mp h9']
  · obtain ⟨x, hx1, hx2⟩ := List.mem_map.mp ha
    obtain ⟨y, hy1, hy2⟩ := List.mem_map.mp hb
    obtain ⟨p, k1, k2, k3, k4⟩ := hmem i hi x hx1
    obtain ⟨q, j1, j2, j3, j4⟩ := hmem j hj y hy1
    have h9 : v' (fr p) = v' (fr q) := by rw [← k4, ← j4, hx2, hy2]
    have h8 : x = y := by rw [k3, j3]; exact (hk _ _ (hU p k1).1 (hU q j1).1).mpr h9
    rw [h8] at hx1
    exact hC.2 i j hi hj hij y hx1 hy1
  · constructor
    · intro h
      obtain ⟨x, hx1, hx2⟩ := List.mem_map.mp h
      obtain ⟨q, k1, k2, k3, k4⟩ := hmem i hi x hx1
      have h9 : v' (fr q) = v' (fr p) := by rw [← k4, hx2]
      rw [← (hk _ _ (hU q k1).1 (hU p hp).1).mpr h9, ← k3]
      exact hx1
    · intro h
      exact List.mem_map.mpr ⟨v (fr p), h, hφ _ (hU p hp).1⟩
end MOVE
end
section
/-! The cases: which terms are equal, one after another. -/
/-- the greatest of the first k, 0 at least -/
def hc_mx (l : List Nat) : Nat → Nat
  | 0 => 0
  | k + 1 => max (hc_mx l k) (l.getD k 0)
/-- the reference's next grouping, from place k down -/
def hc_ng : Nat → List Nat → Option (List Nat)
  | 0, _ => none
  | k + 1, l => if l.getD (k + 1) 0 ≤ hc_mx l (k + 1) then some ((List.range 6).map (fun i => if i < k + 1 then l.getD i 0 else if i = k + 1 then l.getD i 0 + 1 else 0)) else hc_ng k l
/-- the class's next case: the named variables below t -/
def hc_av (M : Nat) : Nat → List Nat → Option (List Nat)
  | 0, _ => none
  | t + 1, l => if M.testBit t = true then (if l.getD t 0 ≤ hc_mx l t then some (l.set t (l.getD t 0 + 1)) else hc_av M t (l.set t 0)) else hc_av M t l
def hc_run (nx : List Nat → Option (List Nat)) : Nat → List Nat → List (List Nat)
  | 0, _ => []
  | n + 1, l => l :: (match nx l with | some l' => hc_run nx n l' | none => [])
def hc_ends (nx : List Nat → Option (List Nat)) : Nat → List Nat → Bool
  | 0, _ => false
  | n + 1, l => (match nx l with | some l' => hc_ends nx n l' | none => true)
def hc_all : List (List Nat) := hc_run (hc_ng 5) 203 [0, 0, 0, 0, 0, 0]
def hc_cas (M : Nat) : List (List Nat) := hc_run (hc_av M 5) 203 [0, 0, 0, 0, 0, 0]
/-- lists by growth: place after place an old value or the next new one; unnamed places hold 0 -/
def hc_gen (q : Nat → Bool) : Nat → List (List Nat × Nat)
  | 0 => [([], 0)]
  | k + 1 => (hc_gen q k).flatMap (fun x => if q k = true then (List.range (x.2 + 2)).map (fun y => (x.1 ++ [y], max x.2 y)) else [(x.1 ++ [0], x.2)])
set_option maxRecDepth 100000 in
theorem hc_all_ends : hc_ends (hc_ng 5) 203 [0, 0, 0, 0, 0, 0] = true := by decide +kernel
set_option maxRecDepth 100000 in
theorem hc_all_fit : ∀ l, l ∈ hc_all → l.length = 6 ∧ ∀ t, t < 6 → l.getD t 0 < 6 := by decide +kernel
set_option maxRecDepth 100000 in
theorem hc_cas_ends : ∀ M, M < 32 → hc_ends (hc_av M 5) 203 [0, 0, 0, 0, 0, 0] = true := by decide +kernel
set_option maxRecDepth 100000 in
theorem hc_cas_fit : ∀ M, M < 32 → ∀ l, l ∈ hc_cas M → l.length = 6 ∧ l.getD 5 0 = 0 ∧ ∀ t, t < 6 → l.getD t 0 < 6 := by decide +kernel
set_option maxRecDepth 100000 in
theorem hc_gen_all : ∀ x, x ∈ hc_gen (fun _ => true) 5 → (0 :: x.1) ∈ hc_all := by decide +kernel
set_option maxRecDepth 100000 in
theorem hc_gen_cas : ∀ M, M < 32 → ∀ x, x ∈ hc_gen (fun t => M.testBit t) 5 → (x.1 ++ [0]) ∈ hc_cas M := by decide +kernel
theorem hc_getD_app {l : List Nat} {k : Nat} (h : l.length = k) (y a : Nat) : (l ++ [y]).getD a 0 = if a < k then l.getD a 0 else if a = k then y else 0 := by
  rw [List.getD_eq_getElem?_getD, List.getD_eq_getElem?_getD]
  by_cases h1 : a < k
  · rw [if_pos h1, List.getElem?_append_left (by omega)]
  · rw [if_neg h1, List.getElem?_append_right (by omega)]
    by_cases h2 : a = k
    · rw [if_pos h2, h, h2, Nat.sub_self]; rfl
    · rw [if_neg h2, List.getElem?_eq_none (by simp only [List.length_cons, List.length_nil]; omega)]; rfl
theorem hc_gen_cov (q : Nat → Bool) (w : Nat → Nat) (b : Nat) : ∀ k : Nat, ∃ x, x ∈ hc_gen q k ∧ x.1.length = k ∧ (∀ a, a < k → x.1.getD a 0 ≤ x.2) ∧ (∀ a, a < k → q a = true → (w a = b ↔ x.1.getD a 0 = 0)) ∧
    ∀ a c, a < k → c < k → q a = true → q c = true → (w a = w c ↔ x.1.getD a 0 = x.1.getD c 0) := by
  intro k
  induction k with
  | zero => exact ⟨([], 0), List.mem_cons_self, rfl, fun a h => absurd h (Nat.not_lt_zero _), fun a h => absurd h (Nat.not_lt_zero _), fun a c h => absurd h (Nat.not_lt_zero _)⟩
  | succ k ih =>
    obtain ⟨x, h1, h2, h3, h4, h5⟩ := ih
    have hone : ∀ y z, y ≤ z → x.2 ≤ z → (x.1 ++ [y], z) ∈ hc_gen q (k + 1) → (q k = true → (w k = b ↔ y = 0)) → (∀ a, a < k → q a = true → q k = true → (w a = w k ↔ x.1.getD a 0 = y)) →
        ∃ x, x ∈ hc_gen q (k + 1) ∧ x.1.length = k + 1 ∧ (∀ a, a < k + 1 → x.1.getD a 0 ≤ x.2) ∧ (∀ a, a < k + 1 → q a = true → (w a = b ↔ x.1.getD a 0 = 0)) ∧
        ∀ a c, a < k + 1 → c < k + 1 → q a = true → q c = true → (w a = w c ↔ x.1.getD a 0 = x.1.getD c 0) := by
      intro y z hy hz hm hb hw
      have hg : ∀ a, a < k → (x.1 ++ [y]).getD a 0 = x.1.getD a 0 := fun a ha => by rw [hc_getD_app h2, if_pos ha]
      have hgk : (x.1 ++ [y]).getD k 0 = y := by rw [hc_getD_app h2, if_neg (Nat.lt_irrefl _), if_pos rfl]
      refine ⟨(x.1 ++ [y], z), hm, by simp only [List.length_append, List.length_cons, List.length_nil, h2], fun a ha => ?_, fun a ha hq => ?_, fun a c ha hc hqa hqc => ?_⟩
      · show (x.1 ++ [y]).getD a 0 ≤ z
        by_cases hak : a = k
        · rw [hak, hgk]; exact hy
        · rw [hg a (by omega)]; exact Nat.le_trans (h3 a (by omega)) hz
      · show w a = b ↔ (x.1 ++ [y]).getD a 0 = 0
        by_cases hak : a = k
        · rw [hak, hgk]; rw [hak] at hq; exact hb hq
        · rw [hg a (by omega)]; exact h4 a (by omega) hq
      · show w a = w c ↔ (x.1 ++ [y]).getD a 0 = (x.1 ++ [y]).getD c 0
        by_cases hak : a = k
        · by_cases hck : c = k
          · rw [hak, hck]; exact ⟨fun _ => rfl, fun _ => rfl⟩
          · rw [hak, hgk, hg c (by omega)]
            rw [hak] at hqa
            have h9 := hw c (by omega) hqc hqa
            exact ⟨fun e => (h9.mp e.symm).symm, fun e => (h9.mpr e.symm).symm⟩
        · by_cases hck : c = k
          · rw [hck, hgk, hg a (by omega)]
            rw [hck] at hqc
            exact hw a (by omega) hqa hqc
          · rw [hg a (by omega), hg c (by omega)]
            exact h5 a c (by omega) (by omega) hqa hqc
    by_cases hq : q k = true
    · have hmem : ∀ y, y < x.2 + 2 → (x.1 ++ [y], max x.2 y) ∈ hc_gen q (k + 1) := fun y hy => by
        show _ ∈ (hc_gen q k).flatMap _
        refine List.mem_flatMap.mpr ⟨x, h1, ?_⟩
        rw [if_pos hq]
        exact List.mem_map.mpr ⟨y, List.mem_range.mpr hy, rfl⟩
      by_cases hb : w k = b
      · exact hone 0 _ (Nat.zero_le _) (Nat.le_max_left _ _) (hmem 0 (by omega)) (fun _ => ⟨fun _ => rfl, fun _ => hb⟩) (fun a ha hqa _ => by rw [hb]; exact h4 a ha hqa)
      · by_cases hold : ∃ a, a < k ∧ q a = true ∧ w a = w k
        · obtain ⟨a, ha, hqa, hwa⟩ := hold
          refine hone (x.1.getD a 0) _ (Nat.le_max_right _ _) (Nat.le_max_left _ _) (hmem _ (by have := h3 a ha; omega)) (fun _ => by rw [← hwa]; exact h4 a ha hqa) (fun c hc hqc _ => by rw [← hwa]; exact h5 c a hc ha hqc hqa)
        · refine hone (x.2 + 1) _ (Nat.le_max_right _ _) (Nat.le_max_left _ _) (hmem _ (by omega)) (fun _ => ⟨fun e => absurd e hb, fun e => absurd e (by omega)⟩) (fun c hc hqc _ => ⟨fun e => absurd ⟨c, hc, hqc, e⟩ hold, fun e => ?_⟩)
          have := h3 c hc
          omega
    · refine hone 0 x.2 (Nat.zero_le _) (Nat.le_refl _) ?_ (fun h => absurd h hq) (fun a ha hqa h => absurd h hq)
      show _ ∈ (hc_gen q k).flatMap _
      refine List.mem_flatMap.mpr ⟨x, h1, ?_⟩
      rw [if_neg hq]
      exact List.mem_cons_self
theorem hc_cov_all (v : Nat → Nat) : ∃ l, l ∈ hc_all ∧ hc_kq (fun t => t < 6) v (fun t => l.getD t 0) := by
  obtain ⟨x, h1, h2, -, h4, h5⟩ := hc_gen_cov (fun _ => true) (fun t => v (t + 1)) (v 0) 5
  refine ⟨0 :: x.1, hc_gen_all x h1, fun a b ha hb => ?_⟩
  have ha : a < 6 := ha
  have hb : b < 6 := hb
  cases a with
  | zero =>
    cases b with
    | zero => exact ⟨fun _ => rfl, fun _ => rfl⟩
    | succ b =>
      have h9 := h4 b (by omega) rfl
      exact ⟨fun e => (h9.mp e.symm).symm, fun e => (h9.mpr (Eq.symm e)).symm⟩
  | succ a =>
    cases b with
    | zero => exact h4 a (by omega) rfl
    | succ b => exact h5 a b (by omega) (by omega) rfl rfl
theorem hc_cov_cas (M : Nat) (hM : M < 32) (v : Nat → Nat) : ∃ l, l ∈ hc_cas M ∧ hc_kq (fun t => (t < 5 ∧ M.testBit t = true) ∨ t = 5) v (fun t => l.getD t 0) := by
  obtain ⟨x, h1, h2, -, h4, h5⟩ := hc_gen_cov (fun t => M.testBit t) v (v 5) 5
  refine ⟨x.1 ++ [0], hc_gen_cas M hM x h1, fun a b ha hb => ?_⟩
  have hg : ∀ a, a < 5 → (x.1 ++ [0]).getD a 0 = x.1.getD a 0 := fun a ha => by rw [hc_getD_app h2, if_pos ha]
  have hg5 : (x.1 ++ [0]).getD 5 0 = 0 := by rw [hc_getD_app h2, if_neg (Nat.lt_irrefl _), if_pos rfl]
  show v a = v b ↔ (x.1 ++ [0]).getD a 0 = (x.1 ++ [0]).getD b 0
  rcases ha with ⟨ha1, ha2⟩ | ha
  · rcases hb with ⟨hb1, hb2⟩ | hb
    · rw [hg a ha1, hg b hb1]; exact h5 a b ha1 hb1 ha2 hb2
    · rw [hb, hg a ha1, hg5]; exact h4 a ha1 ha2
  · rcases hb with ⟨hb1, hb2⟩ | hb
    · rw [ha, hg b hb1, hg5]
      have h9 := h4 b hb1 hb2
      exact ⟨fun e => (h9.mp e.symm).symm, fun e => (h9.mpr (Eq.symm e)).symm⟩
    · rw [ha, hb]; exact ⟨fun _ => rfl, fun _ => rfl⟩
end
section
/-! What the class gathers over its cases, against what the reference asks of all groupings. -/
section FRAME
variable {sm ot sm' ot' : Nat → Nat → Bool} {m n : Nat} {fr to fr' to' : Nat → Nat} {I I' : Nat → Bool}
/-- left is true of some state of this case -/
def hc_A (sm ot : Nat → Nat → Bool) (m : Nat) (fr to : Nat → Nat) (I : Nat → Bool) (v : Nat → Nat) : Prop := hc_PO v sm ot ∧ hc_BG (v 5) m (fun p => v (fr p)) (fun p => v (to p)) I
abbrev hc_nv (m : Nat) (fr to : Nat → Nat) (I : Nat → Bool) (v : Nat → Nat) : Nat → Option Nat := hc_nx (hc_w0 (fun p => v (fr p)) (fun p => v (to p)) I m)
abbrev hc_lv (m : Nat) (fr to : Nat → Nat) (I : Nat → Bool) (v : Nat → Nat) : Nat → Bool := hc_fa (hc_w0 (fun p => v (fr p)) (fun p => v (to p)) I m)
abbrev hc_Nv (fr to : Nat → Nat) (I : Nat → Bool) (v : Nat → Nat) (p : Nat) : Prop := hc_N (fun p => v (fr p)) (fun p => v (to p)) I p
/-- right has the stretches c there -/
def hc_G (m : Nat) (fr to : Nat → Nat) (I : Nat → Bool) (sm' ot' : Nat → Nat → Bool) (n : Nat) (fr' to' : Nat → Nat) (I' : Nat → Bool) (v : Nat → Nat) (c : Nat → List Nat) : Prop :=
  hc_PO v sm' ot' ∧ hc_CT (hc_nv m fr to I v) (hc_lv m fr to I v) (v 5) n (fun i => v (fr' i)) (fun i => v (to' i)) I' c
/-- the frame f is right for this case -/
def hc_F (m : Nat) (fr to : Nat → Nat) (I : Nat → Bool) (sm' ot' : Nat → Nat → Bool) (n : Nat) (fr' to' : Nat → Nat) (I' : Nat → Bool) (f : Nat → Bool) (v : Nat → Nat) : Prop :=
  ∃ c, hc_G m fr to I sm' ot' n fr' to' I' v c ∧ ∀ p, p < m → hc_Nv fr to I v p → (f p = true ↔ ∀ i, i < n → v (fr p) ∉ c i)
/-- the terms that a claim names -/
def hc_U (sm ot : Nat → Nat → Bool) (m : Nat) (fr to : Nat → Nat) (U : Nat → Prop) : Prop := (∀ a, a < 6 → ∀ b, b < 6 → sm a b = true ∨ ot a b = true → U a ∧ U b) ∧ ∀ p, p < m → U (fr p) ∧ U (to p)
theorem hc_A_move {U : Nat → Prop} {v v' : Nat → Nat} (hk : hc_kq U v v') (h5 : U 5) (hU : hc_U sm ot m fr to U) (h : hc_A sm ot m fr to I v) : hc_A sm ot m fr to I v' := ⟨hc_PO_move hk hU.1 h.1, hc_BG_move hk h5 hU.2 h.2⟩
theorem hc_G_det {v : Nat → Nat} {c c' : Nat → List Nat} (h : hc_G m fr to I sm' ot' n fr' to' I' v c) (h' : hc_G m fr to I sm' ot' n fr' to' I' v c') : ∀ i, i < n → c i = c' i := fun i hi => hc_pp_det (h.2.1 i hi).1 (h'.2.1 i hi).1
theorem hc_G_move {U : Nat → Prop} {v v' : Nat → Nat} (hk : hc_kq U v v') (h5 : U 5) (hU : hc_U sm ot m fr to U) (hU' : hc_U sm' ot' n fr' to' U) (hA : hc_A sm ot m fr to I v) {c : Nat → List Nat} (h : hc_G m fr to I sm' ot' n fr' to' I' v c) :
    ∃ c', hc_G m fr to I sm' ot' n fr' to' I' v' c' ∧ ∀ p, p < m → hc_Nv fr to I v p → ∀ i, i < n → (v' (fr p) ∈ c' i ↔ v (fr p) ∈ c i) := by
  obtain ⟨c', h1, h2⟩ := hc_CT_move hk h5 hU.2 hU'.2 (hc_w0_H hA.2) (hc_w0_H (hc_A_move hk h5 hU hA).2) h.2
  exact ⟨c', ⟨hc_PO_move hk hU'.1 h.1, h1⟩, h2⟩
theorem hc_F_move {U : Nat → Prop} {v v' : Nat → Nat} {f : Nat → Bool} (hk : hc_kq U v v') (h5 : U 5) (hU : hc_U sm ot m fr to U) (hU' : hc_U sm' ot' n fr' to' U) (hA : hc_A sm ot m fr to I v) (h : hc_F m fr to I sm' ot' n fr' to' I' f v) :
    hc_F m fr to I sm' ot' n fr' to' I' f v' := by
  obtain ⟨c, h1, h2⟩ := h
  obtain ⟨c', k1, k2⟩ := hc_G_move hk h5 hU hU' hA h1
  refine ⟨c', k1, fun p hp hN => ?_⟩
  have hN' : hc_Nv fr to I v p := hc_N_move hk.symm (hU.2 p hp).1 (hU.2 p hp).2 hN
  rw [h2 p hp hN']
  exact ⟨fun q i hi e => q i hi ((k2 p hp hN' i hi).mp e), fun q i hi e => q i hi ((k2 p hp hN' i hi).mpr e)⟩
/-- all groupings, or the class's cases: it is one -/
theorem hc_all_cas {M : Nat} (hM : M < 32) (hU : hc_U sm ot m fr to (fun t => (t < 5 ∧ M.testBit t = true) ∨ t = 5)) {P : (Nat → Nat) → Prop}
    (hP : ∀ v v', hc_kq (fun t => (t < 5 ∧ M.testBit t = true) ∨ t = 5) v v' → hc_A sm ot m fr to I v → P v → P v') :
    (∀ l, l ∈ hc_all → hc_A sm ot m fr to I (fun t => l.getD t 0) → P (fun t => l.getD t 0)) ↔ ∀ l, l ∈ hc_cas M → hc_A sm ot m fr to I (fun t => l.getD t 0) → P (fun t => l.getD t 0) := by
  have h5 : (fun t => (t < 5 ∧ M.testBit t = true) ∨ t = 5) 5 := Or.inr rfl
  constructor
  · intro h l hl hA
    obtain ⟨l', h1, h2⟩ := hc_cov_all (fun t => l.getD t 0)
    have hk : hc_kq (fun t => (t < 5 ∧ M.testBit t = true) ∨ t = 5) (fun t => l.getD t 0) (fun t => l'.getD t 0) := fun a b ha hb => h2 a b (by rcases ha with ha | ha <;> omega) (by rcases hb with hb | hb <;> omega)
    have hA' := hc_A_move hk h5 hU hA
    exact hP _ _ hk.symm hA' (h l' h1 hA')
  · intro h l hl hA
    obtain ⟨l', h1, hk⟩ := hc_cov_cas M hM (fun t => l.getD t 0)
    have hA' := hc_A_move hk h5 hU hA
    exact hP _ _ hk.symm hA' (h l' h1 hA')
/-- what the cases cs have gathered -/
def hc_nd (sm ot : Nat → Nat → Bool) (m : Nat) (fr to : Nat → Nat) (I : Nat → Bool) (sm' ot' : Nat → Nat → Bool) (n : Nat) (fr' to' : Nat → Nat) (I' : Nat → Bool) (cs : List (List Nat)) (p : Nat) : Prop :=
  ∃ l, l ∈ cs ∧ hc_A sm ot m fr to I (fun t => l.getD t 0) ∧ hc_Nv fr to I (fun t => l.getD t 0) p ∧ ∃ c, hc_G m fr to I sm' ot' n fr' to' I' (fun t => l.getD t 0) c ∧ ∀ i, i < n → l.getD (fr p) 0 ∉ c i
def hc_bd (sm ot : Nat → Nat → Bool) (m : Nat) (fr to : Nat → Nat) (I : Nat → Bool) (sm' ot' : Nat → Nat → Bool) (n : Nat) (fr' to' : Nat → Nat) (I' : Nat → Bool) (cs : List (List Nat)) (p : Nat) : Prop :=
  ∃ l, l ∈ cs ∧ hc_A sm ot m fr to I (fun t => l.getD t 0) ∧ hc_Nv fr to I (fun t => l.getD t 0) p ∧ ∃ c, hc_G m fr to I sm' ot' n fr' to' I' (fun t => l.getD t 0) c ∧ ∃ i, i < n ∧ l.getD (fr p) 0 ∈ c i
variable {cs : List (List Nat)}
theorem hc_fr_no (h : (∃ l, l ∈ cs ∧ hc_A sm ot m fr to I (fun t => l.getD t 0) ∧ ¬ ∃ c, hc_G m fr to I sm' ot' n fr' to' I' (fun t => l.getD t 0) c) ∨ ∃ p, p < m ∧ hc_nd sm ot m fr to I sm' ot' n fr' to' I' cs p ∧ hc_bd sm ot m fr to I sm' ot' n fr' to' I' cs p) (f : Nat → Bool) :
    ¬ ∀ l, l ∈ cs → hc_A sm ot m fr to I (fun t => l.getD t 0) → hc_F m fr to I sm' ot' n fr' to' I' f (fun t => l.getD t 0) := by
  intro hf
  rcases h with ⟨l, h1, h2, h3⟩ | ⟨p, hp, ⟨l, a1, a2, a3, c, a4, a5⟩, ⟨l2, b1, b2, b3, c2, b4, i, hi, b5⟩⟩
  · obtain ⟨c, h4, -⟩ := hf l h1 h2
    exact h3 ⟨c, h4⟩
  · obtain ⟨d, d1, d2⟩ := hf l a1 a2
    have hfp : f p = true := (d2 p hp a3).mpr (fun i hi => by rw [hc_G_det d1 a4 i hi]; exact a5 i hi)
    obtain ⟨d', e1, e2⟩ := hf l2 b1 b2
    refine (e2 p hp b3).mp hfp i hi ?_
    rw [hc_G_det e1 b4 i hi]
    exact b5
theorem hc_fr_yes (h : ∀ l, l ∈ cs → hc_A sm ot m fr to I (fun t => l.getD t 0) → ∃ c, hc_G m fr to I sm' ot' n fr' to' I' (fun t => l.getD t 0) c) {f : Nat → Bool} (hf : ∀ p, p < m → (f p = true ↔ hc_nd sm ot m fr to I sm' ot' n fr' to' I' cs p))
    (hno : ∀ p, p < m → hc_nd sm ot m fr to I sm' ot' n fr' to' I' cs p → ¬ hc_bd sm ot m fr to I sm' ot' n fr' to' I' cs p) :
    (∀ l, l ∈ cs → hc_A sm ot m fr to I (fun t => l.getD t 0) → hc_F m fr to I sm' ot' n fr' to' I' f (fun t => l.getD t 0)) ∧
    ∀ f' : Nat → Bool, (∀ l, l ∈ cs → hc_A sm ot m fr to I (fun t => l.getD t 0) → hc_F m fr to I sm' ot' n fr' to' I' f' (fun t => l.getD t 0)) → ∀ p, p < m → f p = true → f' p = true := by
  refine ⟨fun l hl hA => ?_, fun f' hf' p hp hfp => ?_⟩
  · obtain ⟨c, hc⟩ := h l hl hA
    refine ⟨c, hc, fun p hp hN => ⟨fun hfp i hi e => hno p hp ((hf p hp).mp hfp) ⟨l, hl, hA, hN, c, hc, i, hi, e⟩, fun q => (hf p hp).mpr ⟨l, hl, hA, hN, c, hc, q⟩⟩⟩
  · obtain ⟨l, a1, a2, a3, c, a4, a5⟩ := (hf p hp).mp hfp
    obtain ⟨d, d1, d2⟩ := hf' l a1 a2
    exact (d2 p hp a3).mpr (fun i hi => by rw [hc_G_det d1 a4 i hi]; exact a5 i hi)
end FRAME
end
section
/-! The class's walk along a list, step by step; the reference's choices. -/
def hc_b (b : Bool) : Int32 := if b = true then 1 else 0
section WALK
variable {nx : Nat → Option Nat} {lg : Nat → Bool} {nil s e x G : Nat}
theorem hc_PP_ext : ∀ (pre l : List Nat) (g : Nat), hc_PP nx e x pre g → hc_P nx e l g → ∃ l2, l = pre ++ l2 ∧ hc_P nx e l2 x := by
  intro pre
  induction pre with
  | nil => intro l g h hp; exact ⟨l, rfl, by rw [← show g = x from h]; exact hp⟩
  | cons a pre ih =>
    intro l g h hp
    obtain ⟨h1, h2, y, hy, hq⟩ := h
    cases l with
    | nil => exact absurd (hc_P_nil.mp hp) h2
    | cons b l =>
      obtain ⟨k1, k2, z, hz, hr⟩ := hc_P_cons.mp hp
      rw [hy] at hz
      injection hz with hz
      rw [← hz] at hr
      obtain ⟨l2, q1, q2⟩ := ih l y hq hr
      exact ⟨l2, by rw [q1, h1, k1]; rfl, q2⟩
theorem hc_PP_snoc {z : Nat} (hx : x ≠ e) (hz : nx x = some z) (pre : List Nat) (g : Nat) (h : hc_PP nx e x pre g) : hc_PP nx e z (pre ++ [x]) g := hc_PP_app hx hz pre g h
/-- no cell there: no path goes on -/
theorem hc_walk_none {pre : List Nat} (hp : hc_PP nx e x pre s) (hx : x ≠ e) (hn : nx x = none) : ¬ ∃ l, hc_cp nx lg nil s e true l := by
  rintro ⟨l, h, -⟩
  obtain ⟨l2, h1, h2⟩ := hc_PP_ext pre l s hp (h.1 rfl)
  have h3 := hc_P_head h2 hx
  exact (hc_P_ne _ _ h2 x h3).2 hn
/-- a loose end that may lie inside -/
theorem hc_walk_loose {pre : List Nat} (hp : hc_PP nx e x pre s) (hx : x ≠ e) (hlo : hc_lo nx nil e) (hlg : lg x = true) (hn : nx x ≠ some e) : ¬ ∃ l, hc_cp nx lg nil s e true l := by
  rintro ⟨l, h, hc⟩
  obtain ⟨l2, h1, h2⟩ := hc_PP_ext pre l s hp (h.1 rfl)
  exact hn (hc rfl hlo x (by rw [h1]; exact List.mem_append.mpr (Or.inr (hc_P_head h2 hx))) hlg)
/-- as many steps as there are addresses, and not there: a circle -/
theorem hc_walk_long {pre : List Nat} (hG : ∀ a, nx a ≠ none → 1 ≤ a ∧ a ≤ G) (hp : hc_PP nx e x pre s) (hx : x ≠ e) (hlen : G ≤ pre.length) : ¬ ∃ l, hc_cp nx lg nil s e true l := by
  rintro ⟨l, h, -⟩
  have hl := h.1 rfl
  obtain ⟨l2, h1, h2⟩ := hc_PP_ext pre l s hp hl
  have h3 := List.length_pos_of_mem (hc_P_head h2 hx)
  have h4 := hc_pigeon l ((List.range G).map (fun a => a + 1)) (hc_P_nodup l s hl) (fun a ha => by
    obtain ⟨k1, k2⟩ := hG a (hc_P_ne _ _ hl a ha).2
    exact List.mem_map.mpr ⟨a - 1, List.mem_range.mpr (by omega), by omega⟩)
  rw [List.length_map, List.length_range, h1, List.length_append] at h4
  omega
theorem hc_walk_done {l : List Nat} (hp : hc_PP nx e e l s) (hc : hc_lo nx nil e → ∀ a, a ∈ l → lg a = true → nx a = some e) : hc_cp nx lg nil s e true l := ⟨⟨fun _ => hp, fun h => by cases h⟩, fun _ => hc⟩
end WALK
section CHOICE
variable {fr : Nat → Prop} {L : List (Nat × Nat × Bool) → Prop} {k x e : Nat} {rs : List (Nat × Nat)} {as : List (Nat × Nat × Bool)}
/-- the reference's choice c -/
def hc_Ch (fr : Nat → Prop) (L : List (Nat × Nat × Bool) → Prop) (k x e : Nat) (rs : List (Nat × Nat)) (as : List (Nat × Nat × Bool)) (c : Nat) : Prop :=
  if c < 2 then hc_Ex fr L k rs ((x, e, decide (c % 2 = 1)) :: as) else
    fr (c / 2 - 1) ∧ c / 2 - 1 ≠ e ∧ c / 2 - 1 ≠ x ∧ hc_nx as (c / 2 - 1) = none ∧ hc_Ex fr L k ((c / 2 - 1, e) :: rs) ((x, c / 2 - 1, decide (c % 2 = 1)) :: as)
theorem hc_Ex_Ch (hfr : ∀ g, fr g → g < 6) : hc_Ex fr L (k + 1) ((x, e) :: rs) as ↔ ∃ c, c < 14 ∧ hc_Ch fr L k x e rs as c := by
  rw [hc_Ex_cons]
  constructor
  · rintro ⟨b, h | ⟨g, g1, g2, g3, g4, h⟩⟩
    · cases b with
      | false => exact ⟨0, by omega, by unfold hc_Ch; rw [if_pos (by omega)]; exact h⟩
      | true => exact ⟨1, by omega, by unfold hc_Ch; rw [if_pos (by omega)]; exact h⟩
    · have hg := hfr g g1
      cases b with
      | false =>
        refine ⟨2 * g + 2, by omega, ?_⟩
        unfold hc_Ch
        rw [if_neg (by omega), show (2 * g + 2) / 2 - 1 = g by omega, show decide ((2 * g + 2) % 2 = 1) = false from decide_eq_false (by omega)]
        exact ⟨g1, g2, g3, g4, h⟩
      | true =>
        refine ⟨2 * g + 3, by omega, ?_⟩
        unfold hc_Ch
        rw [if_neg (by omega), show (2 * g + 3) / 2 - 1 = g by omega, show decide ((2 * g + 3) % 2 = 1) = true from decide_eq_true (by omega)]
        exact ⟨g1, g2, g3, g4, h⟩
  · rintro ⟨c, hc, h⟩
    unfold hc_Ch at h
    by_cases hc2 : c < 2
    · rw [if_pos hc2] at h
      exact ⟨_, Or.inl h⟩
    · rw [if_neg hc2] at h
      obtain ⟨g1, g2, g3, g4, h⟩ := h
      exact ⟨_, Or.inr ⟨c / 2 - 1, g1, g2, g3, g4, h⟩⟩
end CHOICE
end
section
/-! Pieces one after another: what has been taken so far. -/
section PARTS
variable {nx : Nat → Option Nat} {lg : Nat → Bool} {n m : Nat} {S E S' E' : Nat → Nat} {I I' : Nat → Bool} {f : Nat → Bool}
/-- the first i pieces of the one claim and those at bits of f among the first k of the other have the addresses T -/
def hc_PR (nx : Nat → Option Nat) (lg : Nat → Bool) (S' E' : Nat → Nat) (I' : Nat → Bool) (f : Nat → Bool) (S E : Nat → Nat) (I : Nat → Bool) (i k : Nat) (T : Nat → Bool) : Prop :=
  ∃ c d : Nat → List Nat, (∀ j, j < i → hc_pp nx lg (S' j) (E' j) (I' j) (c j)) ∧ (∀ p, p < k → f p = true → hc_pp nx lg (S p) (E p) (I p) (d p)) ∧
    (∀ j j', j < i → j' < i → j ≠ j' → hc_Dj (c j) (c j')) ∧ (∀ j p, j < i → p < k → f p = true → hc_Dj (c j) (d p)) ∧ (∀ p q, p < k → q < k → f p = true → f q = true → p ≠ q → hc_Dj (d p) (d q)) ∧
    ∀ g, g < 6 → (T g = true ↔ (∃ j, j < i ∧ g ∈ c j) ∨ ∃ p, p < k ∧ f p = true ∧ g ∈ d p)
theorem hc_PR_0 : hc_PR nx lg S' E' I' f S E I 0 0 (fun _ => false) :=
  ⟨fun _ => [], fun _ => [], fun _ h => absurd h (Nat.not_lt_zero _), fun _ h => absurd h (Nat.not_lt_zero _), fun _ _ h => absurd h (Nat.not_lt_zero _), fun _ _ h => absurd h (Nat.not_lt_zero _), fun _ _ h => absurd h (Nat.not_lt_zero _), fun g _ =>
    ⟨fun h => (by cases h), fun h => by rcases h with ⟨j, h, _⟩ | ⟨j, h, _⟩ <;> exact absurd h (Nat.not_lt_zero _)⟩⟩
theorem hc_up_s {α : Type} (c : Nat → α) (i : Nat) (x : α) : va_up c i x i = x := by unfold va_up; rw [if_pos rfl]
theorem hc_up_n {α : Type} (c : Nat → α) {i j : Nat} (x : α) (h : j ≠ i) : va_up c i x j = c j := by unfold va_up; rw [if_neg h]
theorem hc_PR_right {i : Nat} {T T' : Nat → Bool} (hkey : ∀ g, nx g ≠ none → g < 6) (h : hc_PR nx lg S' E' I' f S E I i 0 T) {l : List Nat} (hl : hc_pp nx lg (S' i) (E' i) (I' i) l) (hT : ∀ a, a ∈ l → T a = false) (hT' : ∀ g, g < 6 → T' g = (T g || decide (g ∈ l))) :
    hc_PR nx lg S' E' I' f S E I (i + 1) 0 T' := by
  obtain ⟨c, d, h1, h2, h3, h4, h5, h6⟩ := h
  have hfr : ∀ j, j < i → hc_Dj l (c j) := fun j hj a ha hb => by
    have h9 := (h6 a (hkey a (hc_pp_cell hl ha))).mpr (Or.inl ⟨j, hj, hb⟩)
    rw [hT a ha] at h9; cases h9
  refine ⟨va_up c i l, d, fun j hj => ?_, fun _ h => absurd h (Nat.not_lt_zero _), fun j j' hj hj' hjj => ?_, fun _ _ _ h => absurd h (Nat.not_lt_zero _), fun _ _ h => absurd h (Nat.not_lt_zero _), fun g hg => ?_⟩
  · by_cases hji : j = i
    · rw [hji, hc_up_s]; exact hl
    · rw [hc_up_n c l hji]; exact h1 j (by omega)
  · by_cases hji : j = i
    · have hj'i : j' ≠ i := fun q => hjj (hji.trans q.symm)
      rw [hji, hc_up_s, hc_up_n c l hj'i]; exact hfr j' (by omega)
    · by_cases hj'i : j' = i
      · rw [hj'i, hc_up_s, hc_up_n c l hji]; exact (hfr j (by omega)).symm
      · rw [hc_up_n c l hji, hc_up_n c l hj'i]; exact h3 j j' (by omega) (by omega) hjj
  · rw [hT' g hg, Bool.or_eq_true, decide_eq_true_eq, h6 g hg]
    constructor
    · rintro ((⟨j, hj, hgj⟩ | ⟨p, hp, _⟩) | hgl)
      · exact Or.inl ⟨j, by omega, by rw [hc_up_n c l (by omega)]; exact hgj⟩
      · exact absurd hp (Nat.not_lt_zero _)
      · exact Or.inl ⟨i, by omega, by rw [hc_up_s]; exact hgl⟩
    · rintro (⟨j, hj, hgj⟩ | ⟨p, hp, _⟩)
      · by_cases hji : j = i
        · rw [hji, hc_up_s] at hgj; exact Or.inr hgj
        · rw [hc_up_n c l hji] at hgj; exact Or.inl (Or.inl ⟨j, by omega, hgj⟩)
      · exact absurd hp (Nat.not_lt_zero _)
theorem hc_PR_right_no {i : Nat} {T : Nat → Bool} (hkey : ∀ g, nx g ≠ none → g < 6) (hi : i < n) (h : hc_PR nx lg S' E' I' f S E I i 0 T) (hno : ¬ ∃ l, hc_pp nx lg (S' i) (E' i) (I' i) l ∧ ∀ a, a ∈ l → T a = false) : ¬ hc_TR nx lg n S' E' I' m f S E I := by
  rintro ⟨c', d', k1, k2, k3, k4, k5, k6⟩
  obtain ⟨c, d, h1, h2, h3, h4, h5, h6⟩ := h
  refine hno ⟨c' i, k1 i hi, fun a ha => ?_⟩
  cases hTa : T a with
  | false => rfl
  | true =>
    rcases (h6 a (hkey a (hc_pp_cell (k1 i hi) ha))).mp hTa with ⟨j, hj, hm⟩ | ⟨p, hp, _⟩
    · rw [hc_pp_det (h1 j hj) (k1 j (by omega))] at hm
      exact absurd hm (k3 i j hi (by omega) (by omega) a ha)
    · exact absurd hp (Nat.not_lt_zero _)
theorem hc_PR_more {k : Nat} {T T' : Nat → Bool} (hkey : ∀ g, nx g ≠ none → g < 6) (h : hc_PR nx lg S' E' I' f S E I n k T) (hf : f k = true) {l : List Nat} (hl : hc_pp nx lg (S k) (E k) (I k) l) (hT : ∀ a, a ∈ l → T a = false) (hT' : ∀ g, g < 6 → T' g = (T g || decide (g ∈ l))) :
    hc_PR nx lg S' E' I' f S E I n (k + 1) T' := by
  obtain ⟨c, d, h1, h2, h3, h4, h5, h6⟩ := h
  have hfr : ∀ j, j < n → hc_Dj (c j) l := fun j hj a ha hb => by
    have h9 := (h6 a (hkey a (hc_pp_cell hl hb))).mpr (Or.inl ⟨j, hj, ha⟩)
    rw [hT a hb] at h9; cases h9
  have hfr2 : ∀ p, p < k → f p = true → hc_Dj (d p) l := fun p hp hfp a ha hb => by
    have h9 := (h6 a (hkey a (hc_pp_cell hl hb))).mpr (Or.inr ⟨p, hp, hfp, ha⟩)
    rw [hT a hb] at h9; cases h9
  refine ⟨c, va_up d k l, h1, fun p hp hfp => ?_, h3, fun j p hj hp hfp => ?_, fun p q hp hq hfp hfq hpq => ?_, fun g hg => ?_⟩
  · by_cases hpk : p = k
    · rw [hpk, hc_up_s]; exact hl
    · rw [hc_up_n d l hpk]; exact h2 p (by omega) hfp
  · by_cases hpk : p = k
    · rw [hpk, hc_up_s]; exact hfr j hj
    · rw [hc_up_n d l hpk]; exact h4 j p hj (by omega) hfp
  · by_cases hpk : p = k
    · have hqk : q ≠ k := fun e => hpq (hpk.trans e.symm)
      rw [hpk, hc_up_s, hc_up_n d l hqk]; exact (hfr2 q (by omega) hfq).symm
    · by_cases hqk : q = k
      · rw [hqk, hc_up_s, hc_up_n d l hpk]; exact hfr2 p (by omega) hfp
      · rw [hc_up_n d l hpk, hc_up_n d l hqk]; exact h5 p q (by omega) (by omega) hfp hfq hpq
  · rw [hT' g hg, Bool.or_eq_true, decide_eq_true_eq, h6 g hg]
    constructor
    · rintro ((h | ⟨p, hp, hfp, hgp⟩) | hgl)
      · exact Or.inl h
      · exact Or.inr ⟨p, by omega, hfp, by rw [hc_up_n d l (by omega)]; exact hgp⟩
      · exact Or.inr ⟨k, by omega, hf, by rw [hc_up_s]; exact hgl⟩
    · rintro (h | ⟨p, hp, hfp, hgp⟩)
      · exact Or.inl (Or.inl h)
      · by_cases hpk : p = k
        · rw [hpk, hc_up_s] at hgp; exact Or.inr hgp
        · rw [hc_up_n d l hpk] at hgp; exact Or.inl (Or.inr ⟨p, by omega, hfp, hgp⟩)
theorem hc_PR_skip {k : Nat} {T : Nat → Bool} (h : hc_PR nx lg S' E' I' f S E I n k T) (hf : f k = false) : hc_PR nx lg S' E' I' f S E I n (k + 1) T := by
  obtain ⟨c, d, h1, h2, h3, h4, h5, h6⟩ := h
  have hk : ∀ p, p < k + 1 → f p = true → p < k := fun p hp hfp => by
    by_cases hpk : p = k
    · rw [hpk, hf] at hfp; cases hfp
    · omega
  refine ⟨c, d, h1, fun p hp hfp => h2 p (hk p hp hfp) hfp, h3, fun j p hj hp hfp => h4 j p hj (hk p hp hfp) hfp, fun p q hp hq hfp hfq => h5 p q (hk p hp hfp) (hk q hq hfq) hfp hfq, fun g hg => ?_⟩
  rw [h6 g hg]
  constructor
  · rintro (h | ⟨p, hp, hfp, hgp⟩)
    · exact Or.inl h
    · exact Or.inr ⟨p, by omega, hfp, hgp⟩
  · rintro (h | ⟨p, hp, hfp, hgp⟩)
    · exact Or.inl h
    · exact Or.inr ⟨p, hk p hp hfp, hfp, hgp⟩
theorem hc_PR_more_no {k : Nat} {T : Nat → Bool} (hkey : ∀ g, nx g ≠ none → g < 6) (hk : k < m) (hf : f k = true) (h : hc_PR nx lg S' E' I' f S E I n k T) (hno : ¬ ∃ l, hc_pp nx lg (S k) (E k) (I k) l ∧ ∀ a, a ∈ l → T a = false) : ¬ hc_TR nx lg n S' E' I' m f S E I := by
  rintro ⟨c', d', k1, k2, k3, k4, k5, k6⟩
  obtain ⟨c, d, h1, h2, h3, h4, h5, h6⟩ := h
  refine hno ⟨d' k, k2 k hk hf, fun a ha => ?_⟩
  cases hTa : T a with
  | false => rfl
  | true =>
    rcases (h6 a (hkey a (hc_pp_cell (k2 k hk hf) ha))).mp hTa with ⟨j, hj, hm⟩ | ⟨p, hp, hfp, hm⟩
    · rw [hc_pp_det (h1 j hj) (k1 j hj)] at hm
      exact absurd ha (k4 j k hj hk hf a hm)
    · rw [hc_pp_det (h2 p hp hfp) (k2 p (by omega) hfp)] at hm
      exact absurd ha (k5 p k (by omega) hk hfp hf (by omega) a hm)
theorem hc_PR_end {T : Nat → Bool} (hkey : ∀ g, nx g ≠ none → g < 6) (h : hc_PR nx lg S' E' I' f S E I n m T) : hc_TR nx lg n S' E' I' m f S E I ↔ ∀ g, g < 6 → nx g ≠ none → T g = true := by
  obtain ⟨c, d, h1, h2, h3, h4, h5, h6⟩ := h
  constructor
  · rintro ⟨c', d', k1, k2, k3, k4, k5, k6⟩ g hg hn
    refine (h6 g hg).mpr ?_
    rcases k6 g hn with ⟨i, hi, hm⟩ | ⟨p, hp, hfp, hm⟩
    · exact Or.inl ⟨i, hi, by rw [hc_pp_det (h1 i hi) (k1 i hi)]; exact hm⟩
    · exact Or.inr ⟨p, hp, hfp, by rw [hc_pp_det (h2 p hp hfp) (k2 p hp hfp)]; exact hm⟩
  · intro hall
    exact ⟨c, d, h1, h2, h3, h4, h5, fun g hn => (h6 g (hkey g hn)).mp (hall g (hkey g hn) hn)⟩
/-- the reference's walk: fresh addresses to the end -/
theorem hc_take_step {T : Nat → Bool} {g g' e : Nat} (hne : g ≠ e) (hg : nx g = some g') (hT : T g = false) : (∃ l, hc_P nx e l g ∧ ∀ a, a ∈ l → T a = false) ↔ ∃ l, hc_P nx e l g' ∧ ∀ a, a ∈ l → va_up T g true a = false := by
  constructor
  · rintro ⟨l, h1, h2⟩
    cases l with
    | nil => exact absurd (hc_P_nil.mp h1) hne
    | cons b l =>
      have hnd := hc_P_nodup _ _ h1
      obtain ⟨k1, k2, y, hy, k3⟩ := hc_P_cons.mp h1
      rw [hg] at hy
      injection hy with hy
      refine ⟨l, by rw [hy]; exact k3, fun a ha => ?_⟩
      have hag : a ≠ g := fun q => (List.nodup_cons.mp hnd).1 (by rw [k1, ← q]; exact ha)
      rw [hc_up_n T true hag]
      exact h2 a (List.mem_cons_of_mem _ ha)
  · rintro ⟨l, h1, h2⟩
    refine ⟨g :: l, hc_P_cons.mpr ⟨rfl, hne, g', hg, h1⟩, fun a ha => ?_⟩
    rcases List.mem_cons.mp ha with ha | ha
    · rw [ha]; exact hT
    · have h3 := h2 a ha
      by_cases hag : a = g
      · rw [hag, hc_up_s] at h3; cases h3
      · rw [hc_up_n T true hag] at h3; exact h3
end PARTS
end
section
/-! own rows: the kit's, over numbers nI and places -/
theorem hw_of (n : Nat) : Int32.ofInt (n : Int) = nI n := rfl
theorem hw_inc (n : Nat) : nI n + Int32.ofInt 1 = nI (n + 1) := by rw [show Int32.ofInt 1 = 1 from rfl]; exact nI_1 n
theorem hw_dec {n : Nat} (h : 0 < n) : nI n + Int32.ofInt (-1) = nI (n - 1) := by
  obtain ⟨k, rfl⟩ : ∃ k, n = k + 1 := ⟨n - 1, by omega⟩
  rw [show Int32.ofInt (-1) = -1 from rfl, Nat.add_sub_cancel]
  exact pk_m1 k
theorem hw_upd {n : Nat} {F : Nat → Int32} {f : Nat → Nat} (h : ∀ i, i < n → F i = nI (f i)) (j x : Nat) : ∀ i, i < n → upd F j (nI x) i = nI (va_up f j x i) := fun i hi => by
  unfold upd va_up
  by_cases hij : i = j
  · rw [if_pos hij, if_pos hij]
  · rw [if_neg hij, if_neg hij]; exact h i hi
theorem hw_updb {n : Nat} {F : Nat → Int32} {f : Nat → Bool} (h : ∀ i, i < n → F i = hc_b (f i)) (j : Nat) (x : Bool) : ∀ i, i < n → upd F j (hc_b x) i = hc_b (va_up f j x i) := fun i hi => by
  unfold upd va_up
  by_cases hij : i = j
  · rw [if_pos hij, if_pos hij]
  · rw [if_neg hij, if_neg hij]; exact h i hi
theorem hw_narb (b : Bool) : vp_nar .boolean (hc_b b) = hc_b b := by cases b <;> decide +kernel
theorem hw_b0 {b : Bool} : hc_b b = 0 ↔ b = false := by cases b <;> decide
section HW
variable {p : Program} {l : Launch} {e : Env} {R : Room} {s : State} {m : MethodId} {args : Array Value} {below : List Frame} {meth : Method} {c : Code} {H : Heap} {locs : List Loc} {cells slots : Nat} {Q : State → Prop}
variable {cc : ByteArray} {pc : Nat} {ls : Array Slot} {rest : List Value} {D : va_G} {cl : List vw_C} {A : Nat → Prop} {tys : List (ClassId × FieldType)} {ws : va_W} {H0 : Heap} {q : Nat}
theorem hw_iadd (hx : p.tables.exec = Jvm.exec) (hb : c.code = cc) {a b : Nat} (hd : decode cc pc = .ok (.iadd, 1)) (k : W p l e R s m args below meth c H locs cells slots Q (F0 m (pc + 1) ls (.int (nI (a + b)) :: rest))) : W p l e R s m args below meth c H locs cells slots Q (F0 m pc ls (.int (nI b) :: .int (nI a) :: rest)) := lv_iadd hx hb hd (by rw [nI_add]; exact k)
theorem hw_imul (hx : p.tables.exec = Jvm.exec) (hb : c.code = cc) {a b : Nat} (hd : decode cc pc = .ok (.imul, 1)) (k : W p l e R s m args below meth c H locs cells slots Q (F0 m (pc + 1) ls (.int (nI (a * b)) :: rest))) : W p l e R s m args below meth c H locs cells slots Q (F0 m pc ls (.int (nI b) :: .int (nI a) :: rest)) := lv_imul hx hb hd (by rw [pk_mul]; exact k)
theorem hw_isub (hx : p.tables.exec = Jvm.exec) (hb : c.code = cc) {a b : Nat} (h : b ≤ a) (hd : decode cc pc = .ok (.isub, 1)) (k : W p l e R s m args below meth c H locs cells slots Q (F0 m (pc + 1) ls (.int (nI (a - b)) :: rest))) : W p l e R s m args below meth c H locs cells slots Q (F0 m pc ls (.int (nI b) :: .int (nI a) :: rest)) := lv_isub hx hb hd (by rw [pk_sub h]; exact k)
theorem hw_icmp_lt (hx : p.tables.exec = Jvm.exec) (hb : c.code = cc) {a b : Nat} (ha : a < 2 ^ 31) (hbb : b < 2 ^ 31) {off : Int} {tgt : Nat} (hd : decode cc pc = .ok (.if_icmp .lt off, 3)) (ht : (pc : Int) + off = (tgt : Int)) (kt : a < b → W p l e R s m args below meth c H locs cells slots Q (F0 m tgt ls rest)) (kf : b ≤ a → W p l e R s m args below meth c H locs cells slots Q (F0 m (pc + 3) ls rest)) : W p l e R s m args below meth c H locs cells slots Q (F0 m pc ls (.int (nI b) :: .int (nI a) :: rest)) := lv_icmp_lt hx hb hd ht (fun h => kt ((nI_ltI ha hbb).mp h)) (fun h => kf (Nat.not_lt.mp (fun q => h ((nI_ltI ha hbb).mpr q))))
theorem hw_icmp_ge (hx : p.tables.exec = Jvm.exec) (hb : c.code = cc) {a b : Nat} (ha : a < 2 ^ 31) (hbb : b < 2 ^ 31) {off : Int} {tgt : Nat} (hd : decode cc pc = .ok (.if_icmp .ge off, 3)) (ht : (pc : Int) + off = (tgt : Int)) (kt : b ≤ a → W p l e R s m args below meth c H locs cells slots Q (F0 m tgt ls rest)) (kf : a < b → W p l e R s m args below meth c H locs cells slots Q (F0 m (pc + 3) ls rest)) : W p l e R s m args below meth c H locs cells slots Q (F0 m pc ls (.int (nI b) :: .int (nI a) :: rest)) := lv_icmp_ge hx hb hd ht (fun h => kt ((nI_leI hbb ha).mp h)) (fun h => kf (Nat.not_le.mp (fun q => h ((nI_leI hbb ha).mpr q))))
theorem hw_icmp_gt (hx : p.tables.exec = Jvm.exec) (hb : c.code = cc) {a b : Nat} (ha : a < 2 ^ 31) (hbb : b < 2 ^ 31) {off : Int} {tgt : Nat} (hd : decode cc pc = .ok (.if_icmp .gt off, 3)) (ht : (pc : Int) + off = (tgt : Int)) (kt : b < a → W p l e R s m args below meth c H locs cells slots Q (F0 m tgt ls rest)) (kf : a ≤ b → W p l e R s m args below meth c H locs cells slots Q (F0 m (pc + 3) ls rest)) : W p l e R s m args below meth c H locs cells slots Q (F0 m pc ls (.int (nI b) :: .int (nI a) :: rest)) := lv_icmp_gt hx hb hd ht (fun h => kt ((nI_ltI hbb ha).mp h)) (fun h => kf (Nat.not_lt.mp (fun q => h ((nI_ltI hbb ha).mpr q))))
theorem hw_icmp_le (hx : p.tables.exec = Jvm.exec) (hb : c.code = cc) {a b : Nat} (ha : a < 2 ^ 31) (hbb : b < 2 ^ 31) {off : Int} {tgt : Nat} (hd : decode cc pc = .ok (.if_icmp .le off, 3)) (ht : (pc : Int) + off = (tgt : Int)) (kt : a ≤ b → W p l e R s m args below meth c H locs cells slots Q (F0 m tgt ls rest)) (kf : b < a → W p l e R s m args below meth c H locs cells slots Q (F0 m (pc + 3) ls rest)) : W p l e R s m args below meth c H locs cells slots Q (F0 m pc ls (.int (nI b) :: .int (nI a) :: rest)) := lv_icmp_le hx hb hd ht (fun h => kt ((nI_leI ha hbb).mp h)) (fun h => kf (Nat.not_le.mp (fun q => h ((nI_leI ha hbb).mpr q))))
theorem hw_icmp_eq (hx : p.tables.exec = Jvm.exec) (hb : c.code = cc) {a b : Nat} (ha : a < 2 ^ 31) (hbb : b < 2 ^ 31) {off : Int} {tgt : Nat} (hd : decode cc pc = .ok (.if_icmp .eq off, 3)) (ht : (pc : Int) + off = (tgt : Int)) (kt : a = b → W p l e R s m args below meth c H locs cells slots Q (F0 m tgt ls rest)) (kf : a ≠ b → W p l e R s m args below meth c H locs cells slots Q (F0 m (pc + 3) ls rest)) : W p l e R s m args below meth c H locs cells slots Q (F0 m pc ls (.int (nI b) :: .int (nI a) :: rest)) := lv_icmp_eq hx hb hd ht (fun h => kt ((nI_eq ha hbb).mp h)) (fun h => kf (fun q => h ((nI_eq ha hbb).mpr q)))
theorem hw_icmp_ne (hx : p.tables.exec = Jvm.exec) (hb : c.code = cc) {a b : Nat} (ha : a < 2 ^ 31) (hbb : b < 2 ^ 31) {off : Int} {tgt : Nat} (hd : decode cc pc = .ok (.if_icmp .ne off, 3)) (ht : (pc : Int) + off = (tgt : Int)) (kt : a ≠ b → W p l e R s m args below meth c H locs cells slots Q (F0 m tgt ls rest)) (kf : a = b → W p l e R s m args below meth c H locs cells slots Q (F0 m (pc + 3) ls rest)) : W p l e R s m args below meth c H locs cells slots Q (F0 m pc ls (.int (nI b) :: .int (nI a) :: rest)) := lv_icmp_ne hx hb hd ht (fun h => kt (fun q => h ((nI_eq ha hbb).mpr q))) (fun h => kf ((nI_eq ha hbb).mp h))
theorem hw_ifeq_b (hx : p.tables.exec = Jvm.exec) (hb : c.code = cc) {b : Bool} {off : Int} {tgt : Nat} (hd : decode cc pc = .ok (.ifCond .eq off, 3)) (ht : (pc : Int) + off = (tgt : Int)) (kt : b = false → W p l e R s m args below meth c H locs cells slots Q (F0 m tgt ls rest)) (kf : b = true → W p l e R s m args below meth c H locs cells slots Q (F0 m (pc + 3) ls rest)) : W p l e R s m args below meth c H locs cells slots Q (F0 m pc ls (.int (hc_b b) :: rest)) := lv_if_eq hx hb hd ht (fun h => kt (hw_b0.mp h)) (fun h => kf (by cases b with | true => rfl | false => exact absurd rfl h))
theorem hw_ifne_b (hx : p.tables.exec = Jvm.exec) (hb : c.code = cc) {b : Bool} {off : Int} {tgt : Nat} (hd : decode cc pc = .ok (.ifCond .ne off, 3)) (ht : (pc : Int) + off = (tgt : Int)) (kt : b = true → W p l e R s m args below meth c H locs cells slots Q (F0 m tgt ls rest)) (kf : b = false → W p l e R s m args below meth c H locs cells slots Q (F0 m (pc + 3) ls rest)) : W p l e R s m args below meth c H locs cells slots Q (F0 m pc ls (.int (hc_b b) :: rest)) := lv_if_ne hx hb hd ht (fun h => kt (by cases b with | true => rfl | false => exact absurd rfl h)) (fun h => kf (hw_b0.mp h))
theorem hw_iald (hx : p.tables.exec = Jvm.exec) (hb : c.code = cc) (hK : va_K D cl tys s) (hP : va_P D cl ws H) (q0 t0 : Nat) {cA : ClassId} {n : Nat} {f : Nat → Int32} (ha : ws[q0]? = some (q, .inl (cA, n, .inl f))) (ht : tys[t0]? = some (cA, .int)) {j : Nat} (hj : j < n) (hn : n < 2 ^ 31) {v : Int32} (hv : f j = v) (hd : decode cc pc = .ok (.iaload, 1)) (k : W p l e R s m args below meth c H locs cells slots Q (F0 m (pc + 1) ls (.int v :: rest))) : W p l e R s m args below meth c H locs cells slots Q (F0 m pc ls (.int (nI j) :: .ref q :: rest)) := va_iald hx hb hK hP q0 t0 ha ht (vp_in_nI hj hn) hd (by rw [nI_clamp (Nat.lt_trans hj hn), hv]; exact k)
theorem hw_zald (hx : p.tables.exec = Jvm.exec) (hb : c.code = cc) (hK : va_K D cl tys s) (hP : va_P D cl ws H) (q0 t0 : Nat) {cA : ClassId} {n : Nat} {f : Nat → Int32} (ha : ws[q0]? = some (q, .inl (cA, n, .inl f))) (ht : tys[t0]? = some (cA, .boolean)) {j : Nat} (hj : j < n) (hn : n < 2 ^ 31) {v : Int32} (hv : f j = v) (hd : decode cc pc = .ok (.baload, 1)) (k : W p l e R s m args below meth c H locs cells slots Q (F0 m (pc + 1) ls (.int v :: rest))) : W p l e R s m args below meth c H locs cells slots Q (F0 m pc ls (.int (nI j) :: .ref q :: rest)) := va_zald hx hb hK hP q0 t0 ha ht (vp_in_nI hj hn) hd (by rw [nI_clamp (Nat.lt_trans hj hn), hv]; exact k)
theorem hw_iast (hx : p.tables.exec = Jvm.exec) (hb : c.code = cc) (hK : va_K D cl tys s) (hP : va_P D cl ws H) (hD : va_D A ws) (hS : va_S A H0 H locs) (q0 t0 : Nat) {cA : ClassId} {n : Nat} {f : Nat → Int32} (ha : ws[q0]? = some (q, .inl (cA, n, .inl f))) (ht : tys[t0]? = some (cA, .int)) {j : Nat} {x : Int32} (hj : j < n) (hn : n < 2 ^ 31) (hd : decode cc pc = .ok (.iastore, 1)) (kk : ∀ (H1 : Heap) (locs1 : List Loc), va_P D cl (ws.set q0 (q, .inl (cA, n, .inl (upd f j x)))) H1 → va_D A (ws.set q0 (q, .inl (cA, n, .inl (upd f j x)))) → va_S A H0 H1 locs1 → W p l e R s m args below meth c H1 locs1 cells slots Q (F0 m (pc + 1) ls rest)) : W p l e R s m args below meth c H locs cells slots Q (F0 m pc ls (.int x :: .int (nI j) :: .ref q :: rest)) := va_iast hx hb hK hP hD hS q0 t0 ha ht (vp_in_nI hj hn) hd (by rw [nI_clamp (Nat.lt_trans hj hn)]; exact kk)
theorem hw_zast (hx : p.tables.exec = Jvm.exec) (hb : c.code = cc) (hK : va_K D cl tys s) (hP : va_P D cl ws H) (hD : va_D A ws) (hS : va_S A H0 H locs) (q0 t0 : Nat) {cA : ClassId} {n : Nat} {f : Nat → Int32} (ha : ws[q0]? = some (q, .inl (cA, n, .inl f))) (ht : tys[t0]? = some (cA, .boolean)) {j : Nat} {x : Int32} (hj : j < n) (hn : n < 2 ^ 31) (hd : decode cc pc = .ok (.bastore, 1)) (kk : ∀ (H1 : Heap) (locs1 : List Loc), va_P D cl (ws.set q0 (q, .inl (cA, n, .inl (upd f j (vp_nar .boolean x))))) H1 → va_D A (ws.set q0 (q, .inl (cA, n, .inl (upd f j (vp_nar .boolean x))))) → va_S A H0 H1 locs1 → W p l e R s m args below meth c H1 locs1 cells slots Q (F0 m (pc + 1) ls rest)) : W p l e R s m args below meth c H locs cells slots Q (F0 m pc ls (.int x :: .int (nI j) :: .ref q :: rest)) := va_zast hx hb hK hP hD hS q0 t0 ha ht (vp_in_nI hj hn) hd (by rw [nI_clamp (Nat.lt_trans hj hn)]; exact kk)
/-- a call that leaves the heap as it is -/
theorem hw_csi {post : Int32 → Prop} {a : Array Value} {st0 : List Value} (hr : va_Run p l e R s m args below meth c H locs cells slots 0 0 (F0 m pc ls st0) rest (vp_Si post a) (fun _ => False)) (kk : ∀ r : Int32, post r → W p l e R s m args below meth c H locs cells slots Q (F0 m (pc + 3) ls (.int r :: rest))) : W p l e R s m args below meth c H locs cells slots Q (F0 m pc ls st0) := by
  intro T hT X
  obtain ⟨v, st₀, t, T', L, h0, X', hL, e1, -, ⟨r, hv, hp, hh⟩, st⟩ := hr T hT X
  cases hv
  obtain ⟨t2, a1, b1⟩ := kk r hp T' (by rw [e1, hh, h0]) (Stand.forget X' (fun q h => (hL q h).elim))
  exact ⟨t2, st t2 a1, b1⟩
theorem hw_csr {post : Nat → Prop} {ad : Nat → Value} {a : Array Value} {st0 : List Value} (hr : va_Run p l e R s m args below meth c H locs cells slots 0 0 (F0 m pc ls st0) rest (va_Sr post ad a) (fun _ => False)) (kk : ∀ k : Nat, post k → W p l e R s m args below meth c H locs cells slots Q (F0 m (pc + 3) ls (ad k :: rest))) : W p l e R s m args below meth c H locs cells slots Q (F0 m pc ls st0) := by
  intro T hT X
  obtain ⟨v, st₀, t, T', L, h0, X', hL, e1, -, ⟨r, hv, hp, hh⟩, st⟩ := hr T hT X
  cases hv
  obtain ⟨t2, a1, b1⟩ := kk r hp T' (by rw [e1, hh, h0]) (Stand.forget X' (fun q h => (hL q h).elim))
  exact ⟨t2, st t2 a1, b1⟩
theorem hw_csv {post : Unit → Prop} {a : Array Value} {st0 : List Value} (hr : va_Run p l e R s m args below meth c H locs cells slots 0 0 (F0 m pc ls st0) rest (va_Sv post a) (fun _ => False)) (kk : post () → W p l e R s m args below meth c H locs cells slots Q (F0 m (pc + 3) ls rest)) : W p l e R s m args below meth c H locs cells slots Q (F0 m pc ls st0) := by
  intro T hT X
  obtain ⟨v, st₀, t, T', L, h0, X', hL, e1, -, ⟨hv, hp, hh⟩, st⟩ := hr T hT X
  cases hv
  obtain ⟨t2, a1, b1⟩ := kk hp T' (by rw [e1, hh, h0]) (Stand.forget X' (fun q h => (hL q h).elim))
  exact ⟨t2, st t2 a1, b1⟩
end HW
end
section
/-! Methods that throw and have written nothing: their contract, the throw, the way out through a caller, the catch. -/
/-- since s0 nothing that was there has changed -/
def hx_Old (s0 U : State) : Prop := s0.WarmedH U.vm ∧ s0.heap.size ≤ U.heap.size ∧ ∀ q : Nat, q < s0.heap.size → U.heap[q]? = s0.heap[q]?
theorem hx_Old.step {s0 s U : State} (h : hx_Old s0 s) (hW : s.WarmedH U.vm) (hz : s.heap.size ≤ U.heap.size) (hq : ∀ q : Nat, q < s.heap.size → U.heap[q]? = s.heap[q]?) : hx_Old s0 U :=
  ⟨State.WarmedH.trans h.1 hW, Nat.le_trans h.2.1 hz, fun q h1 => (hq q (Nat.lt_of_lt_of_le h1 h.2.1)).trans (h.2.2 q h1)⟩
theorem hx_lays {C n d : String} {a a' : Array Value} {s0 U : State} (hO : hx_Old s0 U) (h : (Cond.laysStatic C n d).before a s0 = true) : (Cond.laysStatic C n d).before a' U = true := by
  obtain ⟨c, k, i, f, q, cell, h1, h2, h3, h4, h5, h6, h7, h8, h9⟩ := Cond.laysStatic_spec h
  obtain ⟨k', hi', he⟩ := State.fieldFound?_setVm hO.1.alike h2
  show (Cond.laysStatic C n d).holds a' U none U [] = true
  exact Cond.laysStatic_of (by rw [hO.1.alike.findClass]; exact h1) hi' h3 (by rw [he]; exact h4) (by rw [hO.2.2 q (Array.getElem?_eq_some_iff.mp h5).1]; exact h5) h6 h7 h8 (by rw [he]; exact h9)
theorem hx_ref {C n d : String} {a a' : Array Value} {s0 U : State} (hO : hx_Old s0 U) (hl : (Cond.laysStatic C n d).before a s0 = true) (hini : (Cond.initialized C).before a s0 = true) (h : (Cond.isRef (.static C n d)).before a s0 = true) : (Cond.isRef (.static C n d)).before a' U = true := by
  have hz : va_Zq C n d (fun q => s0.heap.size ≤ q) s0 s0.heap := va_Zqof hl hini h (fun q hq hA => absurd hq (Nat.not_lt.mpr hA))
  have hz : va_Zq C n d (fun q => s0.heap.size ≤ q) U U.heap := va_Zq.moved hO.1.alike (hz.kept (H1 := U.heap) (fun q hq _ => hO.2.2 q hq))
  rcases hz with hz | ⟨t, hz⟩
  · obtain ⟨cf, kf, fi, f, q, cell, h1, h2, h3, h4, h5, h6, h7, -⟩ := hz
    have he : (Term.static C n d).eval a' U none [] U = some .null := by simp [Term.eval, State.fieldNamed?, h1, h2, h4, h5, h6, h7]
    simp [Cond.before, Cond.holds, Cond.value, he]
  · obtain ⟨cf, kf, fi, f, q, cell, h1, h2, h3, h4, h5, h6, h7, -⟩ := hz
    have he : (Term.static C n d).eval a' U none [] U = some (.ref t) := by simp [Term.eval, State.fieldNamed?, h1, h2, h4, h5, h6, h7]
    simp [Cond.before, Cond.holds, Cond.value, he]
/-- the end of a method that throws an E -/
def hx_Q (E : String) : Array Value → State → Outcome → State → Prop := fun _ st o t =>
  ∃ (q : Addr) (ce : Cell), o = .threw q ∧ t.heap[q]? = some ce ∧ ce.vm = .none ∧ st.vm.findClass E = some ce.cls ∧ st.WarmedH t.vm ∧ st.sameButNew ({ t with vm := st.vm } : State) [] 1 6
def hx_Met (l : Launch) (y : MethodName) (ws : List Cond) (rm : Room) (Pc : Array Value → State → Prop) (E : String) : Prop := MetFree l y (headSpec ws rm) Pc (fun _ _ _ _ _ => True) (hx_Q E)
def hx_MQ (below : List Frame) (E : String) (a : Array Value) (s : State) : State → Prop := fun t => ∃ o, t.status = .running ∧ Ended t below o ∧ hx_Q E a s o t
theorem hx_ofW {l : Launch} {y : MethodName} {ws ws' : List Cond} {rm : Room} {Pc : Array Value → State → Prop} {E : String} {cc : ByteArray} {maxL : Nat} {ret : Option FieldType}
    (hy : plainName y.cls = true) (hw : ws = Cond.code y cc maxL ret :: ws')
    (body : ∀ p e s m args below meth c s₁, BodyLoose p l y (headSpec ws rm) cc maxL ret e s m args below meth c s₁ → c.maxLocals = maxL → c.exceptionTable.isEmpty = true → Pc args s →
      W p l e (headSpec ws rm).room s m args below meth c s.heap [] 0 0 (hx_MQ below E args s) (entryFrame m args maxL)) : hx_Met l y ws rm Pc E := by
  refine MetFree.of_bodyS (code := cc) (maxLocals := maxL) (ret := ret) hy ?_ ?_
  · intro args s m h hn
    obtain ⟨meth, c, h1, h2, h3, h4, h5, h6, -, -⟩ := Cond.code_spec hn (atoms_spec (ws := ws) h _ (by rw [hw]; exact List.mem_cons_self))
    exact ⟨meth, c, h1, h2, h3, h4, h5, h6⟩
  · intro p e s m args below meth c s₁ B hml hP _
    have hh0 : s₁.heap = s.heap := by rw [B.state]; rfl
    obtain ⟨t, a1, o, b1, b2, b3⟩ := body p e s m args below meth c s₁ B hml (B.noHandlers (atoms_spec (ws := ws) B.pre _ (by rw [hw]; exact List.mem_cons_self))) hP s₁ hh0 (Stand.of_body B)
    exact ⟨t, o, a1, b1, b2, b3⟩
section HX
variable {p : Program} {l : Launch} {e : Env} {R : Room} {s : State} {m : MethodId} {args : Array Value} {below : List Frame} {meth : Method} {c : Code} {H : Heap} {locs : List Loc} {cells slots : Nat} {Q : State → Prop}
variable {cc : ByteArray} {pc : Nat} {ls : Array Slot} {rest : List Value}
/-- throw new cls(text) -/
theorem hx_throw (hx : p.tables.exec = Jvm.exec) (hb : c.code = cc) (hl : l.stackTraces = false) {own cls text : String} {names : List String} {ik is ic sa : Nat}
    (hown : s.vm.findClass own = some m.cls) (hcls : Bundle.fit cls = true) (hnames : ∀ n ∈ names, Bundle.fit n = true)
    (hk : (Cond.classLink own ik cls).before args s = true) (hini : (Cond.initialized cls).before args s = true) (hstr : vk_R own is text sa s) (h : ∀ w ∈ Bundle.ownAtoms own ic cls names, w.before args s = true) (hsize : ls.size = c.maxLocals)
    (d0 : decode cc pc = .ok (.new ik, 3)) (d3 : decode cc (pc + 3) = .ok (.dup, 1)) (d4 : decode cc (pc + 4) = .ok (.ldc is, 2)) (d6 : decode cc (pc + 6) = .ok (.invokespecial ic, 3)) (d9 : decode cc (pc + 9) = .ok (.athrow, 1))
    (hout : c.exceptionTable.isEmpty = true) (hRf : names.length + 3 < R.frames) (hRl : (rest.map fun v => v.category).sum + (13 * (names.length + 1) + 43) ≤ R.locals) (hRc : 1 ≤ R.cells) (hRs : 6 ≤ R.slots) (hlocks : meth.locks = false) :
    W p l e R s m args below meth c H [] 0 0 (hx_MQ below cls args s) (F0 m pc ls rest) := by
  intro T hT X
  have htr : e.platform.stackTraces = false := (show e.platform.stackTraces = l.stackTraces by rw [X.admits.platform]).trans hl
  have hins : (Cond.instantiable cls 6).before args s = true := h _ (by simp [Bundle.ownAtoms])
  obtain ⟨vm₁, cX, kX, hfX, hkX, -, -, X₁, st1⟩ := X.newCold hx (own := own) (C := cls) (index := ik) (n := 6) hown hk hins hini (g := F0 m pc ls rest) rfl (by rw [hb]; exact d0) (by omega) (by omega)
  generalize hT1 : (T.setVm vm₁).pushCell { cls := cX, slots := kX.instanceTypes.map defaultValue, vm := .none } = T1 at X₁ st1
  have hcellA : T1.heap[T.heap.size]? = some (freshCell cX kX) := by rw [← hT1]; exact State.heap_pushCell_size _ _
  have hcat : (Value.ref T.heap.size).category = 1 := rfl
  have d3' : decode c.code (pc + 3) = .ok (.dup, 1) := by rw [hb]; exact d3
  have hnil : c.exceptionTable.toList = [] := by rw [Array.isEmpty_iff.mp hout]
  obtain ⟨U, hsteps, hrun, hend, hW, hsame, ce, hce, hO⟩ := X₁.ctorThrowS hx htr (own := own) (cls := cls) (names := names) (ic := ic) hown hcls hnames h (fun x hx => nomatch hx) hfX hkX hcellA X.same.2.1 (msg := .ref sa) rfl
    (g := { method := m, pc := pc + 6, locals := ls, stack := .ref sa :: .ref T.heap.size :: .ref T.heap.size :: rest, locked := none }) rfl hsize rfl rfl (rest := rest) rfl
    (by rw [hb]; exact d6) (by rw [hb]; exact d9) (fun x hx => by rw [hnil] at hx; cases hx) hRf (by simp only [List.map_cons, List.sum_cons, hcat]; show 2 * 0 + _ + _ ≤ _; omega) hlocks
  refine ⟨U, ?_, .threw T.heap.size, hrun, hend, T.heap.size, ce, rfl, hce, hO.vm, hO.cls, hW, hsame⟩
  refine st1 _ ?_
  show Steps p.tables e below (T1.setTop { method := m, pc := pc + 3, locals := ls, stack := .ref T.heap.size :: rest, locked := none }) _
  jvm_step X₁.here [X₁.here.top, hx, d3', Value.category]
  exact X₁.ldcString hx (own := own) (text := text) (index := is) (a := sa) hown hstr.1 hstr.2
    (g := { method := m, pc := pc + 4, locals := ls, stack := .ref T.heap.size :: .ref T.heap.size :: rest, locked := none }) rfl (by rw [hb]; exact d4) _ hsteps
/-- a call that throws an E: what is left -/
def hx_Run (p : Program) (l : Launch) (e : Env) (R : Room) (s : State) (m : MethodId) (args : Array Value) (below : List Frame) (meth : Method) (c : Code) (H : Heap) (locs : List Loc) (cells slots : Nat) (g : JFrame) (rest : List Value) (E : String) : Prop :=
  ∀ T : State, T.heap = H → Stand p l e R s m args below meth c T locs cells slots → ∃ (q : Addr) (T' : State) (ce : Cell), Stand p l e R s m args below meth c T' locs (cells + 1) (slots + 6) ∧ H.size ≤ T'.heap.size ∧ (∀ a : Nat, a < H.size → T'.heap[a]? = H[a]?) ∧
    T'.heap[q]? = some ce ∧ ce.vm = .none ∧ s.vm.findClass E = some ce.cls ∧ Steps p.tables e below (T.setTop g) ((T'.setTop { g with stack := rest }).pushFrame (.throwing q))
theorem hx_frame {s U : State} {k n : Nat} (h : s.sameButNew U [] k n) : s.heap.size ≤ U.heap.size ∧ ∀ q : Nat, q < s.heap.size → U.heap[q]? = s.heap[q]? := by
  obtain ⟨-, h2, -, -, -, h6⟩ := h
  refine ⟨h2, fun q hq => ?_⟩
  obtain ⟨c9, e1, e2, e3, e4⟩ := h6 q _ (Array.getElem?_eq_getElem hq)
  have hs : c9.slots = (s.heap[q]).slots := Array.ext_getElem? fun i => e4 i (fun hm => nomatch hm)
  rw [hs] at e2
  rw [e1, Array.getElem?_eq_getElem hq, e2]
/-- behind the link of an invocation: the callee by its contract -/
theorem hx_back {y : MethodName} {ws : List Cond} {rm : Room} {Pc : Array Value → State → Prop} {E : String} {bytes : ByteArray} {maxL : Nat} {ret : Option FieldType} {n index : Nat} {own : String} {T : State} {g : JFrame} {ig : Instr} {mk : MethodId} {a : Array Value}
    (X : Stand p l e R s m args below meth c T locs cells slots) (hM : hx_Met l y ws rm Pc E) (cb : CallB R s args own index y bytes maxL ret ws rm 1 6 n) (hbl : FrameBlind Pc) (hg : g.method = m) (hsize : g.locals.size = c.maxLocals)
    (hdg : decode c.code g.pc = .ok (ig, 3)) (hW : 2 * g.monitorRoom + (g.stack.map fun v => v.category).sum ≤ 8) (hn : T.methodNamed? y = some mk) (hf : cells + 1 ≤ R.cells ∧ slots + 6 ≤ R.slots) (hPc : Pc a T) :
    ∃ (q : Addr) (T' : State) (ce : Cell), Stand p l e R s m args below meth c T' locs (cells + 1) (slots + 6) ∧ T.heap.size ≤ T'.heap.size ∧ (∀ b : Nat, b < T.heap.size → T'.heap[b]? = T.heap[b]?) ∧
      T'.heap[q]? = some ce ∧ ce.vm = .none ∧ s.vm.findClass E = some ce.cls ∧ Steps p.tables e below (doInvoke e (T.setTop g) [] mk a).1 ((T'.setTop g).pushFrame (.throwing q)) := by
  obtain ⟨hrc, hrs, hfr, hlo, hws, hcw, -, hini, -⟩ := cb
  have h1 : (headSpec ws rm).pre.before a T = true := atoms_intro fun w hw => hws w hw _ _ X.warmed
  have h2 : (Cond.code y bytes maxL ret).before a T = true := hws _ hcw _ _ X.warmed
  have h3 : (Cond.initialized y.cls).before a T = true := word_at X.warmed (Or.inl (by first | rfl | simp [Cond.onTables, Cond.keeps, Cond.steady])) hini
  obtain ⟨methY, cY, hmY, hcY, -, hlY, -, -, -, -⟩ := Cond.code_spec hn h2
  obtain ⟨kY, hkY, -⟩ := className_of_methodNamed hn
  have hinitY : kY.init = .initialized := Cond.initialized_spec (findClass_of_methodNamed hn) hkY h3
  have hA : At T g.method c below := by rw [hg]; exact X.here
  have hlo9 : 8 + (maxL + 11) + (headSpec ws rm).room.locals ≤ R.locals := hlo
  have happ : (headSpec ws rm).appliesLoose y e.platform (T.calling g mk a) = true :=
    Spec.appliesLoose_calling (g := g) hA hdg hn hkY hinitY (X.room_calling (g := g) (R' := (headSpec ws rm).room) hsize hmY hcY hfr (by rw [hlY]; omega) (by rw [show (headSpec ws rm).room.cells = 1 from hrc]; exact hf.1) (by rw [show (headSpec ws rm).room.slots = 6 from hrs]; exact hf.2)) h1
  have hfrm : (T.setTop g).frames = [.java g] ++ below := by rw [State.frames_setTop' g hA.top, X.tail]; rfl
  obtain ⟨o, s₂, hsteps, -, hend, hq⟩ := Steps.callFree hM p X.admits X.cas X.clock (acts := []) hfrm happ (hbl _ _ _ _ hPc) trivial
  obtain ⟨q, ce, rfl, hce, hcv, hcl, hW₂, hsm⟩ := (show hx_Q E a (T.calling g mk a) o s₂ from hq)
  rw [hfrm] at hend
  obtain ⟨T', X', hTW, hTs, hs₂⟩ := X.outOfThrown hg (mk := mk) (a := a) hend hW₂ hsm
  obtain ⟨f1, f2⟩ := hx_frame hTs
  rw [List.append_nil] at X'
  have hheap : s₂.heap = T'.heap := by rw [hs₂]; exact Stand.throwing_heap T' g q
  refine ⟨q, T', ce, X', f1, f2, by rw [← hheap]; exact hce, hcv, ?_, by rw [← hs₂]; exact hsteps⟩
  have hcl' : T.vm.findClass E = some ce.cls := hcl
  rw [X.warmed.alike.findClass] at hcl'
  exact hcl'
theorem hx_runV {y : MethodName} {ws : List Cond} {rm : Room} {Pc : Array Value → State → Prop} {E : String} {bytes : ByteArray} {maxL nL : Nat} {ret : Option FieldType} {n index : Nat} {own C : String} {Ts : List Cond} {b : Addr} {As : List Value} {g : JFrame}
    (S : CallFix p m c cc nL s args Ts own) (hM : hx_Met l y ws rm Pc E) (cw : CallW R s args own C index y bytes maxL ret ws rm 1 6 n) (hp : PreV s H C b Pc As) (hg : g.method = m) (hn : As.length = n) (hsize : g.locals.size = nL)
    (hstack : g.stack = As.reverse ++ .ref b :: rest) (hW : 2 * g.monitorRoom + (rest.map fun v => v.category).sum ≤ 8) (hdg : decode cc g.pc = .ok (.invokevirtual index, 3)) (hf : cells + 1 ≤ R.cells ∧ slots + 6 ≤ R.slots) :
    hx_Run p l e R s m args below meth c H locs cells slots g rest E := by
  have cb := cw.1
  obtain ⟨⟨-, -, -, -, -, -, hcode, -, hy, hlen, hl⟩, hin, hse⟩ := cw
  obtain ⟨hx, hb, hml, ho, -⟩ := S
  obtain ⟨hbl, ⟨cellB, hcB, hoB, hclB⟩, hPc⟩ := hp
  intro T hT X
  obtain ⟨mk, methM, hnamed, hmethM, hstM, habM⟩ := Cond.instanceMethod_spec hin
  obtain ⟨methM', cM, hmethM', -, -, -, -, -, -, hsigM⟩ := Cond.code_spec hnamed hcode
  cases hmethM.symm.trans hmethM'
  obtain ⟨c2, r2, m2, q1, q2, q3, q4, kP, hkP, hkPi⟩ := Cond.selects_spec hse
  cases hclB.symm.trans q1
  cases (State.methodFound?_of_named hnamed hy).symm.trans q2
  cases hnamed.symm.trans q3
  have hselP : selectMethod e.platform s.vm cellB.cls mk = .method mk := by rw [Launch.admits_selectMethod X.admits]; exact q4
  obtain ⟨vm₁, X₁, hstep₁⟩ := X.invokevirtual hx ho hl hnamed hmethM hstM hkP hkPi hy (a := b) (cell := cellB) (by rw [hT]; exact hcB)
    (fun z h => by rw [h] at hoB; cases hoB) hselP hmethM habM hkP hkPi (g := g) hg (argsL := As) (rest := rest) (hn.trans (hlen _ hsigM)) hstack (by rw [hb]; exact hdg)
  obtain ⟨q, T', ce, X', h1, h2, h3, h4, h5, hst⟩ := hx_back (g := { g with stack := rest }) (ig := .invokevirtual index) X₁ hM cb hbl hg (hsize.trans hml.symm) (by rw [hb]; exact hdg) hW (X₁.named hnamed) hf (hPc (T.setVm vm₁) hT X₁.warmed)
  refine ⟨q, T', ce, X', by rw [← hT]; exact h1, fun a ha => ?_, h3, h4, h5, hstep₁ _ fun acts => by rw [doInvoke_state]; exact hst⟩
  rw [← hT] at ha ⊢
  exact h2 a ha
/-- not caught here -/
theorem hx_out {E : String} {st0 : List Value} (hr : hx_Run p l e R s m args below meth c H [] 0 0 (F0 m pc ls st0) rest E) (hout : c.exceptionTable.isEmpty = true) (hlocks : meth.locks = false) :
    W p l e R s m args below meth c H [] 0 0 (hx_MQ below E args s) (F0 m pc ls st0) := by
  intro T hT X
  obtain ⟨q, T', ce, X', h1, h2, h3, h4, h5, hst⟩ := hr T hT X
  have hnil : c.exceptionTable.toList = [] := by rw [Array.isEmpty_iff.mp hout]
  obtain ⟨st1, hrun, hend, hW, hsm⟩ := X'.leaveThrown q (g := F0 m pc ls rest) rfl rfl rfl (fun x hx => by rw [hnil] at hx; cases hx) hlocks
  exact ⟨_, hst.trans st1, .threw q, hrun, hend, q, ce, rfl, h3, h4, h5, hW, hsm⟩
end HX
end
section
/-! The catch by a row of the method's own table, its class resolved or not yet. -/
section HXC
variable {e : Env} {f : JFrame} {a : Addr} {cell : Cell} {s₀ : State}
/-- what the search does with the rows ahead and the row that takes it, from any state whose tables are as warm -/
theorem hx_search (hcv : cell.vm = .none) (hk0 : ∃ k, s₀.vm.classes[cell.cls]? = some k) (x : ExceptionTableEntry) (rest : List ExceptionTableEntry) (hx : covers x f.pc = true) (h0 : x.catchType ≠ 0) {ct : ClassId}
    (hl : s₀.vm.ClassLinks e.platform f.method.cls x.catchType ct) (hfit : s₀.vm.assignable cell.cls ct = true) :
    ∀ (pre : List ExceptionTableEntry) (V : State), s₀.WarmedH V.vm → V.heap[a]? = some cell →
      (∀ y ∈ pre, covers y f.pc = false ∨ (y.catchType ≠ 0 ∧ ∃ c, s₀.vm.ClassLinks e.platform f.method.cls y.catchType c ∧ s₀.vm.assignable cell.cls c = false)) →
      ∃ vm', s₀.WarmedH vm' ∧ ∀ (Q : Handler → Pre) (E : CtlPost) (d : Bool) (acts : List Action), wp (findHandler.go f a (pre ++ x :: rest)) Q E e d acts V ↔ Q (.found x.handlerPc) d acts (V.setVm vm') := by
  obtain ⟨k0, hk0⟩ := hk0
  have hobj : ∀ k, cell.vm ≠ .statics k := fun k h => by rw [hcv] at h; cases h
  -- one row whose class links: resolved now if it wasn't
  have row : ∀ (V : State) (y : ExceptionTableEntry) (c : ClassId), s₀.WarmedH V.vm → V.heap[a]? = some cell → covers y f.pc = true → y.catchType ≠ 0 → s₀.vm.ClassLinks e.platform f.method.cls y.catchType c →
      ∃ vm', s₀.WarmedH vm' ∧ ∀ (t : List ExceptionTableEntry) (Q : Handler → Pre) (E : CtlPost) (d : Bool) (acts : List Action),
        wp (findHandler.go f a (y :: t)) Q E e d acts V ↔ (if s₀.vm.assignable cell.cls c = true then Q (.found y.handlerPc) d acts (V.setVm vm') else wp (findHandler.go f a t) Q E e d acts (V.setVm vm')) := by
    intro V y c hW hcell hy hy0 hlk
    have hlk' := hW.classLinks hlk
    obtain ⟨dk, _, _, kt, hd, _, _, _, _, hkt, _, hopen⟩ := hlk.here
    refine ⟨_, hW.noted hd hopen (State.rightAt_cls hlk), fun t Q E d acts => ?_⟩
    simp only [covers] at hy
    obtain ⟨ha, ht⟩ := (resolveClass_links e.toSetting hlk').op (op := VmOp.resolveClass f.method.cls y.catchType) rfl
    have hal : s₀.vm.Alike (V.vm.noted f.method.cls y.catchType (.cls c)) := hW.alike.trans ((Vm.Alike.refl V.vm).noted _ _ _)
    obtain ⟨k1', hk1', -⟩ := hal.2.2 _ _ hk0
    obtain ⟨k2', hk2', -⟩ := hal.2.2 _ _ hkt
    have hasg : (V.vm.noted f.method.cls y.catchType (.cls c)).assignable cell.cls c = s₀.vm.assignable cell.cls c := hal.assignable _ _
    by_cases hq : s₀.vm.assignable cell.cls c = true
    · rw [if_pos hq]
      rw [hq] at hasg
      simp [findHandler.go, hy, hy0, ha, ht, hcell, hobj, hk1', hk2', hasg, VmOp.dirties, VmOp.acts]
    · rw [if_neg hq]
      rw [Bool.not_eq_true] at hq
      rw [hq] at hasg
      simp [findHandler.go, hy, hy0, ha, ht, hcell, hobj, hk1', hk2', hasg, VmOp.dirties, VmOp.acts]
  intro pre
  induction pre with
  | nil =>
    intro V hW hcell _
    obtain ⟨vm', h1, h2⟩ := row V x ct hW hcell hx h0 hl
    exact ⟨vm', h1, fun Q E d acts => by rw [List.nil_append, h2, if_pos hfit]⟩
  | cons y ys ih =>
    intro V hW hcell hp
    have hp' := fun z hz => hp z (List.mem_cons_of_mem _ hz)
    rcases hp y List.mem_cons_self with hs | ⟨hy0, c, hlk, hno⟩
    · obtain ⟨vm', h1, h2⟩ := ih V hW hcell hp'
      exact ⟨vm', h1, fun Q E d acts => by rw [List.cons_append, W.findHandler_go_skip hs]; exact h2 Q E d acts⟩
    · by_cases hcov : covers y f.pc = true
      · obtain ⟨vm1, h1, h2⟩ := row V y c hW hcell hcov hy0 hlk
        obtain ⟨vm', h3, h4⟩ := ih (V.setVm vm1) h1 hcell hp'
        exact ⟨vm', h3, fun Q E d acts => by rw [List.cons_append, h2, if_neg (by rw [hno]; decide)]; exact h4 Q E d acts⟩
      · obtain ⟨vm', h1, h2⟩ := ih V hW hcell hp'
        exact ⟨vm', h1, fun Q E d acts => by rw [List.cons_append, W.findHandler_go_skip (by simpa using hcov)]; exact h2 Q E d acts⟩
end HXC
section HXD
variable {p : Program} {l : Launch} {e : Env} {R : Room} {s : State} {m : MethodId} {args : Array Value} {below : List Frame} {meth : Method} {c : Code} {H : Heap} {locs : List Loc} {cells slots : Nat} {Q : State → Prop}
variable {cc : ByteArray} {pc : Nat} {ls : Array Slot} {rest : List Value}
theorem hx_caught {T : State} (X : Stand p l e R s m args below meth c T locs cells slots) (a : Addr) {g : JFrame} (hg : g.method = m) {cell : Cell} (hcell : T.heap[a]? = some cell) (hcv : cell.vm = .none) (hk0 : ∃ k, s.vm.classes[cell.cls]? = some k)
    (pre : List ExceptionTableEntry) (x : ExceptionTableEntry) (suf : List ExceptionTableEntry) (hsplit : c.exceptionTable.toList = pre ++ x :: suf)
    (hpass : ∀ y ∈ pre, covers y g.pc = false ∨ (y.catchType ≠ 0 ∧ ∃ c', s.vm.ClassLinks e.platform m.cls y.catchType c' ∧ s.vm.assignable cell.cls c' = false)) (hx : covers x g.pc = true) (h0 : x.catchType ≠ 0) {ct : ClassId}
    (hl : s.vm.ClassLinks e.platform m.cls x.catchType ct) (hfit : s.vm.assignable cell.cls ct = true) :
    ∃ vm', Stand p l e R s m args below meth c (T.setVm vm') locs cells slots ∧
      ∀ target, Steps p.tables e below ((T.setVm vm').setTop { g with pc := x.handlerPc, stack := [.ref a] }) target → Steps p.tables e below ((T.setTop g).pushFrame (.throwing a)) target := by
  subst hg
  obtain ⟨vm', hW', hq⟩ := hx_search (e := e) (f := g) (a := a) (s₀ := s) hcv hk0 x suf hx h0 hl hfit pre ((T.setTop g).pushFrame (.throwing a)) X.warmed hcell hpass
  refine ⟨vm', X.noted hW', fun target hrest => ?_⟩
  obtain ⟨hgo, hw⟩ := X.here.throwing a
  refine Steps.head hgo hw ?_
  have hfind : ∀ (Q : Handler → Pre) (E : CtlPost) (d : Bool) (acts : List Action), wp (findHandler g a) Q E e d acts ((T.setTop g).pushFrame (.throwing a)) ↔ Q (.found x.handlerPc) d acts (((T.setTop g).pushFrame (.throwing a)).setVm vm') := fun Q E d acts => by
    rw [W.findHandler_eq (s := (T.setTop g).pushFrame (.throwing a)) (meth := meth) (code := c) X.method' X.code, hsplit]
    exact hq Q E d acts
  have hstep : ∀ r : List Frame, (stepThrowing e ((T.setTop g).pushFrame (.throwing a)) a (.java g :: r)).Is ((((T.setTop g).pushFrame (.throwing a)).setVm vm').setFrames (.java { g with pc := x.handlerPc, stack := [.ref a] } :: r)) [] := by
    intro r
    simp only [stepThrowing, searchFrame, vmDo]
    generalize hr : Sem.go _ e false [] ((T.setTop g).pushFrame (.throwing a)) = res
    obtain ⟨as, rfl, ha⟩ := Sem.eq_ok_of hr (a := Handler.found x.handlerPc) (s' := ((T.setTop g).pushFrame (.throwing a)).setVm vm') (acts' := []) (by simp [hfind _ _ _ _])
    exact ⟨rfl, ha⟩
  rw [stepThread_throwing (frames_entered X.here.top _), (hstep _).1]
  obtain ⟨g₀, hg⟩ := Option.isSome_iff_exists.mp X.here.top
  obtain ⟨r, hr⟩ := State.topJava?_eq_some.mp hg
  have hr' : (T.setVm vm').frames = .java g₀ :: r := hr
  have hre : ∀ (u : State) (F G : List Frame), ((u.setFrames F).setVm vm').setFrames G = (u.setVm vm').setFrames G := fun u F G => by
    have h1 : (u.setFrames F).setVm vm' = (u.setVm vm').setFrames F := rfl
    rw [h1, State.setFrames_setFrames]
  rw [State.setTop_of_frames _ hr'] at hrest
  rw [hr, List.tail_cons, State.pushFrame, hre, State.setTop_of_frames _ hr, hre]
  exact hrest
/-- the call throws, and this method's table takes it -/
theorem hx_catch {E own name : String} {st0 : List Value} (hr : hx_Run p l e R s m args below meth c H locs cells slots (F0 m pc ls st0) rest E) (hown : s.vm.findClass own = some m.cls)
    (pre : List ExceptionTableEntry) (x : ExceptionTableEntry) (suf : List ExceptionTableEntry) (hsplit : c.exceptionTable.toList = pre ++ x :: suf)
    (hpass : ∀ z ∈ pre, covers z pc = false ∨ (z.catchType ≠ 0 ∧ ∃ nm : String, (Cond.classLink own z.catchType nm).before args s = true ∧ va_Nc E nm s)) (hx : covers x pc = true) (h0 : x.catchType ≠ 0)
    (hlink : (Cond.classLink own x.catchType name).before args s = true) (hcast : (Cond.castable E name).before args s = true)
    (kk : ∀ (q : Nat) (H1 : Heap), H.size ≤ H1.size → (∀ a : Nat, a < H.size → H1[a]? = H[a]?) → W p l e R s m args below meth c H1 locs (cells + 1) (slots + 6) Q (F0 m x.handlerPc ls [.ref q])) : W p l e R s m args below meth c H locs cells slots Q (F0 m pc ls st0) := by
  intro T hT X
  obtain ⟨q, T', ce, X', h1, h2, h3, h4, h5, hst⟩ := hr T hT X
  have hpl : e.platform.magicAccessors = ({} : Platform).magicAccessors := by rw [X.admits.platform]
  obtain ⟨c3, c4, hc3, hc4, hasg⟩ := Cond.castable_spec hcast
  cases Option.some.inj (hc3.symm.trans h5)
  obtain ⟨c5, hc5, hcl5⟩ := Cond.classLink_spec hown hlink e.platform hpl
  cases Option.some.inj (hc4.symm.trans hc5)
  obtain ⟨vm', XV, st⟩ := hx_caught X' q (g := F0 m pc ls rest) rfl h3 h4 (by obtain ⟨k9, h9, -⟩ := Vm.findClass_spec h5; exact ⟨k9, h9⟩) pre x suf hsplit
    (fun z hz => by
      rcases hpass z hz with h | ⟨hz0, nm, hl1, hn1⟩
      · exact Or.inl h
      · obtain ⟨c6, hc6, hcl6⟩ := Cond.classLink_spec hown hl1 e.platform hpl
        obtain ⟨a8, b8, k1, k2, k3⟩ := hn1
        cases Option.some.inj (k1.symm.trans h5)
        cases Option.some.inj (k2.symm.trans hc6)
        exact Or.inr ⟨hz0, _, hcl6, k3⟩) hx h0 hcl5 hasg
  obtain ⟨t, a1, b1⟩ := kk q (T'.setVm vm').heap h1 h2 (T'.setVm vm') rfl XV
  exact ⟨t, hst.trans (st t a1), b1⟩
end HXD
end
section
-- ===== PART A: goes FIRST, ahead of the names: the tables' words, and 'selects' of the private methods out of them =====
/-- a private method of a class that the tables say can be made, by its rows of tables_1 -/
def lw_okq (q : MethodName × Nat) : Prop := (q.1.cls ≠ "java/lang/invoke/MethodHandle" ∧ q.1.cls ≠ "java/lang/invoke/VarHandle") ∧ Cond.instantiable q.1.cls q.2 ∈ tables_1 ∧ Cond.privateMethod q.1 ∈ tables_1 ∧ Cond.instanceMethod q.1 ∈ tables_1
theorem lw_p0 : lw_okq (⟨"HeapClaims", "leastFrame", "()I"⟩, 4) := ⟨⟨by decide +kernel, by decide +kernel⟩, List.mem_of_getElem? (i := 17) (by decide +kernel), List.mem_of_getElem? (i := 134) (by decide +kernel), List.mem_of_getElem? (i := 135) (by decide +kernel)⟩
theorem lw_p1 : lw_okq (⟨"HeapClaims$Heap", "takenByList", "(II)I"⟩, 6) := ⟨⟨by decide +kernel, by decide +kernel⟩, List.mem_of_getElem? (i := 65) (by decide +kernel), List.mem_of_getElem? (i := 171) (by decide +kernel), List.mem_of_getElem? (i := 172) (by decide +kernel)⟩
theorem lw_p2 : lw_okq (⟨"HeapClaims$Heap", "takenByCell", "(II)I"⟩, 6) := ⟨⟨by decide +kernel, by decide +kernel⟩, List.mem_of_getElem? (i := 65) (by decide +kernel), List.mem_of_getElem? (i := 176) (by decide +kernel), List.mem_of_getElem? (i := 177) (by decide +kernel)⟩
theorem lw_p3 : lw_okq (⟨"HeapClaims$Cases", "greatestBefore", "(I)I"⟩, 2) := ⟨⟨by decide +kernel, by decide +kernel⟩, List.mem_of_getElem? (i := 97) (by decide +kernel), List.mem_of_getElem? (i := 184) (by decide +kernel), List.mem_of_getElem? (i := 185) (by decide +kernel)⟩
theorem lw_p4 : lw_okq (⟨"HeapClaims", "claimAt", "(I)LHeapClaims$Claim;"⟩, 4) := ⟨⟨by decide +kernel, by decide +kernel⟩, List.mem_of_getElem? (i := 17) (by decide +kernel), List.mem_of_getElem? (i := 218) (by decide +kernel), List.mem_of_getElem? (i := 219) (by decide +kernel)⟩
theorem lw_p5 : lw_okq (⟨"java/lang/Throwable", "fillInStackTrace", "(I)Ljava/lang/Throwable;"⟩, 6) := ⟨⟨by decide +kernel, by decide +kernel⟩, List.mem_of_getElem? (i := 261) (by decide +kernel), List.mem_of_getElem? (i := 259) (by decide +kernel), List.mem_of_getElem? (i := 260) (by decide +kernel)⟩
theorem lw_p6 : lw_okq (⟨"HeapClaims", "checkTerm", "(I)V"⟩, 4) := ⟨⟨by decide +kernel, by decide +kernel⟩, List.mem_of_getElem? (i := 17) (by decide +kernel), List.mem_of_getElem? (i := 291) (by decide +kernel), List.mem_of_getElem? (i := 292) (by decide +kernel)⟩
theorem lw_p7 : lw_okq (⟨"HeapClaims", "isSo", "(III)Z"⟩, 4) := ⟨⟨by decide +kernel, by decide +kernel⟩, List.mem_of_getElem? (i := 17) (by decide +kernel), List.mem_of_getElem? (i := 378) (by decide +kernel), List.mem_of_getElem? (i := 379) (by decide +kernel)⟩
theorem lw_p8 : lw_okq (⟨"HeapClaims", "checkVariable", "(I)V"⟩, 4) := ⟨⟨by decide +kernel, by decide +kernel⟩, List.mem_of_getElem? (i := 17) (by decide +kernel), List.mem_of_getElem? (i := 389) (by decide +kernel), List.mem_of_getElem? (i := 390) (by decide +kernel)⟩
theorem lw_p9 : lw_okq (⟨"HeapClaims", "checkValue", "(I)V"⟩, 4) := ⟨⟨by decide +kernel, by decide +kernel⟩, List.mem_of_getElem? (i := 17) (by decide +kernel), List.mem_of_getElem? (i := 394) (by decide +kernel), List.mem_of_getElem? (i := 395) (by decide +kernel)⟩
theorem lw_p10 : lw_okq (⟨"HeapClaims", "checkCell", "(I)V"⟩, 4) := ⟨⟨by decide +kernel, by decide +kernel⟩, List.mem_of_getElem? (i := 17) (by decide +kernel), List.mem_of_getElem? (i := 433) (by decide +kernel), List.mem_of_getElem? (i := 434) (by decide +kernel)⟩
theorem lw_p11 : lw_okq (⟨"HeapClaimsModel", "some", "(I)Z"⟩, 22) := ⟨⟨by decide +kernel, by decide +kernel⟩, List.mem_of_getElem? (i := 491) (by decide +kernel), List.mem_of_getElem? (i := 598) (by decide +kernel), List.mem_of_getElem? (i := 599) (by decide +kernel)⟩
theorem lw_p12 : lw_okq (⟨"HeapClaimsModel", "pairsTrue", "(I)Z"⟩, 22) := ⟨⟨by decide +kernel, by decide +kernel⟩, List.mem_of_getElem? (i := 491) (by decide +kernel), List.mem_of_getElem? (i := 602) (by decide +kernel), List.mem_of_getElem? (i := 603) (by decide +kernel)⟩
theorem lw_p13 : lw_okq (⟨"HeapClaimsModel", "begun", "(I)Z"⟩, 22) := ⟨⟨by decide +kernel, by decide +kernel⟩, List.mem_of_getElem? (i := 491) (by decide +kernel), List.mem_of_getElem? (i := 606) (by decide +kernel), List.mem_of_getElem? (i := 607) (by decide +kernel)⟩
theorem lw_p14 : lw_okq (⟨"HeapClaimsModel", "isEmpty", "(I)Z"⟩, 22) := ⟨⟨by decide +kernel, by decide +kernel⟩, List.mem_of_getElem? (i := 491) (by decide +kernel), List.mem_of_getElem? (i := 610) (by decide +kernel), List.mem_of_getElem? (i := 611) (by decide +kernel)⟩
theorem lw_p15 : lw_okq (⟨"HeapClaimsModel", "someWay", "(I)Z"⟩, 22) := ⟨⟨by decide +kernel, by decide +kernel⟩, List.mem_of_getElem? (i := 491) (by decide +kernel), List.mem_of_getElem? (i := 614) (by decide +kernel), List.mem_of_getElem? (i := 615) (by decide +kernel)⟩
def lw_privs_1 : List (MethodName × Nat) := [(⟨"HeapClaims", "leastFrame", "()I"⟩, 4), (⟨"HeapClaims$Heap", "takenByList", "(II)I"⟩, 6), (⟨"HeapClaims$Heap", "takenByCell", "(II)I"⟩, 6), (⟨"HeapClaims$Cases", "greatestBefore", "(I)I"⟩, 2), (⟨"HeapClaims", "claimAt", "(I)LHeapClaims$Claim;"⟩, 4), (⟨"java/lang/Throwable", "fillInStackTrace", "(I)Ljava/lang/Throwable;"⟩, 6), (⟨"HeapClaims", "checkTerm", "(I)V"⟩, 4), (⟨"HeapClaims", "isSo", "(III)Z"⟩, 4), (⟨"HeapClaims", "checkVariable", "(I)V"⟩, 4), (⟨"HeapClaims", "checkValue", "(I)V"⟩, 4), (⟨"HeapClaims", "checkCell", "(I)V"⟩, 4), (⟨"HeapClaimsModel", "some", "(I)Z"⟩, 22), (⟨"HeapClaimsModel", "pairsTrue", "(I)Z"⟩, 22), (⟨"HeapClaimsModel", "begun", "(I)Z"⟩, 22), (⟨"HeapClaimsModel", "isEmpty", "(I)Z"⟩, 22), (⟨"HeapClaimsModel", "someWay", "(I)Z"⟩, 22)]
theorem lw_r1 : ∀ q ∈ lw_privs_1, lw_okq q := List.forall_mem_cons.mpr ⟨lw_p0, List.forall_mem_cons.mpr ⟨lw_p1, List.forall_mem_cons.mpr ⟨lw_p2, List.forall_mem_cons.mpr ⟨lw_p3, List.forall_mem_cons.mpr ⟨lw_p4, List.forall_mem_cons.mpr ⟨lw_p5, List.forall_mem_cons.mpr ⟨lw_p6, List.forall_mem_cons.mpr ⟨lw_p7, List.forall_mem_cons.mpr ⟨lw_p8, List.forall_mem_cons.mpr ⟨lw_p9, List.forall_mem_cons.mpr ⟨lw_p10, List.forall_mem_cons.mpr ⟨lw_p11, List.forall_mem_cons.mpr ⟨lw_p12, List.forall_mem_cons.mpr ⟨lw_p13, List.forall_mem_cons.mpr ⟨lw_p14, List.forall_mem_cons.mpr ⟨lw_p15, fun _ h => absurd h List.not_mem_nil⟩⟩⟩⟩⟩⟩⟩⟩⟩⟩⟩⟩⟩⟩⟩⟩
theorem lw_p16 : lw_okq (⟨"HeapClaimsModel", "nextList", "(II)I"⟩, 22) := ⟨⟨by decide +kernel, by decide +kernel⟩, List.mem_of_getElem? (i := 491) (by decide +kernel), List.mem_of_getElem? (i := 618) (by decide +kernel), List.mem_of_getElem? (i := 619) (by decide +kernel)⟩
theorem lw_p17 : lw_okq (⟨"HeapClaimsModel", "isLookedFor", "()Z"⟩, 22) := ⟨⟨by decide +kernel, by decide +kernel⟩, List.mem_of_getElem? (i := 491) (by decide +kernel), List.mem_of_getElem? (i := 622) (by decide +kernel), List.mem_of_getElem? (i := 623) (by decide +kernel)⟩
theorem lw_p18 : lw_okq (⟨"HeapClaimsModel", "rightTrue", "()Z"⟩, 22) := ⟨⟨by decide +kernel, by decide +kernel⟩, List.mem_of_getElem? (i := 491) (by decide +kernel), List.mem_of_getElem? (i := 626) (by decide +kernel), List.mem_of_getElem? (i := 627) (by decide +kernel)⟩
theorem lw_p19 : lw_okq (⟨"HeapClaimsModel", "takes", "(I)Z"⟩, 22) := ⟨⟨by decide +kernel, by decide +kernel⟩, List.mem_of_getElem? (i := 491) (by decide +kernel), List.mem_of_getElem? (i := 630) (by decide +kernel), List.mem_of_getElem? (i := 631) (by decide +kernel)⟩
theorem lw_p20 : lw_okq (⟨"HeapClaimsModel", "isFree", "(II)Z"⟩, 22) := ⟨⟨by decide +kernel, by decide +kernel⟩, List.mem_of_getElem? (i := 491) (by decide +kernel), List.mem_of_getElem? (i := 634) (by decide +kernel), List.mem_of_getElem? (i := 635) (by decide +kernel)⟩
theorem lw_p21 : lw_okq (⟨"HeapClaimsModel", "isGroup", "(I)Z"⟩, 22) := ⟨⟨by decide +kernel, by decide +kernel⟩, List.mem_of_getElem? (i := 491) (by decide +kernel), List.mem_of_getElem? (i := 638) (by decide +kernel), List.mem_of_getElem? (i := 639) (by decide +kernel)⟩
theorem lw_p22 : lw_okq (⟨"HeapClaimsModel", "nextGroups", "()Z"⟩, 22) := ⟨⟨by decide +kernel, by decide +kernel⟩, List.mem_of_getElem? (i := 491) (by decide +kernel), List.mem_of_getElem? (i := 642) (by decide +kernel), List.mem_of_getElem? (i := 643) (by decide +kernel)⟩
theorem lw_p23 : lw_okq (⟨"HeapClaimsModel", "valueOf", "(I)I"⟩, 22) := ⟨⟨by decide +kernel, by decide +kernel⟩, List.mem_of_getElem? (i := 491) (by decide +kernel), List.mem_of_getElem? (i := 673) (by decide +kernel), List.mem_of_getElem? (i := 674) (by decide +kernel)⟩
theorem lw_p24 : lw_okq (⟨"HeapClaimsModel", "takesAtHand", "(I)Z"⟩, 22) := ⟨⟨by decide +kernel, by decide +kernel⟩, List.mem_of_getElem? (i := 491) (by decide +kernel), List.mem_of_getElem? (i := 677) (by decide +kernel), List.mem_of_getElem? (i := 678) (by decide +kernel)⟩
def lw_privs_2 : List (MethodName × Nat) := [(⟨"HeapClaimsModel", "nextList", "(II)I"⟩, 22), (⟨"HeapClaimsModel", "isLookedFor", "()Z"⟩, 22), (⟨"HeapClaimsModel", "rightTrue", "()Z"⟩, 22), (⟨"HeapClaimsModel", "takes", "(I)Z"⟩, 22), (⟨"HeapClaimsModel", "isFree", "(II)Z"⟩, 22), (⟨"HeapClaimsModel", "isGroup", "(I)Z"⟩, 22), (⟨"HeapClaimsModel", "nextGroups", "()Z"⟩, 22), (⟨"HeapClaimsModel", "valueOf", "(I)I"⟩, 22), (⟨"HeapClaimsModel", "takesAtHand", "(I)Z"⟩, 22)]
theorem lw_r2 : ∀ q ∈ lw_privs_2, lw_okq q := List.forall_mem_cons.mpr ⟨lw_p16, List.forall_mem_cons.mpr ⟨lw_p17, List.forall_mem_cons.mpr ⟨lw_p18, List.forall_mem_cons.mpr ⟨lw_p19, List.forall_mem_cons.mpr ⟨lw_p20, List.forall_mem_cons.mpr ⟨lw_p21, List.forall_mem_cons.mpr ⟨lw_p22, List.forall_mem_cons.mpr ⟨lw_p23, List.forall_mem_cons.mpr ⟨lw_p24, fun _ h => absurd h List.not_mem_nil⟩⟩⟩⟩⟩⟩⟩⟩⟩
def lw_privs : List (MethodName × Nat) := lw_privs_1 ++ (lw_privs_2)
def lw_tbl : List Cond := k2_sels lw_privs ++ tables_1
theorem lw_privs_ok : ∀ q ∈ lw_privs, lw_okq q := by
  show ∀ q ∈ lw_privs_1 ++ (lw_privs_2), lw_okq q
  exact List.forall_mem_append.mpr ⟨lw_r1, lw_r2⟩
end
section
/-! names of classes, fields, methods (by program out of the claim) -/
def RX0 : String := "HeapClaims$Cases"
def TX0 : u_T := fun k => match k with
  | 0 => ("HeapClaims$Cases", "heap", "LHeapClaims$Heap;", true)
  | _ => ("HeapClaims$Cases", "named", "I", false)
def tyX0 : Nat → FieldType := fun k => match k with
  | 0 => .object "HeapClaims$Heap"
  | _ => .int
theorem nmX0 : ∀ a, a < 2 → ∀ b, b < 2 → a ≠ b → (TX0 a).2.1 ≠ (TX0 b).2.1 := by decide +kernel
theorem tyX0_ok : ∀ k, k < 2 → parseFieldDescriptor (TX0 k).2.2.1 = some (tyX0 k) := by decide +kernel
def RX1 : String := "HeapClaims$Claim"
def TX1 : u_T := fun k => match k with
  | 0 => ("HeapClaims$Claim", "same", "[I", true)
  | 1 => ("HeapClaims$Claim", "other", "[I", true)
  | 2 => ("HeapClaims$Claim", "from", "[I", true)
  | 3 => ("HeapClaims$Claim", "to", "[I", true)
  | 4 => ("HeapClaims$Claim", "list", "[Z", true)
  | 5 => ("HeapClaims$Claim", "size", "I", false)
  | _ => ("HeapClaims$Claim", "named", "I", false)
def tyX1 : Nat → FieldType := fun k => match k with
  | 0 => .array .int
  | 1 => .array .int
  | 2 => .array .int
  | 3 => .array .int
  | 4 => .array .boolean
  | 5 => .int
  | _ => .int
theorem nmX1 : ∀ a, a < 7 → ∀ b, b < 7 → a ≠ b → (TX1 a).2.1 ≠ (TX1 b).2.1 := by decide +kernel
theorem tyX1_ok : ∀ k, k < 7 → parseFieldDescriptor (TX1 k).2.2.1 = some (tyX1 k) := by decide +kernel
def RX2 : String := "HeapClaims$Heap"
def TX2 : u_T := fun k => match k with
  | 0 => ("HeapClaims$Heap", "values", "[I", true)
  | 1 => ("HeapClaims$Heap", "greatest", "I", true)
  | 2 => ("HeapClaims$Heap", "ends", "[I", true)
  | 3 => ("HeapClaims$Heap", "isLong", "[Z", true)
  | 4 => ("HeapClaims$Heap", "bits", "[I", true)
  | _ => ("HeapClaims$Heap", "filled", "I", false)
def tyX2 : Nat → FieldType := fun k => match k with
  | 0 => .array .int
  | 1 => .int
  | 2 => .array .int
  | 3 => .array .boolean
  | 4 => .array .int
  | _ => .int
theorem nmX2 : ∀ a, a < 6 → ∀ b, b < 6 → a ≠ b → (TX2 a).2.1 ≠ (TX2 b).2.1 := by decide +kernel
theorem tyX2_ok : ∀ k, k < 6 → parseFieldDescriptor (TX2 k).2.2.1 = some (tyX2 k) := by decide +kernel
def RX3 : String := "HeapClaims"
def TX3 : u_T := fun k => match k with
  | 0 => ("HeapClaims", "left", "LHeapClaims$Claim;", false)
  | 1 => ("HeapClaims", "right", "LHeapClaims$Claim;", false)
  | 2 => ("HeapClaims", "state", "LHeapClaims$Heap;", true)
  | _ => ("HeapClaims", "cases", "LHeapClaims$Cases;", true)
def tyX3 : Nat → FieldType := fun k => match k with
  | 0 => .object "HeapClaims$Claim"
  | 1 => .object "HeapClaims$Claim"
  | 2 => .object "HeapClaims$Heap"
  | _ => .object "HeapClaims$Cases"
theorem nmX3 : ∀ a, a < 4 → ∀ b, b < 4 → a ≠ b → (TX3 a).2.1 ≠ (TX3 b).2.1 := by decide +kernel
theorem tyX3_ok : ∀ k, k < 4 → parseFieldDescriptor (TX3 k).2.2.1 = some (tyX3 k) := by decide +kernel
def RX4 : String := "HeapClaimsModel"
def TX4 : u_T := fun k => match k with
  | 0 => ("HeapClaimsModel", "code", "I", false)
  | 1 => ("HeapClaimsModel", "same", "[Z", true)
  | 2 => ("HeapClaimsModel", "other", "[Z", true)
  | 3 => ("HeapClaimsModel", "many", "[I", true)
  | 4 => ("HeapClaimsModel", "from", "[I", true)
  | 5 => ("HeapClaimsModel", "to", "[I", true)
  | 6 => ("HeapClaimsModel", "list", "[Z", true)
  | 7 => ("HeapClaimsModel", "group", "[I", true)
  | 8 => ("HeapClaimsModel", "cell", "[Z", true)
  | 9 => ("HeapClaimsModel", "next", "[I", true)
  | 10 => ("HeapClaimsModel", "far", "[Z", true)
  | 11 => ("HeapClaimsModel", "taken", "[Z", true)
  | 12 => ("HeapClaimsModel", "chosen", "[I", true)
  | 13 => ("HeapClaimsModel", "ofPiece", "[I", true)
  | 14 => ("HeapClaimsModel", "at", "[I", true)
  | 15 => ("HeapClaimsModel", "mode", "I", false)
  | 16 => ("HeapClaimsModel", "one", "I", false)
  | 17 => ("HeapClaimsModel", "two", "I", false)
  | 18 => ("HeapClaimsModel", "more", "I", false)
  | 19 => ("HeapClaimsModel", "values", "[I", true)
  | 20 => ("HeapClaimsModel", "heap", "[I", true)
  | _ => ("HeapClaimsModel", "used", "[Z", true)
def tyX4 : Nat → FieldType := fun k => match k with
  | 0 => .int
  | 1 => .array .boolean
  | 2 => .array .boolean
  | 3 => .array .int
  | 4 => .array .int
  | 5 => .array .int
  | 6 => .array .boolean
  | 7 => .array .int
  | 8 => .array .boolean
  | 9 => .array .int
  | 10 => .array .boolean
  | 11 => .array .boolean
  | 12 => .array .int
  | 13 => .array .int
  | 14 => .array .int
  | 15 => .int
  | 16 => .int
  | 17 => .int
  | 18 => .int
  | 19 => .array .int
  | 20 => .array .int
  | _ => .array .boolean
theorem nmX4 : ∀ a, a < 22 → ∀ b, b < 22 → a ≠ b → (TX4 a).2.1 ≠ (TX4 b).2.1 := by decide +kernel
theorem tyX4_ok : ∀ k, k < 22 → parseFieldDescriptor (TX4 k).2.2.1 = some (tyX4 k) := by decide +kernel
def RL : String := "HeapClaimsLaw"
def RJ6 : String := "java/lang/Integer"
def RJ7 : String := "java/util/Arrays"
abbrev cX3_init : ByteArray := prog_1_method_1_code
def yX3_init : MethodName := ⟨RX3, "<init>", "()V"⟩
abbrev cX1_init : ByteArray := prog_3_method_1_code
def yX1_init : MethodName := ⟨RX1, "<init>", "()V"⟩
abbrev cX2_init : ByteArray := prog_4_method_1_code
def yX2_init : MethodName := ⟨RX2, "<init>", "(I)V"⟩
abbrev cJ7_fill : ByteArray := prog_17_method_103_code
def yJ7_fill : MethodName := ⟨RJ7, "fill", "([II)V"⟩
abbrev cX0_init : ByteArray := prog_2_method_1_code
def yX0_init : MethodName := ⟨RX0, "<init>", "()V"⟩
abbrev cX3_swap : ByteArray := prog_1_method_5_code
def yX3_swap : MethodName := ⟨RX3, "swap", "()V"⟩
abbrev cX3_implies : ByteArray := prog_1_method_8_code
def yX3_implies : MethodName := ⟨RX3, "implies", "()Z"⟩
abbrev cX3_leastFrame : ByteArray := prog_1_method_28_code
def yX3_leastFrame : MethodName := ⟨RX3, "leastFrame", "()I"⟩
abbrev cX0_begin : ByteArray := prog_2_method_2_code
def yX0_begin : MethodName := ⟨RX0, "begin", "(I)V"⟩
abbrev cX0_draw : ByteArray := prog_2_method_5_code
def yX0_draw : MethodName := ⟨RX0, "draw", "(LHeapClaims$Claim;)Z"⟩
abbrev cX1_pairsFit : ByteArray := prog_3_method_5_code
def yX1_pairsFit : MethodName := ⟨RX1, "pairsFit", "([I)Z"⟩
abbrev cX1_termsEqualTo : ByteArray := prog_3_method_6_code
def yX1_termsEqualTo : MethodName := ⟨RX1, "termsEqualTo", "(I[I)I"⟩
abbrev cX2_removeAll : ByteArray := prog_4_method_6_code
def yX2_removeAll : MethodName := ⟨RX2, "removeAll", "()V"⟩
abbrev cX2_hasCell : ByteArray := prog_4_method_2_code
def yX2_hasCell : MethodName := ⟨RX2, "hasCell", "(I)Z"⟩
abbrev cX2_setStretch : ByteArray := prog_4_method_4_code
def yX2_setStretch : MethodName := ⟨RX2, "setStretch", "(IIZI)V"⟩
abbrev cX2_takenBy : ByteArray := prog_4_method_8_code
def yX2_takenBy : MethodName := ⟨RX2, "takenBy", "(LHeapClaims$Claim;)I"⟩
abbrev cX2_takenByList : ByteArray := prog_4_method_10_code
def yX2_takenByList : MethodName := ⟨RX2, "takenByList", "(II)I"⟩
abbrev cX2_takenByCell : ByteArray := prog_4_method_9_code
def yX2_takenByCell : MethodName := ⟨RX2, "takenByCell", "(II)I"⟩
abbrev cX0_advance : ByteArray := prog_2_method_3_code
def yX0_advance : MethodName := ⟨RX0, "advance", "()Z"⟩
abbrev cX0_greatestBefore : ByteArray := prog_2_method_4_code
def yX0_greatestBefore : MethodName := ⟨RX0, "greatestBefore", "(I)I"⟩
abbrev cX3_frame : ByteArray := prog_1_method_10_code
def yX3_frame : MethodName := ⟨RX3, "frame", "()I"⟩
abbrev cX3_next : ByteArray := prog_1_method_20_code
def yX3_next : MethodName := ⟨RX3, "next", "(I)I"⟩
abbrev cX3_count : ByteArray := prog_1_method_21_code
def yX3_count : MethodName := ⟨RX3, "count", "()I"⟩
abbrev cJ6_bitCount : ByteArray := prog_11_method_49_code
def yJ6_bitCount : MethodName := ⟨RJ6, "bitCount", "(I)I"⟩
abbrev cL_pair : ByteArray := method_3_code
def yL_pair : MethodName := ⟨RL, "pair", "(LHeapClaims;IIIZ)I"⟩
abbrev cX3_pair : ByteArray := prog_1_method_2_code
def yX3_pair : MethodName := ⟨RX3, "pair", "(IIIZ)V"⟩
abbrev cX3_claimAt : ByteArray := prog_1_method_22_code
def yX3_claimAt : MethodName := ⟨RX3, "claimAt", "(I)LHeapClaims$Claim;"⟩
abbrev cX3_checkTerm : ByteArray := prog_1_method_23_code
def yX3_checkTerm : MethodName := ⟨RX3, "checkTerm", "(I)V"⟩
abbrev cX1_addPair : ByteArray := prog_3_method_2_code
def yX1_addPair : MethodName := ⟨RX1, "addPair", "(IIZ)V"⟩
abbrev cL_piece : ByteArray := method_4_code
def yL_piece : MethodName := ⟨RL, "piece", "(LHeapClaims;IIIZ[J)I"⟩
abbrev cX3_piece : ByteArray := prog_1_method_3_code
def yX3_piece : MethodName := ⟨RX3, "piece", "(IIIZ)I"⟩
abbrev cX1_addPiece : ByteArray := prog_3_method_3_code
def yX1_addPiece : MethodName := ⟨RX1, "addPiece", "(IIZ)V"⟩
abbrev cL_clear : ByteArray := method_5_code
def yL_clear : MethodName := ⟨RL, "clear", "(LHeapClaims;I)I"⟩
abbrev cX3_clear : ByteArray := prog_1_method_4_code
def yX3_clear : MethodName := ⟨RX3, "clear", "(I)V"⟩
abbrev cX1_forgetAll : ByteArray := prog_3_method_4_code
def yX1_forgetAll : MethodName := ⟨RX1, "forgetAll", "()V"⟩
abbrev cL_pieces : ByteArray := method_6_code
def yL_pieces : MethodName := ⟨RL, "pieces", "(LHeapClaims;I[J)I"⟩
abbrev cX3_pieces : ByteArray := prog_1_method_6_code
def yX3_pieces : MethodName := ⟨RX3, "pieces", "(I)I"⟩
abbrev cL_possible : ByteArray := method_7_code
def yL_possible : MethodName := ⟨RL, "possible", "(LHeapClaims;I[J)I"⟩
abbrev cX3_possible : ByteArray := prog_1_method_7_code
def yX3_possible : MethodName := ⟨RX3, "possible", "(I)Z"⟩
abbrev cL_sure : ByteArray := method_8_code
def yL_sure : MethodName := ⟨RL, "sure", "(LHeapClaims;III[J)I"⟩
abbrev cX3_sure : ByteArray := prog_1_method_9_code
def yX3_sure : MethodName := ⟨RX3, "sure", "(III)Z"⟩
abbrev cX3_isSo : ByteArray := prog_1_method_27_code
def yX3_isSo : MethodName := ⟨RX3, "isSo", "(III)Z"⟩
abbrev cL_give : ByteArray := method_9_code
def yL_give : MethodName := ⟨RL, "give", "(LHeapClaims;II)I"⟩
abbrev cX3_give : ByteArray := prog_1_method_11_code
def yX3_give : MethodName := ⟨RX3, "give", "(II)V"⟩
abbrev cX3_checkVariable : ByteArray := prog_1_method_24_code
def yX3_checkVariable : MethodName := ⟨RX3, "checkVariable", "(I)V"⟩
abbrev cX3_checkValue : ByteArray := prog_1_method_25_code
def yX3_checkValue : MethodName := ⟨RX3, "checkValue", "(I)V"⟩
abbrev cL_put : ByteArray := method_10_code
def yL_put : MethodName := ⟨RL, "put", "(LHeapClaims;II)I"⟩
abbrev cX3_put : ByteArray := prog_1_method_12_code
def yX3_put : MethodName := ⟨RX3, "put", "(II)V"⟩
abbrev cX2_setCell : ByteArray := prog_4_method_3_code
def yX2_setCell : MethodName := ⟨RX2, "setCell", "(II)V"⟩
abbrev cL_holds : ByteArray := method_11_code
def yL_holds : MethodName := ⟨RL, "holds", "(LHeapClaims;I[J)I"⟩
abbrev cX3_holds : ByteArray := prog_1_method_13_code
def yX3_holds : MethodName := ⟨RX3, "holds", "(I)Z"⟩
abbrev cL_copy : ByteArray := method_12_code
def yL_copy : MethodName := ⟨RL, "copy", "(LHeapClaims;II)I"⟩
abbrev cX3_copy : ByteArray := prog_1_method_14_code
def yX3_copy : MethodName := ⟨RX3, "copy", "(II)V"⟩
abbrev cL_load : ByteArray := method_13_code
def yL_load : MethodName := ⟨RL, "load", "(LHeapClaims;II)I"⟩
abbrev cX3_load : ByteArray := prog_1_method_15_code
def yX3_load : MethodName := ⟨RX3, "load", "(II)V"⟩
abbrev cX3_checkCell : ByteArray := prog_1_method_26_code
def yX3_checkCell : MethodName := ⟨RX3, "checkCell", "(I)V"⟩
abbrev cL_store : ByteArray := method_14_code
def yL_store : MethodName := ⟨RL, "store", "(LHeapClaims;II)I"⟩
abbrev cX3_store : ByteArray := prog_1_method_16_code
def yX3_store : MethodName := ⟨RX3, "store", "(II)V"⟩
abbrev cL_make : ByteArray := method_15_code
def yL_make : MethodName := ⟨RL, "make", "(LHeapClaims;I)I"⟩
abbrev cX3_make : ByteArray := prog_1_method_17_code
def yX3_make : MethodName := ⟨RX3, "make", "(I)V"⟩
abbrev cX2_leastFreeAddress : ByteArray := prog_4_method_7_code
def yX2_leastFreeAddress : MethodName := ⟨RX2, "leastFreeAddress", "()I"⟩
abbrev cL_drop : ByteArray := method_16_code
def yL_drop : MethodName := ⟨RL, "drop", "(LHeapClaims;I)I"⟩
abbrev cX3_drop : ByteArray := prog_1_method_18_code
def yX3_drop : MethodName := ⟨RX3, "drop", "(I)V"⟩
abbrev cX2_removeCell : ByteArray := prog_4_method_5_code
def yX2_removeCell : MethodName := ⟨RX2, "removeCell", "(I)V"⟩
abbrev cL_value : ByteArray := method_17_code
def yL_value : MethodName := ⟨RL, "value", "(LHeapClaims;I[J)I"⟩
abbrev cX3_value : ByteArray := prog_1_method_19_code
def yX3_value : MethodName := ⟨RX3, "value", "(I)I"⟩
abbrev cX4_init : ByteArray := prog_6_method_1_code
def yX4_init : MethodName := ⟨RX4, "<init>", "()V"⟩
abbrev cX4_thrown : ByteArray := prog_6_method_2_code
def yX4_thrown : MethodName := ⟨RX4, "thrown", "()I"⟩
abbrev cX4_pair : ByteArray := prog_6_method_6_code
def yX4_pair : MethodName := ⟨RX4, "pair", "(IIIZ)V"⟩
abbrev cX4_noClaim : ByteArray := prog_6_method_3_code
def yX4_noClaim : MethodName := ⟨RX4, "noClaim", "(I)Z"⟩
abbrev cX4_noTerm : ByteArray := prog_6_method_4_code
def yX4_noTerm : MethodName := ⟨RX4, "noTerm", "(I)Z"⟩
abbrev cX4_piece : ByteArray := prog_6_method_7_code
def yX4_piece : MethodName := ⟨RX4, "piece", "(IIIZ)I"⟩
abbrev cX4_clear : ByteArray := prog_6_method_8_code
def yX4_clear : MethodName := ⟨RX4, "clear", "(I)V"⟩
abbrev cX4_swap : ByteArray := prog_6_method_9_code
def yX4_swap : MethodName := ⟨RX4, "swap", "()V"⟩
abbrev cX4_pieces : ByteArray := prog_6_method_10_code
def yX4_pieces : MethodName := ⟨RX4, "pieces", "(I)I"⟩
abbrev cX4_possible : ByteArray := prog_6_method_23_code
def yX4_possible : MethodName := ⟨RX4, "possible", "(I)Z"⟩
abbrev cX4_some : ByteArray := prog_6_method_19_code
def yX4_some : MethodName := ⟨RX4, "some", "(I)Z"⟩
abbrev cX4_pairsTrue : ByteArray := prog_6_method_11_code
def yX4_pairsTrue : MethodName := ⟨RX4, "pairsTrue", "(I)Z"⟩
abbrev cX4_begun : ByteArray := prog_6_method_14_code
def yX4_begun : MethodName := ⟨RX4, "begun", "(I)Z"⟩
abbrev cX4_isEmpty : ByteArray := prog_6_method_13_code
def yX4_isEmpty : MethodName := ⟨RX4, "isEmpty", "(I)Z"⟩
abbrev cX4_someWay : ByteArray := prog_6_method_17_code
def yX4_someWay : MethodName := ⟨RX4, "someWay", "(I)Z"⟩
abbrev cX4_nextList : ByteArray := prog_6_method_15_code
def yX4_nextList : MethodName := ⟨RX4, "nextList", "(II)I"⟩
abbrev cX4_isLookedFor : ByteArray := prog_6_method_22_code
def yX4_isLookedFor : MethodName := ⟨RX4, "isLookedFor", "()Z"⟩
abbrev cX4_rightTrue : ByteArray := prog_6_method_21_code
def yX4_rightTrue : MethodName := ⟨RX4, "rightTrue", "()Z"⟩
abbrev cX4_takes : ByteArray := prog_6_method_20_code
def yX4_takes : MethodName := ⟨RX4, "takes", "(I)Z"⟩
abbrev cX4_isFree : ByteArray := prog_6_method_18_code
def yX4_isFree : MethodName := ⟨RX4, "isFree", "(II)Z"⟩
abbrev cX4_isGroup : ByteArray := prog_6_method_16_code
def yX4_isGroup : MethodName := ⟨RX4, "isGroup", "(I)Z"⟩
abbrev cX4_nextGroups : ByteArray := prog_6_method_12_code
def yX4_nextGroups : MethodName := ⟨RX4, "nextGroups", "()Z"⟩
abbrev cX4_implies : ByteArray := prog_6_method_24_code
def yX4_implies : MethodName := ⟨RX4, "implies", "()Z"⟩
abbrev cX4_sure : ByteArray := prog_6_method_25_code
def yX4_sure : MethodName := ⟨RX4, "sure", "(III)Z"⟩
abbrev cX4_frame : ByteArray := prog_6_method_26_code
def yX4_frame : MethodName := ⟨RX4, "frame", "()I"⟩
abbrev cX4_give : ByteArray := prog_6_method_27_code
def yX4_give : MethodName := ⟨RX4, "give", "(II)V"⟩
abbrev cX4_noVariable : ByteArray := prog_6_method_5_code
def yX4_noVariable : MethodName := ⟨RX4, "noVariable", "(I)Z"⟩
abbrev cX4_put : ByteArray := prog_6_method_28_code
def yX4_put : MethodName := ⟨RX4, "put", "(II)V"⟩
abbrev cX4_holds : ByteArray := prog_6_method_31_code
def yX4_holds : MethodName := ⟨RX4, "holds", "(I)Z"⟩
abbrev cX4_valueOf : ByteArray := prog_6_method_29_code
def yX4_valueOf : MethodName := ⟨RX4, "valueOf", "(I)I"⟩
abbrev cX4_takesAtHand : ByteArray := prog_6_method_30_code
def yX4_takesAtHand : MethodName := ⟨RX4, "takesAtHand", "(I)Z"⟩
abbrev cX4_copy : ByteArray := prog_6_method_32_code
def yX4_copy : MethodName := ⟨RX4, "copy", "(II)V"⟩
abbrev cX4_load : ByteArray := prog_6_method_33_code
def yX4_load : MethodName := ⟨RX4, "load", "(II)V"⟩
abbrev cX4_store : ByteArray := prog_6_method_34_code
def yX4_store : MethodName := ⟨RX4, "store", "(II)V"⟩
abbrev cX4_make : ByteArray := prog_6_method_35_code
def yX4_make : MethodName := ⟨RX4, "make", "(I)V"⟩
abbrev cX4_drop : ByteArray := prog_6_method_36_code
def yX4_drop : MethodName := ⟨RX4, "drop", "(I)V"⟩
abbrev cX4_value : ByteArray := prog_6_method_37_code
def yX4_value : MethodName := ⟨RX4, "value", "(I)I"⟩
abbrev cX4_next : ByteArray := prog_6_method_38_code
def yX4_next : MethodName := ⟨RX4, "next", "(I)I"⟩
abbrev cX4_count : ByteArray := prog_6_method_39_code
def yX4_count : MethodName := ⟨RX4, "count", "()I"⟩
abbrev cL_law : ByteArray := code
def yL_law : MethodName := ⟨RL, "law", "([I)Z"⟩
abbrev vwCl : List vw_C := [(RX0, TX0, 2), (RX1, TX1, 7), (RX2, TX2, 6), (RX3, TX3, 4), (RX4, TX4, 22)]
/-- all words that a call keeps -/
def hwG : List Cond := lw_tbl.filter goodWord
theorem hwG_of {w : Cond} (h : w ∈ tables_1) (hg : goodWord w = true) : w ∈ hwG := List.mem_filter.mpr ⟨List.mem_append_right _ h, hg⟩
theorem hwG_sel {q : MethodName × Nat} (h : q ∈ lw_privs) (hg : goodWord (.selects q.1.cls q.1 q.1) = true) : Cond.selects q.1.cls q.1 q.1 ∈ hwG := List.mem_filter.mpr ⟨List.mem_append_left _ (List.mem_map.mpr ⟨q, h, rfl⟩), hg⟩
theorem hwG_good : ∀ w ∈ hwG, (w.onTables && w.keeps) = true ∨ ∃ ty, w = .arrayClass ty := fun w h => good_of_word (List.mem_filter.mp h).2
end
section
/-! decoded instructions -/
theorem dX1_init_0 : decode cX1_init 0 = .ok (.aload_n 0, 1) := by decide +kernel
theorem dX1_init_1 : decode cX1_init 1 = .ok (.invokespecial 3, 3) := by decide +kernel
theorem dX1_init_4 : decode cX1_init 4 = .ok (.aload_n 0, 1) := by decide +kernel
theorem dX1_init_5 : decode cX1_init 5 = .ok (.bipush 6, 2) := by decide +kernel
theorem dX1_init_7 : decode cX1_init 7 = .ok (.newarray .int, 2) := by decide +kernel
theorem dX1_init_9 : decode cX1_init 9 = .ok (.putfield 9, 3) := by decide +kernel
theorem dX1_init_12 : decode cX1_init 12 = .ok (.aload_n 0, 1) := by decide +kernel
theorem dX1_init_13 : decode cX1_init 13 = .ok (.bipush 6, 2) := by decide +kernel
theorem dX1_init_15 : decode cX1_init 15 = .ok (.newarray .int, 2) := by decide +kernel
theorem dX1_init_17 : decode cX1_init 17 = .ok (.putfield 15, 3) := by decide +kernel
theorem dX1_init_20 : decode cX1_init 20 = .ok (.aload_n 0, 1) := by decide +kernel
theorem dX1_init_21 : decode cX1_init 21 = .ok (.iconst 5, 1) := by decide +kernel
theorem dX1_init_22 : decode cX1_init 22 = .ok (.newarray .int, 2) := by decide +kernel
theorem dX1_init_24 : decode cX1_init 24 = .ok (.putfield 18, 3) := by decide +kernel
theorem dX1_init_27 : decode cX1_init 27 = .ok (.aload_n 0, 1) := by decide +kernel
theorem dX1_init_28 : decode cX1_init 28 = .ok (.iconst 5, 1) := by decide +kernel
theorem dX1_init_29 : decode cX1_init 29 = .ok (.newarray .int, 2) := by decide +kernel
theorem dX1_init_31 : decode cX1_init 31 = .ok (.putfield 21, 3) := by decide +kernel
theorem dX1_init_34 : decode cX1_init 34 = .ok (.aload_n 0, 1) := by decide +kernel
theorem dX1_init_35 : decode cX1_init 35 = .ok (.iconst 5, 1) := by decide +kernel
theorem dX1_init_36 : decode cX1_init 36 = .ok (.newarray .boolean, 2) := by decide +kernel
theorem dX1_init_38 : decode cX1_init 38 = .ok (.putfield 24, 3) := by decide +kernel
theorem dX1_init_41 : decode cX1_init 41 = .ok (.return_, 1) := by decide +kernel
theorem dX2_init_0 : decode cX2_init 0 = .ok (.aload_n 0, 1) := by decide +kernel
theorem dX2_init_1 : decode cX2_init 1 = .ok (.invokespecial 3, 3) := by decide +kernel
theorem dX2_init_4 : decode cX2_init 4 = .ok (.aload_n 0, 1) := by decide +kernel
theorem dX2_init_5 : decode cX2_init 5 = .ok (.bipush 6, 2) := by decide +kernel
theorem dX2_init_7 : decode cX2_init 7 = .ok (.newarray .int, 2) := by decide +kernel
theorem dX2_init_9 : decode cX2_init 9 = .ok (.putfield 9, 3) := by decide +kernel
theorem dX2_init_12 : decode cX2_init 12 = .ok (.aload_n 0, 1) := by decide +kernel
theorem dX2_init_13 : decode cX2_init 13 = .ok (.iload_n 1, 1) := by decide +kernel
theorem dX2_init_14 : decode cX2_init 14 = .ok (.putfield 15, 3) := by decide +kernel
theorem dX2_init_17 : decode cX2_init 17 = .ok (.aload_n 0, 1) := by decide +kernel
theorem dX2_init_18 : decode cX2_init 18 = .ok (.iload_n 1, 1) := by decide +kernel
theorem dX2_init_19 : decode cX2_init 19 = .ok (.iconst 1, 1) := by decide +kernel
theorem dX2_init_20 : decode cX2_init 20 = .ok (.iadd, 1) := by decide +kernel
theorem dX2_init_21 : decode cX2_init 21 = .ok (.newarray .int, 2) := by decide +kernel
theorem dX2_init_23 : decode cX2_init 23 = .ok (.putfield 19, 3) := by decide +kernel
theorem dX2_init_26 : decode cX2_init 26 = .ok (.aload_n 0, 1) := by decide +kernel
theorem dX2_init_27 : decode cX2_init 27 = .ok (.iload_n 1, 1) := by decide +kernel
theorem dX2_init_28 : decode cX2_init 28 = .ok (.iconst 1, 1) := by decide +kernel
theorem dX2_init_29 : decode cX2_init 29 = .ok (.iadd, 1) := by decide +kernel
theorem dX2_init_30 : decode cX2_init 30 = .ok (.newarray .boolean, 2) := by decide +kernel
theorem dX2_init_32 : decode cX2_init 32 = .ok (.putfield 22, 3) := by decide +kernel
theorem dX2_init_35 : decode cX2_init 35 = .ok (.aload_n 0, 1) := by decide +kernel
theorem dX2_init_36 : decode cX2_init 36 = .ok (.iload_n 1, 1) := by decide +kernel
theorem dX2_init_37 : decode cX2_init 37 = .ok (.iconst 1, 1) := by decide +kernel
theorem dX2_init_38 : decode cX2_init 38 = .ok (.iadd, 1) := by decide +kernel
theorem dX2_init_39 : decode cX2_init 39 = .ok (.newarray .int, 2) := by decide +kernel
theorem dX2_init_41 : decode cX2_init 41 = .ok (.putfield 26, 3) := by decide +kernel
theorem dX2_init_44 : decode cX2_init 44 = .ok (.aload_n 0, 1) := by decide +kernel
theorem dX2_init_45 : decode cX2_init 45 = .ok (.getfield 19, 3) := by decide +kernel
theorem dX2_init_48 : decode cX2_init 48 = .ok (.iconst (-1), 1) := by decide +kernel
theorem dX2_init_49 : decode cX2_init 49 = .ok (.invokestatic 29, 3) := by decide +kernel
theorem dX2_init_52 : decode cX2_init 52 = .ok (.return_, 1) := by decide +kernel
theorem dJ7_fill_0 : decode cJ7_fill 0 = .ok (.iconst 0, 1) := by decide +kernel
theorem dJ7_fill_1 : decode cJ7_fill 1 = .ok (.istore_n 2, 1) := by decide +kernel
theorem dJ7_fill_2 : decode cJ7_fill 2 = .ok (.aload_n 0, 1) := by decide +kernel
theorem dJ7_fill_3 : decode cJ7_fill 3 = .ok (.arraylength, 1) := by decide +kernel
theorem dJ7_fill_4 : decode cJ7_fill 4 = .ok (.istore_n 3, 1) := by decide +kernel
theorem dJ7_fill_5 : decode cJ7_fill 5 = .ok (.iload_n 2, 1) := by decide +kernel
theorem dJ7_fill_6 : decode cJ7_fill 6 = .ok (.iload_n 3, 1) := by decide +kernel
theorem dJ7_fill_7 : decode cJ7_fill 7 = .ok (.if_icmp .ge 13, 3) := by decide +kernel
theorem dJ7_fill_10 : decode cJ7_fill 10 = .ok (.aload_n 0, 1) := by decide +kernel
theorem dJ7_fill_11 : decode cJ7_fill 11 = .ok (.iload_n 2, 1) := by decide +kernel
theorem dJ7_fill_12 : decode cJ7_fill 12 = .ok (.iload_n 1, 1) := by decide +kernel
theorem dJ7_fill_13 : decode cJ7_fill 13 = .ok (.iastore, 1) := by decide +kernel
theorem dJ7_fill_14 : decode cJ7_fill 14 = .ok (.iinc 2 1, 3) := by decide +kernel
theorem dJ7_fill_17 : decode cJ7_fill 17 = .ok (.goto (-12), 3) := by decide +kernel
theorem dJ7_fill_20 : decode cJ7_fill 20 = .ok (.return_, 1) := by decide +kernel
theorem dX0_init_0 : decode cX0_init 0 = .ok (.aload_n 0, 1) := by decide +kernel
theorem dX0_init_1 : decode cX0_init 1 = .ok (.invokespecial 3, 3) := by decide +kernel
theorem dX0_init_4 : decode cX0_init 4 = .ok (.aload_n 0, 1) := by decide +kernel
theorem dX0_init_5 : decode cX0_init 5 = .ok (.new 9, 3) := by decide +kernel
theorem dX0_init_8 : decode cX0_init 8 = .ok (.dup, 1) := by decide +kernel
theorem dX0_init_9 : decode cX0_init 9 = .ok (.iconst 5, 1) := by decide +kernel
theorem dX0_init_10 : decode cX0_init 10 = .ok (.invokespecial 11, 3) := by decide +kernel
theorem dX0_init_13 : decode cX0_init 13 = .ok (.putfield 14, 3) := by decide +kernel
theorem dX0_init_16 : decode cX0_init 16 = .ok (.return_, 1) := by decide +kernel
theorem dX0_begin_0 : decode cX0_begin 0 = .ok (.aload_n 0, 1) := by decide +kernel
theorem dX0_begin_1 : decode cX0_begin 1 = .ok (.iload_n 1, 1) := by decide +kernel
theorem dX0_begin_2 : decode cX0_begin 2 = .ok (.putfield 20, 3) := by decide +kernel
theorem dX0_begin_5 : decode cX0_begin 5 = .ok (.aload_n 0, 1) := by decide +kernel
theorem dX0_begin_6 : decode cX0_begin 6 = .ok (.getfield 14, 3) := by decide +kernel
theorem dX0_begin_9 : decode cX0_begin 9 = .ok (.getfield 24, 3) := by decide +kernel
theorem dX0_begin_12 : decode cX0_begin 12 = .ok (.iconst 0, 1) := by decide +kernel
theorem dX0_begin_13 : decode cX0_begin 13 = .ok (.invokestatic 28, 3) := by decide +kernel
theorem dX0_begin_16 : decode cX0_begin 16 = .ok (.return_, 1) := by decide +kernel
theorem dX0_draw_0 : decode cX0_draw 0 = .ok (.aload_n 1, 1) := by decide +kernel
theorem dX0_draw_1 : decode cX0_draw 1 = .ok (.aload_n 0, 1) := by decide +kernel
theorem dX0_draw_2 : decode cX0_draw 2 = .ok (.getfield 14, 3) := by decide +kernel
theorem dX0_draw_5 : decode cX0_draw 5 = .ok (.getfield 24, 3) := by decide +kernel
theorem dX0_draw_8 : decode cX0_draw 8 = .ok (.invokevirtual 44, 3) := by decide +kernel
theorem dX0_draw_11 : decode cX0_draw 11 = .ok (.ifCond .ne 5, 3) := by decide +kernel
theorem dX0_draw_14 : decode cX0_draw 14 = .ok (.iconst 0, 1) := by decide +kernel
theorem dX0_draw_15 : decode cX0_draw 15 = .ok (.ireturn, 1) := by decide +kernel
theorem dX0_draw_16 : decode cX0_draw 16 = .ok (.aload_n 0, 1) := by decide +kernel
theorem dX0_draw_17 : decode cX0_draw 17 = .ok (.getfield 14, 3) := by decide +kernel
theorem dX0_draw_20 : decode cX0_draw 20 = .ok (.invokevirtual 50, 3) := by decide +kernel
theorem dX0_draw_23 : decode cX0_draw 23 = .ok (.iconst 0, 1) := by decide +kernel
theorem dX0_draw_24 : decode cX0_draw 24 = .ok (.istore_n 2, 1) := by decide +kernel
theorem dX0_draw_25 : decode cX0_draw 25 = .ok (.iload_n 2, 1) := by decide +kernel
theorem dX0_draw_26 : decode cX0_draw 26 = .ok (.aload_n 1, 1) := by decide +kernel
theorem dX0_draw_27 : decode cX0_draw 27 = .ok (.getfield 53, 3) := by decide +kernel
theorem dX0_draw_30 : decode cX0_draw 30 = .ok (.if_icmp .ge 103, 3) := by decide +kernel
theorem dX0_draw_33 : decode cX0_draw 33 = .ok (.aload_n 0, 1) := by decide +kernel
theorem dX0_draw_34 : decode cX0_draw 34 = .ok (.getfield 14, 3) := by decide +kernel
theorem dX0_draw_37 : decode cX0_draw 37 = .ok (.getfield 24, 3) := by decide +kernel
theorem dX0_draw_40 : decode cX0_draw 40 = .ok (.aload_n 1, 1) := by decide +kernel
theorem dX0_draw_41 : decode cX0_draw 41 = .ok (.getfield 56, 3) := by decide +kernel
theorem dX0_draw_44 : decode cX0_draw 44 = .ok (.iload_n 2, 1) := by decide +kernel
theorem dX0_draw_45 : decode cX0_draw 45 = .ok (.iaload, 1) := by decide +kernel
theorem dX0_draw_46 : decode cX0_draw 46 = .ok (.iaload, 1) := by decide +kernel
theorem dX0_draw_47 : decode cX0_draw 47 = .ok (.istore_n 3, 1) := by decide +kernel
theorem dX0_draw_48 : decode cX0_draw 48 = .ok (.aload_n 0, 1) := by decide +kernel
theorem dX0_draw_49 : decode cX0_draw 49 = .ok (.getfield 14, 3) := by decide +kernel
theorem dX0_draw_52 : decode cX0_draw 52 = .ok (.getfield 24, 3) := by decide +kernel
theorem dX0_draw_55 : decode cX0_draw 55 = .ok (.aload_n 1, 1) := by decide +kernel
theorem dX0_draw_56 : decode cX0_draw 56 = .ok (.getfield 59, 3) := by decide +kernel
theorem dX0_draw_59 : decode cX0_draw 59 = .ok (.iload_n 2, 1) := by decide +kernel
theorem dX0_draw_60 : decode cX0_draw 60 = .ok (.iaload, 1) := by decide +kernel
theorem dX0_draw_61 : decode cX0_draw 61 = .ok (.iaload, 1) := by decide +kernel
theorem dX0_draw_62 : decode cX0_draw 62 = .ok (.istore 4, 2) := by decide +kernel
theorem dX0_draw_64 : decode cX0_draw 64 = .ok (.aload_n 1, 1) := by decide +kernel
theorem dX0_draw_65 : decode cX0_draw 65 = .ok (.getfield 62, 3) := by decide +kernel
theorem dX0_draw_68 : decode cX0_draw 68 = .ok (.iload_n 2, 1) := by decide +kernel
theorem dX0_draw_69 : decode cX0_draw 69 = .ok (.baload, 1) := by decide +kernel
theorem dX0_draw_70 : decode cX0_draw 70 = .ok (.ifCond .eq 13, 3) := by decide +kernel
theorem dX0_draw_73 : decode cX0_draw 73 = .ok (.iload_n 3, 1) := by decide +kernel
theorem dX0_draw_74 : decode cX0_draw 74 = .ok (.iload 4, 2) := by decide +kernel
theorem dX0_draw_76 : decode cX0_draw 76 = .ok (.if_icmp .ne 7, 3) := by decide +kernel
theorem dX0_draw_79 : decode cX0_draw 79 = .ok (.iconst 1, 1) := by decide +kernel
theorem dX0_draw_80 : decode cX0_draw 80 = .ok (.goto 4, 3) := by decide +kernel
theorem dX0_draw_83 : decode cX0_draw 83 = .ok (.iconst 0, 1) := by decide +kernel
theorem dX0_draw_84 : decode cX0_draw 84 = .ok (.istore 5, 2) := by decide +kernel
theorem dX0_draw_86 : decode cX0_draw 86 = .ok (.iload 5, 2) := by decide +kernel
theorem dX0_draw_88 : decode cX0_draw 88 = .ok (.ifCond .ne 39, 3) := by decide +kernel
theorem dX0_draw_91 : decode cX0_draw 91 = .ok (.iload_n 3, 1) := by decide +kernel
theorem dX0_draw_92 : decode cX0_draw 92 = .ok (.ifCond .eq 14, 3) := by decide +kernel
theorem dX0_draw_95 : decode cX0_draw 95 = .ok (.aload_n 0, 1) := by decide +kernel
theorem dX0_draw_96 : decode cX0_draw 96 = .ok (.getfield 14, 3) := by decide +kernel
theorem dX0_draw_99 : decode cX0_draw 99 = .ok (.iload_n 3, 1) := by decide +kernel
theorem dX0_draw_100 : decode cX0_draw 100 = .ok (.invokevirtual 66, 3) := by decide +kernel
theorem dX0_draw_103 : decode cX0_draw 103 = .ok (.ifCond .eq 5, 3) := by decide +kernel
theorem dX0_draw_106 : decode cX0_draw 106 = .ok (.iconst 0, 1) := by decide +kernel
theorem dX0_draw_107 : decode cX0_draw 107 = .ok (.ireturn, 1) := by decide +kernel
theorem dX0_draw_108 : decode cX0_draw 108 = .ok (.aload_n 0, 1) := by decide +kernel
theorem dX0_draw_109 : decode cX0_draw 109 = .ok (.getfield 14, 3) := by decide +kernel
theorem dX0_draw_112 : decode cX0_draw 112 = .ok (.iload_n 3, 1) := by decide +kernel
theorem dX0_draw_113 : decode cX0_draw 113 = .ok (.iload 4, 2) := by decide +kernel
theorem dX0_draw_115 : decode cX0_draw 115 = .ok (.aload_n 1, 1) := by decide +kernel
theorem dX0_draw_116 : decode cX0_draw 116 = .ok (.getfield 62, 3) := by decide +kernel
theorem dX0_draw_119 : decode cX0_draw 119 = .ok (.iload_n 2, 1) := by decide +kernel
theorem dX0_draw_120 : decode cX0_draw 120 = .ok (.baload, 1) := by decide +kernel
theorem dX0_draw_121 : decode cX0_draw 121 = .ok (.iconst 1, 1) := by decide +kernel
theorem dX0_draw_122 : decode cX0_draw 122 = .ok (.iload_n 2, 1) := by decide +kernel
theorem dX0_draw_123 : decode cX0_draw 123 = .ok (.ishl, 1) := by decide +kernel
theorem dX0_draw_124 : decode cX0_draw 124 = .ok (.invokevirtual 70, 3) := by decide +kernel
theorem dX0_draw_127 : decode cX0_draw 127 = .ok (.iinc 2 1, 3) := by decide +kernel
theorem dX0_draw_130 : decode cX0_draw 130 = .ok (.goto (-105), 3) := by decide +kernel
theorem dX0_draw_133 : decode cX0_draw 133 = .ok (.iconst 1, 1) := by decide +kernel
theorem dX0_draw_134 : decode cX0_draw 134 = .ok (.ireturn, 1) := by decide +kernel
theorem dX1_pairsFit_0 : decode cX1_pairsFit 0 = .ok (.iconst 0, 1) := by decide +kernel
theorem dX1_pairsFit_1 : decode cX1_pairsFit 1 = .ok (.istore_n 2, 1) := by decide +kernel
theorem dX1_pairsFit_2 : decode cX1_pairsFit 2 = .ok (.iload_n 2, 1) := by decide +kernel
theorem dX1_pairsFit_3 : decode cX1_pairsFit 3 = .ok (.bipush 6, 2) := by decide +kernel
theorem dX1_pairsFit_5 : decode cX1_pairsFit 5 = .ok (.if_icmp .ge 57, 3) := by decide +kernel
theorem dX1_pairsFit_8 : decode cX1_pairsFit 8 = .ok (.aload_n 0, 1) := by decide +kernel
theorem dX1_pairsFit_9 : decode cX1_pairsFit 9 = .ok (.getfield 9, 3) := by decide +kernel
theorem dX1_pairsFit_12 : decode cX1_pairsFit 12 = .ok (.iload_n 2, 1) := by decide +kernel
theorem dX1_pairsFit_13 : decode cX1_pairsFit 13 = .ok (.iaload, 1) := by decide +kernel
theorem dX1_pairsFit_14 : decode cX1_pairsFit 14 = .ok (.aload_n 0, 1) := by decide +kernel
theorem dX1_pairsFit_15 : decode cX1_pairsFit 15 = .ok (.getfield 15, 3) := by decide +kernel
theorem dX1_pairsFit_18 : decode cX1_pairsFit 18 = .ok (.iload_n 2, 1) := by decide +kernel
theorem dX1_pairsFit_19 : decode cX1_pairsFit 19 = .ok (.iaload, 1) := by decide +kernel
theorem dX1_pairsFit_20 : decode cX1_pairsFit 20 = .ok (.ior, 1) := by decide +kernel
theorem dX1_pairsFit_21 : decode cX1_pairsFit 21 = .ok (.ifCond .eq 35, 3) := by decide +kernel
theorem dX1_pairsFit_24 : decode cX1_pairsFit 24 = .ok (.iload_n 2, 1) := by decide +kernel
theorem dX1_pairsFit_25 : decode cX1_pairsFit 25 = .ok (.aload_n 1, 1) := by decide +kernel
theorem dX1_pairsFit_26 : decode cX1_pairsFit 26 = .ok (.invokestatic 41, 3) := by decide +kernel
theorem dX1_pairsFit_29 : decode cX1_pairsFit 29 = .ok (.istore_n 3, 1) := by decide +kernel
theorem dX1_pairsFit_30 : decode cX1_pairsFit 30 = .ok (.aload_n 0, 1) := by decide +kernel
theorem dX1_pairsFit_31 : decode cX1_pairsFit 31 = .ok (.getfield 9, 3) := by decide +kernel
theorem dX1_pairsFit_34 : decode cX1_pairsFit 34 = .ok (.iload_n 2, 1) := by decide +kernel
theorem dX1_pairsFit_35 : decode cX1_pairsFit 35 = .ok (.iaload, 1) := by decide +kernel
theorem dX1_pairsFit_36 : decode cX1_pairsFit 36 = .ok (.iload_n 3, 1) := by decide +kernel
theorem dX1_pairsFit_37 : decode cX1_pairsFit 37 = .ok (.iconst (-1), 1) := by decide +kernel
theorem dX1_pairsFit_38 : decode cX1_pairsFit 38 = .ok (.ixor, 1) := by decide +kernel
theorem dX1_pairsFit_39 : decode cX1_pairsFit 39 = .ok (.iand, 1) := by decide +kernel
theorem dX1_pairsFit_40 : decode cX1_pairsFit 40 = .ok (.ifCond .ne 14, 3) := by decide +kernel
theorem dX1_pairsFit_43 : decode cX1_pairsFit 43 = .ok (.aload_n 0, 1) := by decide +kernel
theorem dX1_pairsFit_44 : decode cX1_pairsFit 44 = .ok (.getfield 15, 3) := by decide +kernel
theorem dX1_pairsFit_47 : decode cX1_pairsFit 47 = .ok (.iload_n 2, 1) := by decide +kernel
theorem dX1_pairsFit_48 : decode cX1_pairsFit 48 = .ok (.iaload, 1) := by decide +kernel
theorem dX1_pairsFit_49 : decode cX1_pairsFit 49 = .ok (.iload_n 3, 1) := by decide +kernel
theorem dX1_pairsFit_50 : decode cX1_pairsFit 50 = .ok (.iand, 1) := by decide +kernel
theorem dX1_pairsFit_51 : decode cX1_pairsFit 51 = .ok (.ifCond .eq 5, 3) := by decide +kernel
theorem dX1_pairsFit_54 : decode cX1_pairsFit 54 = .ok (.iconst 0, 1) := by decide +kernel
theorem dX1_pairsFit_55 : decode cX1_pairsFit 55 = .ok (.ireturn, 1) := by decide +kernel
theorem dX1_pairsFit_56 : decode cX1_pairsFit 56 = .ok (.iinc 2 1, 3) := by decide +kernel
theorem dX1_pairsFit_59 : decode cX1_pairsFit 59 = .ok (.goto (-57), 3) := by decide +kernel
theorem dX1_pairsFit_62 : decode cX1_pairsFit 62 = .ok (.iconst 1, 1) := by decide +kernel
theorem dX1_pairsFit_63 : decode cX1_pairsFit 63 = .ok (.ireturn, 1) := by decide +kernel
theorem dX1_termsEqualTo_0 : decode cX1_termsEqualTo 0 = .ok (.iconst 0, 1) := by decide +kernel
theorem dX1_termsEqualTo_1 : decode cX1_termsEqualTo 1 = .ok (.istore_n 2, 1) := by decide +kernel
theorem dX1_termsEqualTo_2 : decode cX1_termsEqualTo 2 = .ok (.iconst 0, 1) := by decide +kernel
theorem dX1_termsEqualTo_3 : decode cX1_termsEqualTo 3 = .ok (.istore_n 3, 1) := by decide +kernel
theorem dX1_termsEqualTo_4 : decode cX1_termsEqualTo 4 = .ok (.iload_n 3, 1) := by decide +kernel
theorem dX1_termsEqualTo_5 : decode cX1_termsEqualTo 5 = .ok (.bipush 6, 2) := by decide +kernel
theorem dX1_termsEqualTo_7 : decode cX1_termsEqualTo 7 = .ok (.if_icmp .ge 24, 3) := by decide +kernel
theorem dX1_termsEqualTo_10 : decode cX1_termsEqualTo 10 = .ok (.aload_n 1, 1) := by decide +kernel
theorem dX1_termsEqualTo_11 : decode cX1_termsEqualTo 11 = .ok (.iload_n 3, 1) := by decide +kernel
theorem dX1_termsEqualTo_12 : decode cX1_termsEqualTo 12 = .ok (.iaload, 1) := by decide +kernel
theorem dX1_termsEqualTo_13 : decode cX1_termsEqualTo 13 = .ok (.aload_n 1, 1) := by decide +kernel
theorem dX1_termsEqualTo_14 : decode cX1_termsEqualTo 14 = .ok (.iload_n 0, 1) := by decide +kernel
theorem dX1_termsEqualTo_15 : decode cX1_termsEqualTo 15 = .ok (.iaload, 1) := by decide +kernel
theorem dX1_termsEqualTo_16 : decode cX1_termsEqualTo 16 = .ok (.if_icmp .ne 9, 3) := by decide +kernel
theorem dX1_termsEqualTo_19 : decode cX1_termsEqualTo 19 = .ok (.iload_n 2, 1) := by decide +kernel
theorem dX1_termsEqualTo_20 : decode cX1_termsEqualTo 20 = .ok (.iconst 1, 1) := by decide +kernel
theorem dX1_termsEqualTo_21 : decode cX1_termsEqualTo 21 = .ok (.iload_n 3, 1) := by decide +kernel
theorem dX1_termsEqualTo_22 : decode cX1_termsEqualTo 22 = .ok (.ishl, 1) := by decide +kernel
theorem dX1_termsEqualTo_23 : decode cX1_termsEqualTo 23 = .ok (.ior, 1) := by decide +kernel
theorem dX1_termsEqualTo_24 : decode cX1_termsEqualTo 24 = .ok (.istore_n 2, 1) := by decide +kernel
theorem dX1_termsEqualTo_25 : decode cX1_termsEqualTo 25 = .ok (.iinc 3 1, 3) := by decide +kernel
theorem dX1_termsEqualTo_28 : decode cX1_termsEqualTo 28 = .ok (.goto (-24), 3) := by decide +kernel
theorem dX1_termsEqualTo_31 : decode cX1_termsEqualTo 31 = .ok (.iload_n 2, 1) := by decide +kernel
theorem dX1_termsEqualTo_32 : decode cX1_termsEqualTo 32 = .ok (.ireturn, 1) := by decide +kernel
theorem dX2_removeAll_0 : decode cX2_removeAll 0 = .ok (.aload_n 0, 1) := by decide +kernel
theorem dX2_removeAll_1 : decode cX2_removeAll 1 = .ok (.getfield 19, 3) := by decide +kernel
theorem dX2_removeAll_4 : decode cX2_removeAll 4 = .ok (.iconst (-1), 1) := by decide +kernel
theorem dX2_removeAll_5 : decode cX2_removeAll 5 = .ok (.invokestatic 29, 3) := by decide +kernel
theorem dX2_removeAll_8 : decode cX2_removeAll 8 = .ok (.aload_n 0, 1) := by decide +kernel
theorem dX2_removeAll_9 : decode cX2_removeAll 9 = .ok (.iconst 0, 1) := by decide +kernel
theorem dX2_removeAll_10 : decode cX2_removeAll 10 = .ok (.putfield 39, 3) := by decide +kernel
theorem dX2_removeAll_13 : decode cX2_removeAll 13 = .ok (.return_, 1) := by decide +kernel
theorem dX2_hasCell_0 : decode cX2_hasCell 0 = .ok (.iload_n 1, 1) := by decide +kernel
theorem dX2_hasCell_1 : decode cX2_hasCell 1 = .ok (.iconst 1, 1) := by decide +kernel
theorem dX2_hasCell_2 : decode cX2_hasCell 2 = .ok (.if_icmp .lt 25, 3) := by decide +kernel
theorem dX2_hasCell_5 : decode cX2_hasCell 5 = .ok (.iload_n 1, 1) := by decide +kernel
theorem dX2_hasCell_6 : decode cX2_hasCell 6 = .ok (.aload_n 0, 1) := by decide +kernel
theorem dX2_hasCell_7 : decode cX2_hasCell 7 = .ok (.getfield 15, 3) := by decide +kernel
theorem dX2_hasCell_10 : decode cX2_hasCell 10 = .ok (.if_icmp .gt 17, 3) := by decide +kernel
theorem dX2_hasCell_13 : decode cX2_hasCell 13 = .ok (.aload_n 0, 1) := by decide +kernel
theorem dX2_hasCell_14 : decode cX2_hasCell 14 = .ok (.getfield 19, 3) := by decide +kernel
theorem dX2_hasCell_17 : decode cX2_hasCell 17 = .ok (.iload_n 1, 1) := by decide +kernel
theorem dX2_hasCell_18 : decode cX2_hasCell 18 = .ok (.iaload, 1) := by decide +kernel
theorem dX2_hasCell_19 : decode cX2_hasCell 19 = .ok (.iconst (-1), 1) := by decide +kernel
theorem dX2_hasCell_20 : decode cX2_hasCell 20 = .ok (.if_icmp .eq 7, 3) := by decide +kernel
theorem dX2_hasCell_23 : decode cX2_hasCell 23 = .ok (.iconst 1, 1) := by decide +kernel
theorem dX2_hasCell_24 : decode cX2_hasCell 24 = .ok (.goto 4, 3) := by decide +kernel
theorem dX2_hasCell_27 : decode cX2_hasCell 27 = .ok (.iconst 0, 1) := by decide +kernel
theorem dX2_hasCell_28 : decode cX2_hasCell 28 = .ok (.ireturn, 1) := by decide +kernel
theorem dX2_setStretch_0 : decode cX2_setStretch 0 = .ok (.aload_n 0, 1) := by decide +kernel
theorem dX2_setStretch_1 : decode cX2_setStretch 1 = .ok (.getfield 19, 3) := by decide +kernel
theorem dX2_setStretch_4 : decode cX2_setStretch 4 = .ok (.iload_n 1, 1) := by decide +kernel
theorem dX2_setStretch_5 : decode cX2_setStretch 5 = .ok (.iload_n 2, 1) := by decide +kernel
theorem dX2_setStretch_6 : decode cX2_setStretch 6 = .ok (.iastore, 1) := by decide +kernel
theorem dX2_setStretch_7 : decode cX2_setStretch 7 = .ok (.aload_n 0, 1) := by decide +kernel
theorem dX2_setStretch_8 : decode cX2_setStretch 8 = .ok (.getfield 22, 3) := by decide +kernel
theorem dX2_setStretch_11 : decode cX2_setStretch 11 = .ok (.iload_n 1, 1) := by decide +kernel
theorem dX2_setStretch_12 : decode cX2_setStretch 12 = .ok (.iload_n 3, 1) := by decide +kernel
theorem dX2_setStretch_13 : decode cX2_setStretch 13 = .ok (.bastore, 1) := by decide +kernel
theorem dX2_setStretch_14 : decode cX2_setStretch 14 = .ok (.aload_n 0, 1) := by decide +kernel
theorem dX2_setStretch_15 : decode cX2_setStretch 15 = .ok (.getfield 26, 3) := by decide +kernel
theorem dX2_setStretch_18 : decode cX2_setStretch 18 = .ok (.iload_n 1, 1) := by decide +kernel
theorem dX2_setStretch_19 : decode cX2_setStretch 19 = .ok (.iload 4, 2) := by decide +kernel
theorem dX2_setStretch_21 : decode cX2_setStretch 21 = .ok (.iastore, 1) := by decide +kernel
theorem dX2_setStretch_22 : decode cX2_setStretch 22 = .ok (.aload_n 0, 1) := by decide +kernel
theorem dX2_setStretch_23 : decode cX2_setStretch 23 = .ok (.dup, 1) := by decide +kernel
theorem dX2_setStretch_24 : decode cX2_setStretch 24 = .ok (.getfield 39, 3) := by decide +kernel
theorem dX2_setStretch_27 : decode cX2_setStretch 27 = .ok (.iload 4, 2) := by decide +kernel
theorem dX2_setStretch_29 : decode cX2_setStretch 29 = .ok (.ior, 1) := by decide +kernel
theorem dX2_setStretch_30 : decode cX2_setStretch 30 = .ok (.putfield 39, 3) := by decide +kernel
theorem dX2_setStretch_33 : decode cX2_setStretch 33 = .ok (.return_, 1) := by decide +kernel
theorem dX2_takenBy_0 : decode cX2_takenBy 0 = .ok (.aload_n 1, 1) := by decide +kernel
theorem dX2_takenBy_1 : decode cX2_takenBy 1 = .ok (.aload_n 0, 1) := by decide +kernel
theorem dX2_takenBy_2 : decode cX2_takenBy 2 = .ok (.getfield 9, 3) := by decide +kernel
theorem dX2_takenBy_5 : decode cX2_takenBy 5 = .ok (.invokevirtual 42, 3) := by decide +kernel
theorem dX2_takenBy_8 : decode cX2_takenBy 8 = .ok (.ifCond .ne 5, 3) := by decide +kernel
theorem dX2_takenBy_11 : decode cX2_takenBy 11 = .ok (.iconst (-1), 1) := by decide +kernel
theorem dX2_takenBy_12 : decode cX2_takenBy 12 = .ok (.ireturn, 1) := by decide +kernel
theorem dX2_takenBy_13 : decode cX2_takenBy 13 = .ok (.iconst 0, 1) := by decide +kernel
theorem dX2_takenBy_14 : decode cX2_takenBy 14 = .ok (.istore_n 2, 1) := by decide +kernel
theorem dX2_takenBy_15 : decode cX2_takenBy 15 = .ok (.iconst 0, 1) := by decide +kernel
theorem dX2_takenBy_16 : decode cX2_takenBy 16 = .ok (.istore_n 3, 1) := by decide +kernel
theorem dX2_takenBy_17 : decode cX2_takenBy 17 = .ok (.iload_n 3, 1) := by decide +kernel
theorem dX2_takenBy_18 : decode cX2_takenBy 18 = .ok (.aload_n 1, 1) := by decide +kernel
theorem dX2_takenBy_19 : decode cX2_takenBy 19 = .ok (.getfield 48, 3) := by decide +kernel
theorem dX2_takenBy_22 : decode cX2_takenBy 22 = .ok (.if_icmp .ge 85, 3) := by decide +kernel
theorem dX2_takenBy_25 : decode cX2_takenBy 25 = .ok (.aload_n 0, 1) := by decide +kernel
theorem dX2_takenBy_26 : decode cX2_takenBy 26 = .ok (.getfield 9, 3) := by decide +kernel
theorem dX2_takenBy_29 : decode cX2_takenBy 29 = .ok (.aload_n 1, 1) := by decide +kernel
theorem dX2_takenBy_30 : decode cX2_takenBy 30 = .ok (.getfield 51, 3) := by decide +kernel
theorem dX2_takenBy_33 : decode cX2_takenBy 33 = .ok (.iload_n 3, 1) := by decide +kernel
theorem dX2_takenBy_34 : decode cX2_takenBy 34 = .ok (.iaload, 1) := by decide +kernel
theorem dX2_takenBy_35 : decode cX2_takenBy 35 = .ok (.iaload, 1) := by decide +kernel
theorem dX2_takenBy_36 : decode cX2_takenBy 36 = .ok (.istore 4, 2) := by decide +kernel
theorem dX2_takenBy_38 : decode cX2_takenBy 38 = .ok (.aload_n 0, 1) := by decide +kernel
theorem dX2_takenBy_39 : decode cX2_takenBy 39 = .ok (.getfield 9, 3) := by decide +kernel
theorem dX2_takenBy_42 : decode cX2_takenBy 42 = .ok (.aload_n 1, 1) := by decide +kernel
theorem dX2_takenBy_43 : decode cX2_takenBy 43 = .ok (.getfield 54, 3) := by decide +kernel
theorem dX2_takenBy_46 : decode cX2_takenBy 46 = .ok (.iload_n 3, 1) := by decide +kernel
theorem dX2_takenBy_47 : decode cX2_takenBy 47 = .ok (.iaload, 1) := by decide +kernel
theorem dX2_takenBy_48 : decode cX2_takenBy 48 = .ok (.iaload, 1) := by decide +kernel
theorem dX2_takenBy_49 : decode cX2_takenBy 49 = .ok (.istore 5, 2) := by decide +kernel
theorem dX2_takenBy_51 : decode cX2_takenBy 51 = .ok (.aload_n 1, 1) := by decide +kernel
theorem dX2_takenBy_52 : decode cX2_takenBy 52 = .ok (.getfield 57, 3) := by decide +kernel
theorem dX2_takenBy_55 : decode cX2_takenBy 55 = .ok (.iload_n 3, 1) := by decide +kernel
theorem dX2_takenBy_56 : decode cX2_takenBy 56 = .ok (.baload, 1) := by decide +kernel
theorem dX2_takenBy_57 : decode cX2_takenBy 57 = .ok (.ifCond .eq 14, 3) := by decide +kernel
theorem dX2_takenBy_60 : decode cX2_takenBy 60 = .ok (.aload_n 0, 1) := by decide +kernel
theorem dX2_takenBy_61 : decode cX2_takenBy 61 = .ok (.iload 4, 2) := by decide +kernel
theorem dX2_takenBy_63 : decode cX2_takenBy 63 = .ok (.iload 5, 2) := by decide +kernel
theorem dX2_takenBy_65 : decode cX2_takenBy 65 = .ok (.invokevirtual 60, 3) := by decide +kernel
theorem dX2_takenBy_68 : decode cX2_takenBy 68 = .ok (.goto 11, 3) := by decide +kernel
theorem dX2_takenBy_71 : decode cX2_takenBy 71 = .ok (.aload_n 0, 1) := by decide +kernel
theorem dX2_takenBy_72 : decode cX2_takenBy 72 = .ok (.iload 4, 2) := by decide +kernel
theorem dX2_takenBy_74 : decode cX2_takenBy 74 = .ok (.iload 5, 2) := by decide +kernel
theorem dX2_takenBy_76 : decode cX2_takenBy 76 = .ok (.invokevirtual 64, 3) := by decide +kernel
theorem dX2_takenBy_79 : decode cX2_takenBy 79 = .ok (.istore 6, 2) := by decide +kernel
theorem dX2_takenBy_81 : decode cX2_takenBy 81 = .ok (.iload 6, 2) := by decide +kernel
theorem dX2_takenBy_83 : decode cX2_takenBy 83 = .ok (.iconst (-1), 1) := by decide +kernel
theorem dX2_takenBy_84 : decode cX2_takenBy 84 = .ok (.if_icmp .eq 10, 3) := by decide +kernel
theorem dX2_takenBy_87 : decode cX2_takenBy 87 = .ok (.iload 6, 2) := by decide +kernel
theorem dX2_takenBy_89 : decode cX2_takenBy 89 = .ok (.iload_n 2, 1) := by decide +kernel
theorem dX2_takenBy_90 : decode cX2_takenBy 90 = .ok (.iand, 1) := by decide +kernel
theorem dX2_takenBy_91 : decode cX2_takenBy 91 = .ok (.ifCond .eq 5, 3) := by decide +kernel
theorem dX2_takenBy_94 : decode cX2_takenBy 94 = .ok (.iconst (-1), 1) := by decide +kernel
theorem dX2_takenBy_95 : decode cX2_takenBy 95 = .ok (.ireturn, 1) := by decide +kernel
theorem dX2_takenBy_96 : decode cX2_takenBy 96 = .ok (.iload_n 2, 1) := by decide +kernel
theorem dX2_takenBy_97 : decode cX2_takenBy 97 = .ok (.iload 6, 2) := by decide +kernel
theorem dX2_takenBy_99 : decode cX2_takenBy 99 = .ok (.ior, 1) := by decide +kernel
theorem dX2_takenBy_100 : decode cX2_takenBy 100 = .ok (.istore_n 2, 1) := by decide +kernel
theorem dX2_takenBy_101 : decode cX2_takenBy 101 = .ok (.iinc 3 1, 3) := by decide +kernel
theorem dX2_takenBy_104 : decode cX2_takenBy 104 = .ok (.goto (-87), 3) := by decide +kernel
theorem dX2_takenBy_107 : decode cX2_takenBy 107 = .ok (.iload_n 2, 1) := by decide +kernel
theorem dX2_takenBy_108 : decode cX2_takenBy 108 = .ok (.ireturn, 1) := by decide +kernel
theorem dX2_takenByList_0 : decode cX2_takenByList 0 = .ok (.iload_n 2, 1) := by decide +kernel
theorem dX2_takenByList_1 : decode cX2_takenByList 1 = .ok (.ifCond .eq 15, 3) := by decide +kernel
theorem dX2_takenByList_4 : decode cX2_takenByList 4 = .ok (.aload_n 0, 1) := by decide +kernel
theorem dX2_takenByList_5 : decode cX2_takenByList 5 = .ok (.iload_n 2, 1) := by decide +kernel
theorem dX2_takenByList_6 : decode cX2_takenByList 6 = .ok (.invokevirtual 67, 3) := by decide +kernel
theorem dX2_takenByList_9 : decode cX2_takenByList 9 = .ok (.ifCond .ne 7, 3) := by decide +kernel
theorem dX2_takenByList_12 : decode cX2_takenByList 12 = .ok (.iconst 1, 1) := by decide +kernel
theorem dX2_takenByList_13 : decode cX2_takenByList 13 = .ok (.goto 4, 3) := by decide +kernel
theorem dX2_takenByList_16 : decode cX2_takenByList 16 = .ok (.iconst 0, 1) := by decide +kernel
theorem dX2_takenByList_17 : decode cX2_takenByList 17 = .ok (.istore_n 3, 1) := by decide +kernel
theorem dX2_takenByList_18 : decode cX2_takenByList 18 = .ok (.iconst 0, 1) := by decide +kernel
theorem dX2_takenByList_19 : decode cX2_takenByList 19 = .ok (.istore 4, 2) := by decide +kernel
theorem dX2_takenByList_21 : decode cX2_takenByList 21 = .ok (.iload_n 1, 1) := by decide +kernel
theorem dX2_takenByList_22 : decode cX2_takenByList 22 = .ok (.istore 5, 2) := by decide +kernel
theorem dX2_takenByList_24 : decode cX2_takenByList 24 = .ok (.iconst 0, 1) := by decide +kernel
theorem dX2_takenByList_25 : decode cX2_takenByList 25 = .ok (.istore 6, 2) := by decide +kernel
theorem dX2_takenByList_27 : decode cX2_takenByList 27 = .ok (.iload 6, 2) := by decide +kernel
theorem dX2_takenByList_29 : decode cX2_takenByList 29 = .ok (.aload_n 0, 1) := by decide +kernel
theorem dX2_takenByList_30 : decode cX2_takenByList 30 = .ok (.getfield 15, 3) := by decide +kernel
theorem dX2_takenByList_33 : decode cX2_takenByList 33 = .ok (.if_icmp .ge 74, 3) := by decide +kernel
theorem dX2_takenByList_36 : decode cX2_takenByList 36 = .ok (.iload 5, 2) := by decide +kernel
theorem dX2_takenByList_38 : decode cX2_takenByList 38 = .ok (.iload_n 2, 1) := by decide +kernel
theorem dX2_takenByList_39 : decode cX2_takenByList 39 = .ok (.if_icmp .eq 68, 3) := by decide +kernel
theorem dX2_takenByList_42 : decode cX2_takenByList 42 = .ok (.aload_n 0, 1) := by decide +kernel
theorem dX2_takenByList_43 : decode cX2_takenByList 43 = .ok (.iload 5, 2) := by decide +kernel
theorem dX2_takenByList_45 : decode cX2_takenByList 45 = .ok (.invokevirtual 67, 3) := by decide +kernel
theorem dX2_takenByList_48 : decode cX2_takenByList 48 = .ok (.ifCond .ne 5, 3) := by decide +kernel
theorem dX2_takenByList_51 : decode cX2_takenByList 51 = .ok (.iconst (-1), 1) := by decide +kernel
theorem dX2_takenByList_52 : decode cX2_takenByList 52 = .ok (.ireturn, 1) := by decide +kernel
theorem dX2_takenByList_53 : decode cX2_takenByList 53 = .ok (.iload_n 3, 1) := by decide +kernel
theorem dX2_takenByList_54 : decode cX2_takenByList 54 = .ok (.ifCond .eq 26, 3) := by decide +kernel
theorem dX2_takenByList_57 : decode cX2_takenByList 57 = .ok (.aload_n 0, 1) := by decide +kernel
theorem dX2_takenByList_58 : decode cX2_takenByList 58 = .ok (.getfield 22, 3) := by decide +kernel
theorem dX2_takenByList_61 : decode cX2_takenByList 61 = .ok (.iload 5, 2) := by decide +kernel
theorem dX2_takenByList_63 : decode cX2_takenByList 63 = .ok (.baload, 1) := by decide +kernel
theorem dX2_takenByList_64 : decode cX2_takenByList 64 = .ok (.ifCond .eq 16, 3) := by decide +kernel
theorem dX2_takenByList_67 : decode cX2_takenByList 67 = .ok (.aload_n 0, 1) := by decide +kernel
theorem dX2_takenByList_68 : decode cX2_takenByList 68 = .ok (.getfield 19, 3) := by decide +kernel
theorem dX2_takenByList_71 : decode cX2_takenByList 71 = .ok (.iload 5, 2) := by decide +kernel
theorem dX2_takenByList_73 : decode cX2_takenByList 73 = .ok (.iaload, 1) := by decide +kernel
theorem dX2_takenByList_74 : decode cX2_takenByList 74 = .ok (.iload_n 2, 1) := by decide +kernel
theorem dX2_takenByList_75 : decode cX2_takenByList 75 = .ok (.if_icmp .eq 5, 3) := by decide +kernel
theorem dX2_takenByList_78 : decode cX2_takenByList 78 = .ok (.iconst (-1), 1) := by decide +kernel
theorem dX2_takenByList_79 : decode cX2_takenByList 79 = .ok (.ireturn, 1) := by decide +kernel
theorem dX2_takenByList_80 : decode cX2_takenByList 80 = .ok (.iload 4, 2) := by decide +kernel
theorem dX2_takenByList_82 : decode cX2_takenByList 82 = .ok (.aload_n 0, 1) := by decide +kernel
theorem dX2_takenByList_83 : decode cX2_takenByList 83 = .ok (.getfield 26, 3) := by decide +kernel
theorem dX2_takenByList_86 : decode cX2_takenByList 86 = .ok (.iload 5, 2) := by decide +kernel
theorem dX2_takenByList_88 : decode cX2_takenByList 88 = .ok (.iaload, 1) := by decide +kernel
theorem dX2_takenByList_89 : decode cX2_takenByList 89 = .ok (.ior, 1) := by decide +kernel
theorem dX2_takenByList_90 : decode cX2_takenByList 90 = .ok (.istore 4, 2) := by decide +kernel
theorem dX2_takenByList_92 : decode cX2_takenByList 92 = .ok (.aload_n 0, 1) := by decide +kernel
theorem dX2_takenByList_93 : decode cX2_takenByList 93 = .ok (.getfield 19, 3) := by decide +kernel
theorem dX2_takenByList_96 : decode cX2_takenByList 96 = .ok (.iload 5, 2) := by decide +kernel
theorem dX2_takenByList_98 : decode cX2_takenByList 98 = .ok (.iaload, 1) := by decide +kernel
theorem dX2_takenByList_99 : decode cX2_takenByList 99 = .ok (.istore 5, 2) := by decide +kernel
theorem dX2_takenByList_101 : decode cX2_takenByList 101 = .ok (.iinc 6 1, 3) := by decide +kernel
theorem dX2_takenByList_104 : decode cX2_takenByList 104 = .ok (.goto (-77), 3) := by decide +kernel
theorem dX2_takenByList_107 : decode cX2_takenByList 107 = .ok (.iload 5, 2) := by decide +kernel
theorem dX2_takenByList_109 : decode cX2_takenByList 109 = .ok (.iload_n 2, 1) := by decide +kernel
theorem dX2_takenByList_110 : decode cX2_takenByList 110 = .ok (.if_icmp .ne 8, 3) := by decide +kernel
theorem dX2_takenByList_113 : decode cX2_takenByList 113 = .ok (.iload 4, 2) := by decide +kernel
theorem dX2_takenByList_115 : decode cX2_takenByList 115 = .ok (.goto 4, 3) := by decide +kernel
theorem dX2_takenByList_118 : decode cX2_takenByList 118 = .ok (.iconst (-1), 1) := by decide +kernel
theorem dX2_takenByList_119 : decode cX2_takenByList 119 = .ok (.ireturn, 1) := by decide +kernel
theorem dX2_takenByCell_0 : decode cX2_takenByCell 0 = .ok (.aload_n 0, 1) := by decide +kernel
theorem dX2_takenByCell_1 : decode cX2_takenByCell 1 = .ok (.iload_n 1, 1) := by decide +kernel
theorem dX2_takenByCell_2 : decode cX2_takenByCell 2 = .ok (.invokevirtual 67, 3) := by decide +kernel
theorem dX2_takenByCell_5 : decode cX2_takenByCell 5 = .ok (.ifCond .eq 22, 3) := by decide +kernel
theorem dX2_takenByCell_8 : decode cX2_takenByCell 8 = .ok (.aload_n 0, 1) := by decide +kernel
theorem dX2_takenByCell_9 : decode cX2_takenByCell 9 = .ok (.getfield 22, 3) := by decide +kernel
theorem dX2_takenByCell_12 : decode cX2_takenByCell 12 = .ok (.iload_n 1, 1) := by decide +kernel
theorem dX2_takenByCell_13 : decode cX2_takenByCell 13 = .ok (.baload, 1) := by decide +kernel
theorem dX2_takenByCell_14 : decode cX2_takenByCell 14 = .ok (.ifCond .ne 13, 3) := by decide +kernel
theorem dX2_takenByCell_17 : decode cX2_takenByCell 17 = .ok (.aload_n 0, 1) := by decide +kernel
theorem dX2_takenByCell_18 : decode cX2_takenByCell 18 = .ok (.getfield 19, 3) := by decide +kernel
theorem dX2_takenByCell_21 : decode cX2_takenByCell 21 = .ok (.iload_n 1, 1) := by decide +kernel
theorem dX2_takenByCell_22 : decode cX2_takenByCell 22 = .ok (.iaload, 1) := by decide +kernel
theorem dX2_takenByCell_23 : decode cX2_takenByCell 23 = .ok (.iload_n 2, 1) := by decide +kernel
theorem dX2_takenByCell_24 : decode cX2_takenByCell 24 = .ok (.if_icmp .eq 5, 3) := by decide +kernel
theorem dX2_takenByCell_27 : decode cX2_takenByCell 27 = .ok (.iconst (-1), 1) := by decide +kernel
theorem dX2_takenByCell_28 : decode cX2_takenByCell 28 = .ok (.ireturn, 1) := by decide +kernel
theorem dX2_takenByCell_29 : decode cX2_takenByCell 29 = .ok (.aload_n 0, 1) := by decide +kernel
theorem dX2_takenByCell_30 : decode cX2_takenByCell 30 = .ok (.getfield 26, 3) := by decide +kernel
theorem dX2_takenByCell_33 : decode cX2_takenByCell 33 = .ok (.iload_n 1, 1) := by decide +kernel
theorem dX2_takenByCell_34 : decode cX2_takenByCell 34 = .ok (.iaload, 1) := by decide +kernel
theorem dX2_takenByCell_35 : decode cX2_takenByCell 35 = .ok (.ireturn, 1) := by decide +kernel
theorem dX0_advance_0 : decode cX0_advance 0 = .ok (.aload_n 0, 1) := by decide +kernel
theorem dX0_advance_1 : decode cX0_advance 1 = .ok (.getfield 14, 3) := by decide +kernel
theorem dX0_advance_4 : decode cX0_advance 4 = .ok (.getfield 24, 3) := by decide +kernel
theorem dX0_advance_7 : decode cX0_advance 7 = .ok (.astore_n 1, 1) := by decide +kernel
theorem dX0_advance_8 : decode cX0_advance 8 = .ok (.iconst 4, 1) := by decide +kernel
theorem dX0_advance_9 : decode cX0_advance 9 = .ok (.istore_n 2, 1) := by decide +kernel
theorem dX0_advance_10 : decode cX0_advance 10 = .ok (.iload_n 2, 1) := by decide +kernel
theorem dX0_advance_11 : decode cX0_advance 11 = .ok (.ifCond .lt 44, 3) := by decide +kernel
theorem dX0_advance_14 : decode cX0_advance 14 = .ok (.aload_n 0, 1) := by decide +kernel
theorem dX0_advance_15 : decode cX0_advance 15 = .ok (.getfield 20, 3) := by decide +kernel
theorem dX0_advance_18 : decode cX0_advance 18 = .ok (.iconst 1, 1) := by decide +kernel
theorem dX0_advance_19 : decode cX0_advance 19 = .ok (.iload_n 2, 1) := by decide +kernel
theorem dX0_advance_20 : decode cX0_advance 20 = .ok (.ishl, 1) := by decide +kernel
theorem dX0_advance_21 : decode cX0_advance 21 = .ok (.iand, 1) := by decide +kernel
theorem dX0_advance_22 : decode cX0_advance 22 = .ok (.ifCond .eq 27, 3) := by decide +kernel
theorem dX0_advance_25 : decode cX0_advance 25 = .ok (.aload_n 1, 1) := by decide +kernel
theorem dX0_advance_26 : decode cX0_advance 26 = .ok (.iload_n 2, 1) := by decide +kernel
theorem dX0_advance_27 : decode cX0_advance 27 = .ok (.iaload, 1) := by decide +kernel
theorem dX0_advance_28 : decode cX0_advance 28 = .ok (.aload_n 0, 1) := by decide +kernel
theorem dX0_advance_29 : decode cX0_advance 29 = .ok (.iload_n 2, 1) := by decide +kernel
theorem dX0_advance_30 : decode cX0_advance 30 = .ok (.invokevirtual 34, 3) := by decide +kernel
theorem dX0_advance_33 : decode cX0_advance 33 = .ok (.if_icmp .gt 12, 3) := by decide +kernel
theorem dX0_advance_36 : decode cX0_advance 36 = .ok (.aload_n 1, 1) := by decide +kernel
theorem dX0_advance_37 : decode cX0_advance 37 = .ok (.iload_n 2, 1) := by decide +kernel
theorem dX0_advance_38 : decode cX0_advance 38 = .ok (.dup2, 1) := by decide +kernel
theorem dX0_advance_39 : decode cX0_advance 39 = .ok (.iaload, 1) := by decide +kernel
theorem dX0_advance_40 : decode cX0_advance 40 = .ok (.iconst 1, 1) := by decide +kernel
theorem dX0_advance_41 : decode cX0_advance 41 = .ok (.iadd, 1) := by decide +kernel
theorem dX0_advance_42 : decode cX0_advance 42 = .ok (.iastore, 1) := by decide +kernel
theorem dX0_advance_43 : decode cX0_advance 43 = .ok (.iconst 1, 1) := by decide +kernel
theorem dX0_advance_44 : decode cX0_advance 44 = .ok (.ireturn, 1) := by decide +kernel
theorem dX0_advance_45 : decode cX0_advance 45 = .ok (.aload_n 1, 1) := by decide +kernel
theorem dX0_advance_46 : decode cX0_advance 46 = .ok (.iload_n 2, 1) := by decide +kernel
theorem dX0_advance_47 : decode cX0_advance 47 = .ok (.iconst 0, 1) := by decide +kernel
theorem dX0_advance_48 : decode cX0_advance 48 = .ok (.iastore, 1) := by decide +kernel
theorem dX0_advance_49 : decode cX0_advance 49 = .ok (.iinc 2 (-1), 3) := by decide +kernel
theorem dX0_advance_52 : decode cX0_advance 52 = .ok (.goto (-42), 3) := by decide +kernel
theorem dX0_advance_55 : decode cX0_advance 55 = .ok (.iconst 0, 1) := by decide +kernel
theorem dX0_advance_56 : decode cX0_advance 56 = .ok (.ireturn, 1) := by decide +kernel
theorem dX0_greatestBefore_0 : decode cX0_greatestBefore 0 = .ok (.iconst 0, 1) := by decide +kernel
theorem dX0_greatestBefore_1 : decode cX0_greatestBefore 1 = .ok (.istore_n 2, 1) := by decide +kernel
theorem dX0_greatestBefore_2 : decode cX0_greatestBefore 2 = .ok (.iconst 0, 1) := by decide +kernel
theorem dX0_greatestBefore_3 : decode cX0_greatestBefore 3 = .ok (.istore_n 3, 1) := by decide +kernel
theorem dX0_greatestBefore_4 : decode cX0_greatestBefore 4 = .ok (.iload_n 3, 1) := by decide +kernel
theorem dX0_greatestBefore_5 : decode cX0_greatestBefore 5 = .ok (.iload_n 1, 1) := by decide +kernel
theorem dX0_greatestBefore_6 : decode cX0_greatestBefore 6 = .ok (.if_icmp .ge 23, 3) := by decide +kernel
theorem dX0_greatestBefore_9 : decode cX0_greatestBefore 9 = .ok (.iload_n 2, 1) := by decide +kernel
theorem dX0_greatestBefore_10 : decode cX0_greatestBefore 10 = .ok (.aload_n 0, 1) := by decide +kernel
theorem dX0_greatestBefore_11 : decode cX0_greatestBefore 11 = .ok (.getfield 14, 3) := by decide +kernel
theorem dX0_greatestBefore_14 : decode cX0_greatestBefore 14 = .ok (.getfield 24, 3) := by decide +kernel
theorem dX0_greatestBefore_17 : decode cX0_greatestBefore 17 = .ok (.iload_n 3, 1) := by decide +kernel
theorem dX0_greatestBefore_18 : decode cX0_greatestBefore 18 = .ok (.iaload, 1) := by decide +kernel
theorem dX0_greatestBefore_19 : decode cX0_greatestBefore 19 = .ok (.invokestatic 38, 3) := by decide +kernel
theorem dX0_greatestBefore_22 : decode cX0_greatestBefore 22 = .ok (.istore_n 2, 1) := by decide +kernel
theorem dX0_greatestBefore_23 : decode cX0_greatestBefore 23 = .ok (.iinc 3 1, 3) := by decide +kernel
theorem dX0_greatestBefore_26 : decode cX0_greatestBefore 26 = .ok (.goto (-22), 3) := by decide +kernel
theorem dX0_greatestBefore_29 : decode cX0_greatestBefore 29 = .ok (.iload_n 2, 1) := by decide +kernel
theorem dX0_greatestBefore_30 : decode cX0_greatestBefore 30 = .ok (.ireturn, 1) := by decide +kernel
theorem dJ6_bitCount_0 : decode cJ6_bitCount 0 = .ok (.iload_n 0, 1) := by decide +kernel
theorem dJ6_bitCount_1 : decode cJ6_bitCount 1 = .ok (.iload_n 0, 1) := by decide +kernel
theorem dJ6_bitCount_2 : decode cJ6_bitCount 2 = .ok (.iconst 1, 1) := by decide +kernel
theorem dJ6_bitCount_3 : decode cJ6_bitCount 3 = .ok (.iushr, 1) := by decide +kernel
theorem dJ6_bitCount_4 : decode cJ6_bitCount 4 = .ok (.ldc_w 265, 3) := by decide +kernel
theorem dJ6_bitCount_7 : decode cJ6_bitCount 7 = .ok (.iand, 1) := by decide +kernel
theorem dJ6_bitCount_8 : decode cJ6_bitCount 8 = .ok (.isub, 1) := by decide +kernel
theorem dJ6_bitCount_9 : decode cJ6_bitCount 9 = .ok (.istore_n 0, 1) := by decide +kernel
theorem dJ6_bitCount_10 : decode cJ6_bitCount 10 = .ok (.iload_n 0, 1) := by decide +kernel
theorem dJ6_bitCount_11 : decode cJ6_bitCount 11 = .ok (.ldc_w 266, 3) := by decide +kernel
theorem dJ6_bitCount_14 : decode cJ6_bitCount 14 = .ok (.iand, 1) := by decide +kernel
theorem dJ6_bitCount_15 : decode cJ6_bitCount 15 = .ok (.iload_n 0, 1) := by decide +kernel
theorem dJ6_bitCount_16 : decode cJ6_bitCount 16 = .ok (.iconst 2, 1) := by decide +kernel
theorem dJ6_bitCount_17 : decode cJ6_bitCount 17 = .ok (.iushr, 1) := by decide +kernel
theorem dJ6_bitCount_18 : decode cJ6_bitCount 18 = .ok (.ldc_w 266, 3) := by decide +kernel
theorem dJ6_bitCount_21 : decode cJ6_bitCount 21 = .ok (.iand, 1) := by decide +kernel
theorem dJ6_bitCount_22 : decode cJ6_bitCount 22 = .ok (.iadd, 1) := by decide +kernel
theorem dJ6_bitCount_23 : decode cJ6_bitCount 23 = .ok (.istore_n 0, 1) := by decide +kernel
theorem dJ6_bitCount_24 : decode cJ6_bitCount 24 = .ok (.iload_n 0, 1) := by decide +kernel
theorem dJ6_bitCount_25 : decode cJ6_bitCount 25 = .ok (.iload_n 0, 1) := by decide +kernel
theorem dJ6_bitCount_26 : decode cJ6_bitCount 26 = .ok (.iconst 4, 1) := by decide +kernel
theorem dJ6_bitCount_27 : decode cJ6_bitCount 27 = .ok (.iushr, 1) := by decide +kernel
theorem dJ6_bitCount_28 : decode cJ6_bitCount 28 = .ok (.iadd, 1) := by decide +kernel
theorem dJ6_bitCount_29 : decode cJ6_bitCount 29 = .ok (.ldc_w 267, 3) := by decide +kernel
theorem dJ6_bitCount_32 : decode cJ6_bitCount 32 = .ok (.iand, 1) := by decide +kernel
theorem dJ6_bitCount_33 : decode cJ6_bitCount 33 = .ok (.istore_n 0, 1) := by decide +kernel
theorem dJ6_bitCount_34 : decode cJ6_bitCount 34 = .ok (.iload_n 0, 1) := by decide +kernel
theorem dJ6_bitCount_35 : decode cJ6_bitCount 35 = .ok (.iload_n 0, 1) := by decide +kernel
theorem dJ6_bitCount_36 : decode cJ6_bitCount 36 = .ok (.bipush 8, 2) := by decide +kernel
theorem dJ6_bitCount_38 : decode cJ6_bitCount 38 = .ok (.iushr, 1) := by decide +kernel
theorem dJ6_bitCount_39 : decode cJ6_bitCount 39 = .ok (.iadd, 1) := by decide +kernel
theorem dJ6_bitCount_40 : decode cJ6_bitCount 40 = .ok (.istore_n 0, 1) := by decide +kernel
theorem dJ6_bitCount_41 : decode cJ6_bitCount 41 = .ok (.iload_n 0, 1) := by decide +kernel
theorem dJ6_bitCount_42 : decode cJ6_bitCount 42 = .ok (.iload_n 0, 1) := by decide +kernel
theorem dJ6_bitCount_43 : decode cJ6_bitCount 43 = .ok (.bipush 16, 2) := by decide +kernel
theorem dJ6_bitCount_45 : decode cJ6_bitCount 45 = .ok (.iushr, 1) := by decide +kernel
theorem dJ6_bitCount_46 : decode cJ6_bitCount 46 = .ok (.iadd, 1) := by decide +kernel
theorem dJ6_bitCount_47 : decode cJ6_bitCount 47 = .ok (.istore_n 0, 1) := by decide +kernel
theorem dJ6_bitCount_48 : decode cJ6_bitCount 48 = .ok (.iload_n 0, 1) := by decide +kernel
theorem dJ6_bitCount_49 : decode cJ6_bitCount 49 = .ok (.bipush 63, 2) := by decide +kernel
theorem dJ6_bitCount_51 : decode cJ6_bitCount 51 = .ok (.iand, 1) := by decide +kernel
theorem dJ6_bitCount_52 : decode cJ6_bitCount 52 = .ok (.ireturn, 1) := by decide +kernel
theorem dX1_addPair_0 : decode cX1_addPair 0 = .ok (.iload_n 3, 1) := by decide +kernel
theorem dX1_addPair_1 : decode cX1_addPair 1 = .ok (.ifCond .eq 18, 3) := by decide +kernel
theorem dX1_addPair_4 : decode cX1_addPair 4 = .ok (.aload_n 0, 1) := by decide +kernel
theorem dX1_addPair_5 : decode cX1_addPair 5 = .ok (.getfield 15, 3) := by decide +kernel
theorem dX1_addPair_8 : decode cX1_addPair 8 = .ok (.iload_n 1, 1) := by decide +kernel
theorem dX1_addPair_9 : decode cX1_addPair 9 = .ok (.dup2, 1) := by decide +kernel
theorem dX1_addPair_10 : decode cX1_addPair 10 = .ok (.iaload, 1) := by decide +kernel
theorem dX1_addPair_11 : decode cX1_addPair 11 = .ok (.iconst 1, 1) := by decide +kernel
theorem dX1_addPair_12 : decode cX1_addPair 12 = .ok (.iload_n 2, 1) := by decide +kernel
theorem dX1_addPair_13 : decode cX1_addPair 13 = .ok (.ishl, 1) := by decide +kernel
theorem dX1_addPair_14 : decode cX1_addPair 14 = .ok (.ior, 1) := by decide +kernel
theorem dX1_addPair_15 : decode cX1_addPair 15 = .ok (.iastore, 1) := by decide +kernel
theorem dX1_addPair_16 : decode cX1_addPair 16 = .ok (.goto 15, 3) := by decide +kernel
theorem dX1_addPair_19 : decode cX1_addPair 19 = .ok (.aload_n 0, 1) := by decide +kernel
theorem dX1_addPair_20 : decode cX1_addPair 20 = .ok (.getfield 9, 3) := by decide +kernel
theorem dX1_addPair_23 : decode cX1_addPair 23 = .ok (.iload_n 1, 1) := by decide +kernel
theorem dX1_addPair_24 : decode cX1_addPair 24 = .ok (.dup2, 1) := by decide +kernel
theorem dX1_addPair_25 : decode cX1_addPair 25 = .ok (.iaload, 1) := by decide +kernel
theorem dX1_addPair_26 : decode cX1_addPair 26 = .ok (.iconst 1, 1) := by decide +kernel
theorem dX1_addPair_27 : decode cX1_addPair 27 = .ok (.iload_n 2, 1) := by decide +kernel
theorem dX1_addPair_28 : decode cX1_addPair 28 = .ok (.ishl, 1) := by decide +kernel
theorem dX1_addPair_29 : decode cX1_addPair 29 = .ok (.ior, 1) := by decide +kernel
theorem dX1_addPair_30 : decode cX1_addPair 30 = .ok (.iastore, 1) := by decide +kernel
theorem dX1_addPair_31 : decode cX1_addPair 31 = .ok (.aload_n 0, 1) := by decide +kernel
theorem dX1_addPair_32 : decode cX1_addPair 32 = .ok (.dup, 1) := by decide +kernel
theorem dX1_addPair_33 : decode cX1_addPair 33 = .ok (.getfield 28, 3) := by decide +kernel
theorem dX1_addPair_36 : decode cX1_addPair 36 = .ok (.iconst 1, 1) := by decide +kernel
theorem dX1_addPair_37 : decode cX1_addPair 37 = .ok (.iload_n 1, 1) := by decide +kernel
theorem dX1_addPair_38 : decode cX1_addPair 38 = .ok (.ishl, 1) := by decide +kernel
theorem dX1_addPair_39 : decode cX1_addPair 39 = .ok (.iconst 1, 1) := by decide +kernel
theorem dX1_addPair_40 : decode cX1_addPair 40 = .ok (.iload_n 2, 1) := by decide +kernel
theorem dX1_addPair_41 : decode cX1_addPair 41 = .ok (.ishl, 1) := by decide +kernel
theorem dX1_addPair_42 : decode cX1_addPair 42 = .ok (.ior, 1) := by decide +kernel
theorem dX1_addPair_43 : decode cX1_addPair 43 = .ok (.ior, 1) := by decide +kernel
theorem dX1_addPair_44 : decode cX1_addPair 44 = .ok (.putfield 28, 3) := by decide +kernel
theorem dX1_addPair_47 : decode cX1_addPair 47 = .ok (.return_, 1) := by decide +kernel
theorem dX1_addPiece_0 : decode cX1_addPiece 0 = .ok (.aload_n 0, 1) := by decide +kernel
theorem dX1_addPiece_1 : decode cX1_addPiece 1 = .ok (.getfield 18, 3) := by decide +kernel
theorem dX1_addPiece_4 : decode cX1_addPiece 4 = .ok (.aload_n 0, 1) := by decide +kernel
theorem dX1_addPiece_5 : decode cX1_addPiece 5 = .ok (.getfield 32, 3) := by decide +kernel
theorem dX1_addPiece_8 : decode cX1_addPiece 8 = .ok (.iload_n 1, 1) := by decide +kernel
theorem dX1_addPiece_9 : decode cX1_addPiece 9 = .ok (.iastore, 1) := by decide +kernel
theorem dX1_addPiece_10 : decode cX1_addPiece 10 = .ok (.aload_n 0, 1) := by decide +kernel
theorem dX1_addPiece_11 : decode cX1_addPiece 11 = .ok (.getfield 21, 3) := by decide +kernel
theorem dX1_addPiece_14 : decode cX1_addPiece 14 = .ok (.aload_n 0, 1) := by decide +kernel
theorem dX1_addPiece_15 : decode cX1_addPiece 15 = .ok (.getfield 32, 3) := by decide +kernel
theorem dX1_addPiece_18 : decode cX1_addPiece 18 = .ok (.iload_n 2, 1) := by decide +kernel
theorem dX1_addPiece_19 : decode cX1_addPiece 19 = .ok (.iastore, 1) := by decide +kernel
theorem dX1_addPiece_20 : decode cX1_addPiece 20 = .ok (.aload_n 0, 1) := by decide +kernel
theorem dX1_addPiece_21 : decode cX1_addPiece 21 = .ok (.getfield 24, 3) := by decide +kernel
theorem dX1_addPiece_24 : decode cX1_addPiece 24 = .ok (.aload_n 0, 1) := by decide +kernel
theorem dX1_addPiece_25 : decode cX1_addPiece 25 = .ok (.getfield 32, 3) := by decide +kernel
theorem dX1_addPiece_28 : decode cX1_addPiece 28 = .ok (.iload_n 3, 1) := by decide +kernel
theorem dX1_addPiece_29 : decode cX1_addPiece 29 = .ok (.bastore, 1) := by decide +kernel
theorem dX1_addPiece_30 : decode cX1_addPiece 30 = .ok (.aload_n 0, 1) := by decide +kernel
theorem dX1_addPiece_31 : decode cX1_addPiece 31 = .ok (.dup, 1) := by decide +kernel
theorem dX1_addPiece_32 : decode cX1_addPiece 32 = .ok (.getfield 32, 3) := by decide +kernel
theorem dX1_addPiece_35 : decode cX1_addPiece 35 = .ok (.iconst 1, 1) := by decide +kernel
theorem dX1_addPiece_36 : decode cX1_addPiece 36 = .ok (.iadd, 1) := by decide +kernel
theorem dX1_addPiece_37 : decode cX1_addPiece 37 = .ok (.putfield 32, 3) := by decide +kernel
theorem dX1_addPiece_40 : decode cX1_addPiece 40 = .ok (.aload_n 0, 1) := by decide +kernel
theorem dX1_addPiece_41 : decode cX1_addPiece 41 = .ok (.dup, 1) := by decide +kernel
theorem dX1_addPiece_42 : decode cX1_addPiece 42 = .ok (.getfield 28, 3) := by decide +kernel
theorem dX1_addPiece_45 : decode cX1_addPiece 45 = .ok (.iconst 1, 1) := by decide +kernel
theorem dX1_addPiece_46 : decode cX1_addPiece 46 = .ok (.iload_n 1, 1) := by decide +kernel
theorem dX1_addPiece_47 : decode cX1_addPiece 47 = .ok (.ishl, 1) := by decide +kernel
theorem dX1_addPiece_48 : decode cX1_addPiece 48 = .ok (.iconst 1, 1) := by decide +kernel
theorem dX1_addPiece_49 : decode cX1_addPiece 49 = .ok (.iload_n 2, 1) := by decide +kernel
theorem dX1_addPiece_50 : decode cX1_addPiece 50 = .ok (.ishl, 1) := by decide +kernel
theorem dX1_addPiece_51 : decode cX1_addPiece 51 = .ok (.ior, 1) := by decide +kernel
theorem dX1_addPiece_52 : decode cX1_addPiece 52 = .ok (.ior, 1) := by decide +kernel
theorem dX1_addPiece_53 : decode cX1_addPiece 53 = .ok (.putfield 28, 3) := by decide +kernel
theorem dX1_addPiece_56 : decode cX1_addPiece 56 = .ok (.return_, 1) := by decide +kernel
theorem dX1_forgetAll_0 : decode cX1_forgetAll 0 = .ok (.aload_n 0, 1) := by decide +kernel
theorem dX1_forgetAll_1 : decode cX1_forgetAll 1 = .ok (.getfield 9, 3) := by decide +kernel
theorem dX1_forgetAll_4 : decode cX1_forgetAll 4 = .ok (.iconst 0, 1) := by decide +kernel
theorem dX1_forgetAll_5 : decode cX1_forgetAll 5 = .ok (.invokestatic 35, 3) := by decide +kernel
theorem dX1_forgetAll_8 : decode cX1_forgetAll 8 = .ok (.aload_n 0, 1) := by decide +kernel
theorem dX1_forgetAll_9 : decode cX1_forgetAll 9 = .ok (.getfield 15, 3) := by decide +kernel
theorem dX1_forgetAll_12 : decode cX1_forgetAll 12 = .ok (.iconst 0, 1) := by decide +kernel
theorem dX1_forgetAll_13 : decode cX1_forgetAll 13 = .ok (.invokestatic 35, 3) := by decide +kernel
theorem dX1_forgetAll_16 : decode cX1_forgetAll 16 = .ok (.aload_n 0, 1) := by decide +kernel
theorem dX1_forgetAll_17 : decode cX1_forgetAll 17 = .ok (.iconst 0, 1) := by decide +kernel
theorem dX1_forgetAll_18 : decode cX1_forgetAll 18 = .ok (.putfield 32, 3) := by decide +kernel
theorem dX1_forgetAll_21 : decode cX1_forgetAll 21 = .ok (.aload_n 0, 1) := by decide +kernel
theorem dX1_forgetAll_22 : decode cX1_forgetAll 22 = .ok (.iconst 0, 1) := by decide +kernel
theorem dX1_forgetAll_23 : decode cX1_forgetAll 23 = .ok (.putfield 28, 3) := by decide +kernel
theorem dX1_forgetAll_26 : decode cX1_forgetAll 26 = .ok (.return_, 1) := by decide +kernel
theorem dX2_setCell_0 : decode cX2_setCell 0 = .ok (.aload_n 0, 1) := by decide +kernel
theorem dX2_setCell_1 : decode cX2_setCell 1 = .ok (.iload_n 1, 1) := by decide +kernel
theorem dX2_setCell_2 : decode cX2_setCell 2 = .ok (.iload_n 2, 1) := by decide +kernel
theorem dX2_setCell_3 : decode cX2_setCell 3 = .ok (.iconst 0, 1) := by decide +kernel
theorem dX2_setCell_4 : decode cX2_setCell 4 = .ok (.iconst 1, 1) := by decide +kernel
theorem dX2_setCell_5 : decode cX2_setCell 5 = .ok (.iload_n 1, 1) := by decide +kernel
theorem dX2_setCell_6 : decode cX2_setCell 6 = .ok (.ishl, 1) := by decide +kernel
theorem dX2_setCell_7 : decode cX2_setCell 7 = .ok (.invokevirtual 35, 3) := by decide +kernel
theorem dX2_setCell_10 : decode cX2_setCell 10 = .ok (.return_, 1) := by decide +kernel
theorem dX2_leastFreeAddress_0 : decode cX2_leastFreeAddress 0 = .ok (.iconst 1, 1) := by decide +kernel
theorem dX2_leastFreeAddress_1 : decode cX2_leastFreeAddress 1 = .ok (.istore_n 1, 1) := by decide +kernel
theorem dX2_leastFreeAddress_2 : decode cX2_leastFreeAddress 2 = .ok (.iload_n 1, 1) := by decide +kernel
theorem dX2_leastFreeAddress_3 : decode cX2_leastFreeAddress 3 = .ok (.aload_n 0, 1) := by decide +kernel
theorem dX2_leastFreeAddress_4 : decode cX2_leastFreeAddress 4 = .ok (.getfield 15, 3) := by decide +kernel
theorem dX2_leastFreeAddress_7 : decode cX2_leastFreeAddress 7 = .ok (.if_icmp .gt 21, 3) := by decide +kernel
theorem dX2_leastFreeAddress_10 : decode cX2_leastFreeAddress 10 = .ok (.aload_n 0, 1) := by decide +kernel
theorem dX2_leastFreeAddress_11 : decode cX2_leastFreeAddress 11 = .ok (.getfield 19, 3) := by decide +kernel
theorem dX2_leastFreeAddress_14 : decode cX2_leastFreeAddress 14 = .ok (.iload_n 1, 1) := by decide +kernel
theorem dX2_leastFreeAddress_15 : decode cX2_leastFreeAddress 15 = .ok (.iaload, 1) := by decide +kernel
theorem dX2_leastFreeAddress_16 : decode cX2_leastFreeAddress 16 = .ok (.iconst (-1), 1) := by decide +kernel
theorem dX2_leastFreeAddress_17 : decode cX2_leastFreeAddress 17 = .ok (.if_icmp .ne 5, 3) := by decide +kernel
theorem dX2_leastFreeAddress_20 : decode cX2_leastFreeAddress 20 = .ok (.iload_n 1, 1) := by decide +kernel
theorem dX2_leastFreeAddress_21 : decode cX2_leastFreeAddress 21 = .ok (.ireturn, 1) := by decide +kernel
theorem dX2_leastFreeAddress_22 : decode cX2_leastFreeAddress 22 = .ok (.iinc 1 1, 3) := by decide +kernel
theorem dX2_leastFreeAddress_25 : decode cX2_leastFreeAddress 25 = .ok (.goto (-23), 3) := by decide +kernel
theorem dX2_leastFreeAddress_28 : decode cX2_leastFreeAddress 28 = .ok (.iconst (-1), 1) := by decide +kernel
theorem dX2_leastFreeAddress_29 : decode cX2_leastFreeAddress 29 = .ok (.ireturn, 1) := by decide +kernel
theorem dX2_removeCell_0 : decode cX2_removeCell 0 = .ok (.aload_n 0, 1) := by decide +kernel
theorem dX2_removeCell_1 : decode cX2_removeCell 1 = .ok (.getfield 19, 3) := by decide +kernel
theorem dX2_removeCell_4 : decode cX2_removeCell 4 = .ok (.iload_n 1, 1) := by decide +kernel
theorem dX2_removeCell_5 : decode cX2_removeCell 5 = .ok (.iconst (-1), 1) := by decide +kernel
theorem dX2_removeCell_6 : decode cX2_removeCell 6 = .ok (.iastore, 1) := by decide +kernel
theorem dX2_removeCell_7 : decode cX2_removeCell 7 = .ok (.aload_n 0, 1) := by decide +kernel
theorem dX2_removeCell_8 : decode cX2_removeCell 8 = .ok (.dup, 1) := by decide +kernel
theorem dX2_removeCell_9 : decode cX2_removeCell 9 = .ok (.getfield 39, 3) := by decide +kernel
theorem dX2_removeCell_12 : decode cX2_removeCell 12 = .ok (.aload_n 0, 1) := by decide +kernel
theorem dX2_removeCell_13 : decode cX2_removeCell 13 = .ok (.getfield 26, 3) := by decide +kernel
theorem dX2_removeCell_16 : decode cX2_removeCell 16 = .ok (.iload_n 1, 1) := by decide +kernel
theorem dX2_removeCell_17 : decode cX2_removeCell 17 = .ok (.iaload, 1) := by decide +kernel
theorem dX2_removeCell_18 : decode cX2_removeCell 18 = .ok (.iconst (-1), 1) := by decide +kernel
theorem dX2_removeCell_19 : decode cX2_removeCell 19 = .ok (.ixor, 1) := by decide +kernel
theorem dX2_removeCell_20 : decode cX2_removeCell 20 = .ok (.iand, 1) := by decide +kernel
theorem dX2_removeCell_21 : decode cX2_removeCell 21 = .ok (.putfield 39, 3) := by decide +kernel
theorem dX2_removeCell_24 : decode cX2_removeCell 24 = .ok (.return_, 1) := by decide +kernel
end
section
/-! decoded instructions -/
theorem dX3_init_0 : decode cX3_init 0 = .ok (.aload_n 0, 1) := by decide +kernel
theorem dX3_init_1 : decode cX3_init 1 = .ok (.invokespecial 1, 3) := by decide +kernel
theorem dX3_init_4 : decode cX3_init 4 = .ok (.aload_n 0, 1) := by decide +kernel
theorem dX3_init_5 : decode cX3_init 5 = .ok (.new 7, 3) := by decide +kernel
theorem dX3_init_8 : decode cX3_init 8 = .ok (.dup, 1) := by decide +kernel
theorem dX3_init_9 : decode cX3_init 9 = .ok (.invokespecial 9, 3) := by decide +kernel
theorem dX3_init_12 : decode cX3_init 12 = .ok (.putfield 10, 3) := by decide +kernel
theorem dX3_init_15 : decode cX3_init 15 = .ok (.aload_n 0, 1) := by decide +kernel
theorem dX3_init_16 : decode cX3_init 16 = .ok (.new 7, 3) := by decide +kernel
theorem dX3_init_19 : decode cX3_init 19 = .ok (.dup, 1) := by decide +kernel
theorem dX3_init_20 : decode cX3_init 20 = .ok (.invokespecial 9, 3) := by decide +kernel
theorem dX3_init_23 : decode cX3_init 23 = .ok (.putfield 16, 3) := by decide +kernel
theorem dX3_init_26 : decode cX3_init 26 = .ok (.aload_n 0, 1) := by decide +kernel
theorem dX3_init_27 : decode cX3_init 27 = .ok (.new 19, 3) := by decide +kernel
theorem dX3_init_30 : decode cX3_init 30 = .ok (.dup, 1) := by decide +kernel
theorem dX3_init_31 : decode cX3_init 31 = .ok (.bipush 9, 2) := by decide +kernel
theorem dX3_init_33 : decode cX3_init 33 = .ok (.invokespecial 21, 3) := by decide +kernel
theorem dX3_init_36 : decode cX3_init 36 = .ok (.putfield 24, 3) := by decide +kernel
theorem dX3_init_39 : decode cX3_init 39 = .ok (.aload_n 0, 1) := by decide +kernel
theorem dX3_init_40 : decode cX3_init 40 = .ok (.new 28, 3) := by decide +kernel
theorem dX3_init_43 : decode cX3_init 43 = .ok (.dup, 1) := by decide +kernel
theorem dX3_init_44 : decode cX3_init 44 = .ok (.invokespecial 30, 3) := by decide +kernel
theorem dX3_init_47 : decode cX3_init 47 = .ok (.putfield 31, 3) := by decide +kernel
theorem dX3_init_50 : decode cX3_init 50 = .ok (.return_, 1) := by decide +kernel
theorem dX3_swap_0 : decode cX3_swap 0 = .ok (.aload_n 0, 1) := by decide +kernel
theorem dX3_swap_1 : decode cX3_swap 1 = .ok (.getfield 10, 3) := by decide +kernel
theorem dX3_swap_4 : decode cX3_swap 4 = .ok (.astore_n 1, 1) := by decide +kernel
theorem dX3_swap_5 : decode cX3_swap 5 = .ok (.aload_n 0, 1) := by decide +kernel
theorem dX3_swap_6 : decode cX3_swap 6 = .ok (.aload_n 0, 1) := by decide +kernel
theorem dX3_swap_7 : decode cX3_swap 7 = .ok (.getfield 16, 3) := by decide +kernel
theorem dX3_swap_10 : decode cX3_swap 10 = .ok (.putfield 10, 3) := by decide +kernel
theorem dX3_swap_13 : decode cX3_swap 13 = .ok (.aload_n 0, 1) := by decide +kernel
theorem dX3_swap_14 : decode cX3_swap 14 = .ok (.aload_n 1, 1) := by decide +kernel
theorem dX3_swap_15 : decode cX3_swap 15 = .ok (.putfield 16, 3) := by decide +kernel
theorem dX3_swap_18 : decode cX3_swap 18 = .ok (.return_, 1) := by decide +kernel
theorem dX3_implies_0 : decode cX3_implies 0 = .ok (.aload_n 0, 1) := by decide +kernel
theorem dX3_implies_1 : decode cX3_implies 1 = .ok (.invokevirtual 77, 3) := by decide +kernel
theorem dX3_implies_4 : decode cX3_implies 4 = .ok (.ifCond .ne 7, 3) := by decide +kernel
theorem dX3_implies_7 : decode cX3_implies 7 = .ok (.iconst 1, 1) := by decide +kernel
theorem dX3_implies_8 : decode cX3_implies 8 = .ok (.goto 4, 3) := by decide +kernel
theorem dX3_implies_11 : decode cX3_implies 11 = .ok (.iconst 0, 1) := by decide +kernel
theorem dX3_implies_12 : decode cX3_implies 12 = .ok (.ireturn, 1) := by decide +kernel
theorem dX3_leastFrame_0 : decode cX3_leastFrame 0 = .ok (.iconst 0, 1) := by decide +kernel
theorem dX3_leastFrame_1 : decode cX3_leastFrame 1 = .ok (.istore_n 1, 1) := by decide +kernel
theorem dX3_leastFrame_2 : decode cX3_leastFrame 2 = .ok (.iconst 0, 1) := by decide +kernel
theorem dX3_leastFrame_3 : decode cX3_leastFrame 3 = .ok (.istore_n 2, 1) := by decide +kernel
theorem dX3_leastFrame_4 : decode cX3_leastFrame 4 = .ok (.aload_n 0, 1) := by decide +kernel
theorem dX3_leastFrame_5 : decode cX3_leastFrame 5 = .ok (.getfield 31, 3) := by decide +kernel
theorem dX3_leastFrame_8 : decode cX3_leastFrame 8 = .ok (.aload_n 0, 1) := by decide +kernel
theorem dX3_leastFrame_9 : decode cX3_leastFrame 9 = .ok (.getfield 10, 3) := by decide +kernel
theorem dX3_leastFrame_12 : decode cX3_leastFrame 12 = .ok (.getfield 63, 3) := by decide +kernel
theorem dX3_leastFrame_15 : decode cX3_leastFrame 15 = .ok (.aload_n 0, 1) := by decide +kernel
theorem dX3_leastFrame_16 : decode cX3_leastFrame 16 = .ok (.getfield 16, 3) := by decide +kernel
theorem dX3_leastFrame_19 : decode cX3_leastFrame 19 = .ok (.getfield 63, 3) := by decide +kernel
theorem dX3_leastFrame_22 : decode cX3_leastFrame 22 = .ok (.ior, 1) := by decide +kernel
theorem dX3_leastFrame_23 : decode cX3_leastFrame 23 = .ok (.invokevirtual 66, 3) := by decide +kernel
theorem dX3_leastFrame_26 : decode cX3_leastFrame 26 = .ok (.iconst 1, 1) := by decide +kernel
theorem dX3_leastFrame_27 : decode cX3_leastFrame 27 = .ok (.istore_n 3, 1) := by decide +kernel
theorem dX3_leastFrame_28 : decode cX3_leastFrame 28 = .ok (.iconst 0, 1) := by decide +kernel
theorem dX3_leastFrame_29 : decode cX3_leastFrame 29 = .ok (.istore 4, 2) := by decide +kernel
theorem dX3_leastFrame_31 : decode cX3_leastFrame 31 = .ok (.iload 4, 2) := by decide +kernel
theorem dX3_leastFrame_33 : decode cX3_leastFrame 33 = .ok (.sipush 203, 3) := by decide +kernel
theorem dX3_leastFrame_36 : decode cX3_leastFrame 36 = .ok (.if_icmp .ge 90, 3) := by decide +kernel
theorem dX3_leastFrame_39 : decode cX3_leastFrame 39 = .ok (.iload_n 3, 1) := by decide +kernel
theorem dX3_leastFrame_40 : decode cX3_leastFrame 40 = .ok (.ifCond .eq 86, 3) := by decide +kernel
theorem dX3_leastFrame_43 : decode cX3_leastFrame 43 = .ok (.aload_n 0, 1) := by decide +kernel
theorem dX3_leastFrame_44 : decode cX3_leastFrame 44 = .ok (.getfield 31, 3) := by decide +kernel
theorem dX3_leastFrame_47 : decode cX3_leastFrame 47 = .ok (.aload_n 0, 1) := by decide +kernel
theorem dX3_leastFrame_48 : decode cX3_leastFrame 48 = .ok (.getfield 10, 3) := by decide +kernel
theorem dX3_leastFrame_51 : decode cX3_leastFrame 51 = .ok (.invokevirtual 69, 3) := by decide +kernel
theorem dX3_leastFrame_54 : decode cX3_leastFrame 54 = .ok (.ifCond .eq 58, 3) := by decide +kernel
theorem dX3_leastFrame_57 : decode cX3_leastFrame 57 = .ok (.aload_n 0, 1) := by decide +kernel
theorem dX3_leastFrame_58 : decode cX3_leastFrame 58 = .ok (.getfield 31, 3) := by decide +kernel
theorem dX3_leastFrame_61 : decode cX3_leastFrame 61 = .ok (.getfield 153, 3) := by decide +kernel
theorem dX3_leastFrame_64 : decode cX3_leastFrame 64 = .ok (.aload_n 0, 1) := by decide +kernel
theorem dX3_leastFrame_65 : decode cX3_leastFrame 65 = .ok (.getfield 16, 3) := by decide +kernel
theorem dX3_leastFrame_68 : decode cX3_leastFrame 68 = .ok (.invokevirtual 106, 3) := by decide +kernel
theorem dX3_leastFrame_71 : decode cX3_leastFrame 71 = .ok (.istore 5, 2) := by decide +kernel
theorem dX3_leastFrame_73 : decode cX3_leastFrame 73 = .ok (.iload 5, 2) := by decide +kernel
theorem dX3_leastFrame_75 : decode cX3_leastFrame 75 = .ok (.iconst (-1), 1) := by decide +kernel
theorem dX3_leastFrame_76 : decode cX3_leastFrame 76 = .ok (.if_icmp .ne 5, 3) := by decide +kernel
theorem dX3_leastFrame_79 : decode cX3_leastFrame 79 = .ok (.iconst (-1), 1) := by decide +kernel
theorem dX3_leastFrame_80 : decode cX3_leastFrame 80 = .ok (.ireturn, 1) := by decide +kernel
theorem dX3_leastFrame_81 : decode cX3_leastFrame 81 = .ok (.iload_n 2, 1) := by decide +kernel
theorem dX3_leastFrame_82 : decode cX3_leastFrame 82 = .ok (.iload 5, 2) := by decide +kernel
theorem dX3_leastFrame_84 : decode cX3_leastFrame 84 = .ok (.ior, 1) := by decide +kernel
theorem dX3_leastFrame_85 : decode cX3_leastFrame 85 = .ok (.istore_n 2, 1) := by decide +kernel
theorem dX3_leastFrame_86 : decode cX3_leastFrame 86 = .ok (.iload_n 1, 1) := by decide +kernel
theorem dX3_leastFrame_87 : decode cX3_leastFrame 87 = .ok (.aload_n 0, 1) := by decide +kernel
theorem dX3_leastFrame_88 : decode cX3_leastFrame 88 = .ok (.getfield 31, 3) := by decide +kernel
theorem dX3_leastFrame_91 : decode cX3_leastFrame 91 = .ok (.getfield 153, 3) := by decide +kernel
theorem dX3_leastFrame_94 : decode cX3_leastFrame 94 = .ok (.getfield 110, 3) := by decide +kernel
theorem dX3_leastFrame_97 : decode cX3_leastFrame 97 = .ok (.iload 5, 2) := by decide +kernel
theorem dX3_leastFrame_99 : decode cX3_leastFrame 99 = .ok (.iconst (-1), 1) := by decide +kernel
theorem dX3_leastFrame_100 : decode cX3_leastFrame 100 = .ok (.ixor, 1) := by decide +kernel
theorem dX3_leastFrame_101 : decode cX3_leastFrame 101 = .ok (.iand, 1) := by decide +kernel
theorem dX3_leastFrame_102 : decode cX3_leastFrame 102 = .ok (.ior, 1) := by decide +kernel
theorem dX3_leastFrame_103 : decode cX3_leastFrame 103 = .ok (.istore_n 1, 1) := by decide +kernel
theorem dX3_leastFrame_104 : decode cX3_leastFrame 104 = .ok (.iload_n 1, 1) := by decide +kernel
theorem dX3_leastFrame_105 : decode cX3_leastFrame 105 = .ok (.iload_n 2, 1) := by decide +kernel
theorem dX3_leastFrame_106 : decode cX3_leastFrame 106 = .ok (.iand, 1) := by decide +kernel
theorem dX3_leastFrame_107 : decode cX3_leastFrame 107 = .ok (.ifCond .eq 5, 3) := by decide +kernel
theorem dX3_leastFrame_110 : decode cX3_leastFrame 110 = .ok (.iconst (-1), 1) := by decide +kernel
theorem dX3_leastFrame_111 : decode cX3_leastFrame 111 = .ok (.ireturn, 1) := by decide +kernel
theorem dX3_leastFrame_112 : decode cX3_leastFrame 112 = .ok (.aload_n 0, 1) := by decide +kernel
theorem dX3_leastFrame_113 : decode cX3_leastFrame 113 = .ok (.getfield 31, 3) := by decide +kernel
theorem dX3_leastFrame_116 : decode cX3_leastFrame 116 = .ok (.invokevirtual 73, 3) := by decide +kernel
theorem dX3_leastFrame_119 : decode cX3_leastFrame 119 = .ok (.istore_n 3, 1) := by decide +kernel
theorem dX3_leastFrame_120 : decode cX3_leastFrame 120 = .ok (.iinc 4 1, 3) := by decide +kernel
theorem dX3_leastFrame_123 : decode cX3_leastFrame 123 = .ok (.goto (-92), 3) := by decide +kernel
theorem dX3_leastFrame_126 : decode cX3_leastFrame 126 = .ok (.iload_n 1, 1) := by decide +kernel
theorem dX3_leastFrame_127 : decode cX3_leastFrame 127 = .ok (.ireturn, 1) := by decide +kernel
theorem dX3_frame_0 : decode cX3_frame 0 = .ok (.aload_n 0, 1) := by decide +kernel
theorem dX3_frame_1 : decode cX3_frame 1 = .ok (.invokevirtual 77, 3) := by decide +kernel
theorem dX3_frame_4 : decode cX3_frame 4 = .ok (.ireturn, 1) := by decide +kernel
theorem dX3_next_0 : decode cX3_next 0 = .ok (.aload_n 0, 1) := by decide +kernel
theorem dX3_next_1 : decode cX3_next 1 = .ok (.getfield 24, 3) := by decide +kernel
theorem dX3_next_4 : decode cX3_next 4 = .ok (.iload_n 1, 1) := by decide +kernel
theorem dX3_next_5 : decode cX3_next 5 = .ok (.invokevirtual 130, 3) := by decide +kernel
theorem dX3_next_8 : decode cX3_next 8 = .ok (.ifCond .eq 15, 3) := by decide +kernel
theorem dX3_next_11 : decode cX3_next 11 = .ok (.aload_n 0, 1) := by decide +kernel
theorem dX3_next_12 : decode cX3_next 12 = .ok (.getfield 24, 3) := by decide +kernel
theorem dX3_next_15 : decode cX3_next 15 = .ok (.getfield 116, 3) := by decide +kernel
theorem dX3_next_18 : decode cX3_next 18 = .ok (.iload_n 1, 1) := by decide +kernel
theorem dX3_next_19 : decode cX3_next 19 = .ok (.iaload, 1) := by decide +kernel
theorem dX3_next_20 : decode cX3_next 20 = .ok (.goto 4, 3) := by decide +kernel
theorem dX3_next_23 : decode cX3_next 23 = .ok (.iconst (-1), 1) := by decide +kernel
theorem dX3_next_24 : decode cX3_next 24 = .ok (.ireturn, 1) := by decide +kernel
theorem dX3_count_0 : decode cX3_count 0 = .ok (.aload_n 0, 1) := by decide +kernel
theorem dX3_count_1 : decode cX3_count 1 = .ok (.getfield 24, 3) := by decide +kernel
theorem dX3_count_4 : decode cX3_count 4 = .ok (.getfield 110, 3) := by decide +kernel
theorem dX3_count_7 : decode cX3_count 7 = .ok (.invokestatic 134, 3) := by decide +kernel
theorem dX3_count_10 : decode cX3_count 10 = .ok (.ireturn, 1) := by decide +kernel
theorem dX3_pair_0 : decode cX3_pair 0 = .ok (.aload_n 0, 1) := by decide +kernel
theorem dX3_pair_1 : decode cX3_pair 1 = .ok (.iload_n 1, 1) := by decide +kernel
theorem dX3_pair_2 : decode cX3_pair 2 = .ok (.invokevirtual 35, 3) := by decide +kernel
theorem dX3_pair_5 : decode cX3_pair 5 = .ok (.astore 5, 2) := by decide +kernel
theorem dX3_pair_7 : decode cX3_pair 7 = .ok (.aload_n 0, 1) := by decide +kernel
theorem dX3_pair_8 : decode cX3_pair 8 = .ok (.iload_n 2, 1) := by decide +kernel
theorem dX3_pair_9 : decode cX3_pair 9 = .ok (.invokevirtual 39, 3) := by decide +kernel
theorem dX3_pair_12 : decode cX3_pair 12 = .ok (.aload_n 0, 1) := by decide +kernel
theorem dX3_pair_13 : decode cX3_pair 13 = .ok (.iload_n 3, 1) := by decide +kernel
theorem dX3_pair_14 : decode cX3_pair 14 = .ok (.invokevirtual 39, 3) := by decide +kernel
theorem dX3_pair_17 : decode cX3_pair 17 = .ok (.aload 5, 2) := by decide +kernel
theorem dX3_pair_19 : decode cX3_pair 19 = .ok (.iload_n 2, 1) := by decide +kernel
theorem dX3_pair_20 : decode cX3_pair 20 = .ok (.iload_n 3, 1) := by decide +kernel
theorem dX3_pair_21 : decode cX3_pair 21 = .ok (.iload 4, 2) := by decide +kernel
theorem dX3_pair_23 : decode cX3_pair 23 = .ok (.invokevirtual 42, 3) := by decide +kernel
theorem dX3_pair_26 : decode cX3_pair 26 = .ok (.return_, 1) := by decide +kernel
theorem dX3_claimAt_0 : decode cX3_claimAt 0 = .ok (.iload_n 1, 1) := by decide +kernel
theorem dX3_claimAt_1 : decode cX3_claimAt 1 = .ok (.ifCond .eq 18, 3) := by decide +kernel
theorem dX3_claimAt_4 : decode cX3_claimAt 4 = .ok (.iload_n 1, 1) := by decide +kernel
theorem dX3_claimAt_5 : decode cX3_claimAt 5 = .ok (.iconst 1, 1) := by decide +kernel
theorem dX3_claimAt_6 : decode cX3_claimAt 6 = .ok (.if_icmp .eq 13, 3) := by decide +kernel
theorem dX3_claimAt_9 : decode cX3_claimAt 9 = .ok (.new 140, 3) := by decide +kernel
theorem dX3_claimAt_12 : decode cX3_claimAt 12 = .ok (.dup, 1) := by decide +kernel
theorem dX3_claimAt_13 : decode cX3_claimAt 13 = .ok (.ldc 142, 2) := by decide +kernel
theorem dX3_claimAt_15 : decode cX3_claimAt 15 = .ok (.invokespecial 144, 3) := by decide +kernel
theorem dX3_claimAt_18 : decode cX3_claimAt 18 = .ok (.athrow, 1) := by decide +kernel
theorem dX3_claimAt_19 : decode cX3_claimAt 19 = .ok (.iload_n 1, 1) := by decide +kernel
theorem dX3_claimAt_20 : decode cX3_claimAt 20 = .ok (.ifCond .ne 10, 3) := by decide +kernel
theorem dX3_claimAt_23 : decode cX3_claimAt 23 = .ok (.aload_n 0, 1) := by decide +kernel
theorem dX3_claimAt_24 : decode cX3_claimAt 24 = .ok (.getfield 10, 3) := by decide +kernel
theorem dX3_claimAt_27 : decode cX3_claimAt 27 = .ok (.goto 7, 3) := by decide +kernel
theorem dX3_claimAt_30 : decode cX3_claimAt 30 = .ok (.aload_n 0, 1) := by decide +kernel
theorem dX3_claimAt_31 : decode cX3_claimAt 31 = .ok (.getfield 16, 3) := by decide +kernel
theorem dX3_claimAt_34 : decode cX3_claimAt 34 = .ok (.areturn, 1) := by decide +kernel
theorem dX3_checkTerm_0 : decode cX3_checkTerm 0 = .ok (.iload_n 1, 1) := by decide +kernel
theorem dX3_checkTerm_1 : decode cX3_checkTerm 1 = .ok (.ifCond .lt 9, 3) := by decide +kernel
theorem dX3_checkTerm_4 : decode cX3_checkTerm 4 = .ok (.iload_n 1, 1) := by decide +kernel
theorem dX3_checkTerm_5 : decode cX3_checkTerm 5 = .ok (.bipush 6, 2) := by decide +kernel
theorem dX3_checkTerm_7 : decode cX3_checkTerm 7 = .ok (.if_icmp .lt 13, 3) := by decide +kernel
theorem dX3_checkTerm_10 : decode cX3_checkTerm 10 = .ok (.new 140, 3) := by decide +kernel
theorem dX3_checkTerm_13 : decode cX3_checkTerm 13 = .ok (.dup, 1) := by decide +kernel
theorem dX3_checkTerm_14 : decode cX3_checkTerm 14 = .ok (.ldc 145, 2) := by decide +kernel
theorem dX3_checkTerm_16 : decode cX3_checkTerm 16 = .ok (.invokespecial 144, 3) := by decide +kernel
theorem dX3_checkTerm_19 : decode cX3_checkTerm 19 = .ok (.athrow, 1) := by decide +kernel
theorem dX3_checkTerm_20 : decode cX3_checkTerm 20 = .ok (.return_, 1) := by decide +kernel
theorem dX3_piece_0 : decode cX3_piece 0 = .ok (.aload_n 0, 1) := by decide +kernel
theorem dX3_piece_1 : decode cX3_piece 1 = .ok (.iload_n 1, 1) := by decide +kernel
theorem dX3_piece_2 : decode cX3_piece 2 = .ok (.invokevirtual 35, 3) := by decide +kernel
theorem dX3_piece_5 : decode cX3_piece 5 = .ok (.astore 5, 2) := by decide +kernel
theorem dX3_piece_7 : decode cX3_piece 7 = .ok (.aload_n 0, 1) := by decide +kernel
theorem dX3_piece_8 : decode cX3_piece 8 = .ok (.iload_n 2, 1) := by decide +kernel
theorem dX3_piece_9 : decode cX3_piece 9 = .ok (.invokevirtual 39, 3) := by decide +kernel
theorem dX3_piece_12 : decode cX3_piece 12 = .ok (.aload_n 0, 1) := by decide +kernel
theorem dX3_piece_13 : decode cX3_piece 13 = .ok (.iload_n 3, 1) := by decide +kernel
theorem dX3_piece_14 : decode cX3_piece 14 = .ok (.invokevirtual 39, 3) := by decide +kernel
theorem dX3_piece_17 : decode cX3_piece 17 = .ok (.aload 5, 2) := by decide +kernel
theorem dX3_piece_19 : decode cX3_piece 19 = .ok (.getfield 46, 3) := by decide +kernel
theorem dX3_piece_22 : decode cX3_piece 22 = .ok (.iconst 5, 1) := by decide +kernel
theorem dX3_piece_23 : decode cX3_piece 23 = .ok (.if_icmp .ne 13, 3) := by decide +kernel
theorem dX3_piece_26 : decode cX3_piece 26 = .ok (.new 50, 3) := by decide +kernel
theorem dX3_piece_29 : decode cX3_piece 29 = .ok (.dup, 1) := by decide +kernel
theorem dX3_piece_30 : decode cX3_piece 30 = .ok (.ldc 52, 2) := by decide +kernel
theorem dX3_piece_32 : decode cX3_piece 32 = .ok (.invokespecial 54, 3) := by decide +kernel
theorem dX3_piece_35 : decode cX3_piece 35 = .ok (.athrow, 1) := by decide +kernel
theorem dX3_piece_36 : decode cX3_piece 36 = .ok (.aload 5, 2) := by decide +kernel
theorem dX3_piece_38 : decode cX3_piece 38 = .ok (.iload_n 2, 1) := by decide +kernel
theorem dX3_piece_39 : decode cX3_piece 39 = .ok (.iload_n 3, 1) := by decide +kernel
theorem dX3_piece_40 : decode cX3_piece 40 = .ok (.iload 4, 2) := by decide +kernel
theorem dX3_piece_42 : decode cX3_piece 42 = .ok (.invokevirtual 57, 3) := by decide +kernel
theorem dX3_piece_45 : decode cX3_piece 45 = .ok (.aload 5, 2) := by decide +kernel
theorem dX3_piece_47 : decode cX3_piece 47 = .ok (.getfield 46, 3) := by decide +kernel
theorem dX3_piece_50 : decode cX3_piece 50 = .ok (.iconst 1, 1) := by decide +kernel
theorem dX3_piece_51 : decode cX3_piece 51 = .ok (.isub, 1) := by decide +kernel
theorem dX3_piece_52 : decode cX3_piece 52 = .ok (.ireturn, 1) := by decide +kernel
theorem dX3_clear_0 : decode cX3_clear 0 = .ok (.aload_n 0, 1) := by decide +kernel
theorem dX3_clear_1 : decode cX3_clear 1 = .ok (.iload_n 1, 1) := by decide +kernel
theorem dX3_clear_2 : decode cX3_clear 2 = .ok (.invokevirtual 35, 3) := by decide +kernel
theorem dX3_clear_5 : decode cX3_clear 5 = .ok (.invokevirtual 60, 3) := by decide +kernel
theorem dX3_clear_8 : decode cX3_clear 8 = .ok (.return_, 1) := by decide +kernel
theorem dX3_pieces_0 : decode cX3_pieces 0 = .ok (.aload_n 0, 1) := by decide +kernel
theorem dX3_pieces_1 : decode cX3_pieces 1 = .ok (.iload_n 1, 1) := by decide +kernel
theorem dX3_pieces_2 : decode cX3_pieces 2 = .ok (.invokevirtual 35, 3) := by decide +kernel
theorem dX3_pieces_5 : decode cX3_pieces 5 = .ok (.getfield 46, 3) := by decide +kernel
theorem dX3_pieces_8 : decode cX3_pieces 8 = .ok (.ireturn, 1) := by decide +kernel
theorem dX3_possible_0 : decode cX3_possible 0 = .ok (.aload_n 0, 1) := by decide +kernel
theorem dX3_possible_1 : decode cX3_possible 1 = .ok (.iload_n 1, 1) := by decide +kernel
theorem dX3_possible_2 : decode cX3_possible 2 = .ok (.invokevirtual 35, 3) := by decide +kernel
theorem dX3_possible_5 : decode cX3_possible 5 = .ok (.astore_n 2, 1) := by decide +kernel
theorem dX3_possible_6 : decode cX3_possible 6 = .ok (.aload_n 0, 1) := by decide +kernel
theorem dX3_possible_7 : decode cX3_possible 7 = .ok (.getfield 31, 3) := by decide +kernel
theorem dX3_possible_10 : decode cX3_possible 10 = .ok (.aload_n 2, 1) := by decide +kernel
theorem dX3_possible_11 : decode cX3_possible 11 = .ok (.getfield 63, 3) := by decide +kernel
theorem dX3_possible_14 : decode cX3_possible 14 = .ok (.invokevirtual 66, 3) := by decide +kernel
theorem dX3_possible_17 : decode cX3_possible 17 = .ok (.iconst 1, 1) := by decide +kernel
theorem dX3_possible_18 : decode cX3_possible 18 = .ok (.istore_n 3, 1) := by decide +kernel
theorem dX3_possible_19 : decode cX3_possible 19 = .ok (.iconst 0, 1) := by decide +kernel
theorem dX3_possible_20 : decode cX3_possible 20 = .ok (.istore 4, 2) := by decide +kernel
theorem dX3_possible_22 : decode cX3_possible 22 = .ok (.iload 4, 2) := by decide +kernel
theorem dX3_possible_24 : decode cX3_possible 24 = .ok (.sipush 203, 3) := by decide +kernel
theorem dX3_possible_27 : decode cX3_possible 27 = .ok (.if_icmp .ge 34, 3) := by decide +kernel
theorem dX3_possible_30 : decode cX3_possible 30 = .ok (.iload_n 3, 1) := by decide +kernel
theorem dX3_possible_31 : decode cX3_possible 31 = .ok (.ifCond .eq 30, 3) := by decide +kernel
theorem dX3_possible_34 : decode cX3_possible 34 = .ok (.aload_n 0, 1) := by decide +kernel
theorem dX3_possible_35 : decode cX3_possible 35 = .ok (.getfield 31, 3) := by decide +kernel
theorem dX3_possible_38 : decode cX3_possible 38 = .ok (.aload_n 2, 1) := by decide +kernel
theorem dX3_possible_39 : decode cX3_possible 39 = .ok (.invokevirtual 69, 3) := by decide +kernel
theorem dX3_possible_42 : decode cX3_possible 42 = .ok (.ifCond .eq 5, 3) := by decide +kernel
theorem dX3_possible_45 : decode cX3_possible 45 = .ok (.iconst 1, 1) := by decide +kernel
theorem dX3_possible_46 : decode cX3_possible 46 = .ok (.ireturn, 1) := by decide +kernel
theorem dX3_possible_47 : decode cX3_possible 47 = .ok (.aload_n 0, 1) := by decide +kernel
theorem dX3_possible_48 : decode cX3_possible 48 = .ok (.getfield 31, 3) := by decide +kernel
theorem dX3_possible_51 : decode cX3_possible 51 = .ok (.invokevirtual 73, 3) := by decide +kernel
theorem dX3_possible_54 : decode cX3_possible 54 = .ok (.istore_n 3, 1) := by decide +kernel
theorem dX3_possible_55 : decode cX3_possible 55 = .ok (.iinc 4 1, 3) := by decide +kernel
theorem dX3_possible_58 : decode cX3_possible 58 = .ok (.goto (-36), 3) := by decide +kernel
theorem dX3_possible_61 : decode cX3_possible 61 = .ok (.iconst 0, 1) := by decide +kernel
theorem dX3_possible_62 : decode cX3_possible 62 = .ok (.ireturn, 1) := by decide +kernel
theorem dX3_sure_0 : decode cX3_sure 0 = .ok (.aload_n 0, 1) := by decide +kernel
theorem dX3_sure_1 : decode cX3_sure 1 = .ok (.iload_n 2, 1) := by decide +kernel
theorem dX3_sure_2 : decode cX3_sure 2 = .ok (.invokevirtual 39, 3) := by decide +kernel
theorem dX3_sure_5 : decode cX3_sure 5 = .ok (.aload_n 0, 1) := by decide +kernel
theorem dX3_sure_6 : decode cX3_sure 6 = .ok (.iload_n 3, 1) := by decide +kernel
theorem dX3_sure_7 : decode cX3_sure 7 = .ok (.invokevirtual 39, 3) := by decide +kernel
theorem dX3_sure_10 : decode cX3_sure 10 = .ok (.iload_n 1, 1) := by decide +kernel
theorem dX3_sure_11 : decode cX3_sure 11 = .ok (.ifCond .eq 23, 3) := by decide +kernel
theorem dX3_sure_14 : decode cX3_sure 14 = .ok (.iload_n 1, 1) := by decide +kernel
theorem dX3_sure_15 : decode cX3_sure 15 = .ok (.iconst 1, 1) := by decide +kernel
theorem dX3_sure_16 : decode cX3_sure 16 = .ok (.if_icmp .eq 18, 3) := by decide +kernel
theorem dX3_sure_19 : decode cX3_sure 19 = .ok (.iload_n 1, 1) := by decide +kernel
theorem dX3_sure_20 : decode cX3_sure 20 = .ok (.iconst 2, 1) := by decide +kernel
theorem dX3_sure_21 : decode cX3_sure 21 = .ok (.if_icmp .eq 13, 3) := by decide +kernel
theorem dX3_sure_24 : decode cX3_sure 24 = .ok (.new 81, 3) := by decide +kernel
theorem dX3_sure_27 : decode cX3_sure 27 = .ok (.dup, 1) := by decide +kernel
theorem dX3_sure_28 : decode cX3_sure 28 = .ok (.ldc 83, 2) := by decide +kernel
theorem dX3_sure_30 : decode cX3_sure 30 = .ok (.invokespecial 85, 3) := by decide +kernel
theorem dX3_sure_33 : decode cX3_sure 33 = .ok (.athrow, 1) := by decide +kernel
theorem dX3_sure_34 : decode cX3_sure 34 = .ok (.aload_n 0, 1) := by decide +kernel
theorem dX3_sure_35 : decode cX3_sure 35 = .ok (.getfield 31, 3) := by decide +kernel
theorem dX3_sure_38 : decode cX3_sure 38 = .ok (.aload_n 0, 1) := by decide +kernel
theorem dX3_sure_39 : decode cX3_sure 39 = .ok (.getfield 10, 3) := by decide +kernel
theorem dX3_sure_42 : decode cX3_sure 42 = .ok (.getfield 63, 3) := by decide +kernel
theorem dX3_sure_45 : decode cX3_sure 45 = .ok (.iconst 1, 1) := by decide +kernel
theorem dX3_sure_46 : decode cX3_sure 46 = .ok (.iload_n 2, 1) := by decide +kernel
theorem dX3_sure_47 : decode cX3_sure 47 = .ok (.ishl, 1) := by decide +kernel
theorem dX3_sure_48 : decode cX3_sure 48 = .ok (.ior, 1) := by decide +kernel
theorem dX3_sure_49 : decode cX3_sure 49 = .ok (.iconst 1, 1) := by decide +kernel
theorem dX3_sure_50 : decode cX3_sure 50 = .ok (.iload_n 3, 1) := by decide +kernel
theorem dX3_sure_51 : decode cX3_sure 51 = .ok (.ishl, 1) := by decide +kernel
theorem dX3_sure_52 : decode cX3_sure 52 = .ok (.ior, 1) := by decide +kernel
theorem dX3_sure_53 : decode cX3_sure 53 = .ok (.invokevirtual 66, 3) := by decide +kernel
theorem dX3_sure_56 : decode cX3_sure 56 = .ok (.iconst 1, 1) := by decide +kernel
theorem dX3_sure_57 : decode cX3_sure 57 = .ok (.istore 4, 2) := by decide +kernel
theorem dX3_sure_59 : decode cX3_sure 59 = .ok (.iconst 0, 1) := by decide +kernel
theorem dX3_sure_60 : decode cX3_sure 60 = .ok (.istore 5, 2) := by decide +kernel
theorem dX3_sure_62 : decode cX3_sure 62 = .ok (.iload 5, 2) := by decide +kernel
theorem dX3_sure_64 : decode cX3_sure 64 = .ok (.sipush 203, 3) := by decide +kernel
theorem dX3_sure_67 : decode cX3_sure 67 = .ok (.if_icmp .ge 49, 3) := by decide +kernel
theorem dX3_sure_70 : decode cX3_sure 70 = .ok (.iload 4, 2) := by decide +kernel
theorem dX3_sure_72 : decode cX3_sure 72 = .ok (.ifCond .eq 44, 3) := by decide +kernel
theorem dX3_sure_75 : decode cX3_sure 75 = .ok (.aload_n 0, 1) := by decide +kernel
theorem dX3_sure_76 : decode cX3_sure 76 = .ok (.getfield 31, 3) := by decide +kernel
theorem dX3_sure_79 : decode cX3_sure 79 = .ok (.aload_n 0, 1) := by decide +kernel
theorem dX3_sure_80 : decode cX3_sure 80 = .ok (.getfield 10, 3) := by decide +kernel
theorem dX3_sure_83 : decode cX3_sure 83 = .ok (.invokevirtual 69, 3) := by decide +kernel
theorem dX3_sure_86 : decode cX3_sure 86 = .ok (.ifCond .eq 15, 3) := by decide +kernel
theorem dX3_sure_89 : decode cX3_sure 89 = .ok (.aload_n 0, 1) := by decide +kernel
theorem dX3_sure_90 : decode cX3_sure 90 = .ok (.iload_n 1, 1) := by decide +kernel
theorem dX3_sure_91 : decode cX3_sure 91 = .ok (.iload_n 2, 1) := by decide +kernel
theorem dX3_sure_92 : decode cX3_sure 92 = .ok (.iload_n 3, 1) := by decide +kernel
theorem dX3_sure_93 : decode cX3_sure 93 = .ok (.invokevirtual 86, 3) := by decide +kernel
theorem dX3_sure_96 : decode cX3_sure 96 = .ok (.ifCond .ne 5, 3) := by decide +kernel
theorem dX3_sure_99 : decode cX3_sure 99 = .ok (.iconst 0, 1) := by decide +kernel
theorem dX3_sure_100 : decode cX3_sure 100 = .ok (.ireturn, 1) := by decide +kernel
theorem dX3_sure_101 : decode cX3_sure 101 = .ok (.aload_n 0, 1) := by decide +kernel
theorem dX3_sure_102 : decode cX3_sure 102 = .ok (.getfield 31, 3) := by decide +kernel
theorem dX3_sure_105 : decode cX3_sure 105 = .ok (.invokevirtual 73, 3) := by decide +kernel
theorem dX3_sure_108 : decode cX3_sure 108 = .ok (.istore 4, 2) := by decide +kernel
theorem dX3_sure_110 : decode cX3_sure 110 = .ok (.iinc 5 1, 3) := by decide +kernel
theorem dX3_sure_113 : decode cX3_sure 113 = .ok (.goto (-51), 3) := by decide +kernel
theorem dX3_sure_116 : decode cX3_sure 116 = .ok (.iconst 1, 1) := by decide +kernel
theorem dX3_sure_117 : decode cX3_sure 117 = .ok (.ireturn, 1) := by decide +kernel
theorem dX3_isSo_0 : decode cX3_isSo 0 = .ok (.aload_n 0, 1) := by decide +kernel
theorem dX3_isSo_1 : decode cX3_isSo 1 = .ok (.getfield 31, 3) := by decide +kernel
theorem dX3_isSo_4 : decode cX3_isSo 4 = .ok (.getfield 153, 3) := by decide +kernel
theorem dX3_isSo_7 : decode cX3_isSo 7 = .ok (.astore 4, 2) := by decide +kernel
theorem dX3_isSo_9 : decode cX3_isSo 9 = .ok (.iload_n 1, 1) := by decide +kernel
theorem dX3_isSo_10 : decode cX3_isSo 10 = .ok (.iconst 2, 1) := by decide +kernel
theorem dX3_isSo_11 : decode cX3_isSo 11 = .ok (.if_icmp .ne 16, 3) := by decide +kernel
theorem dX3_isSo_14 : decode cX3_isSo 14 = .ok (.aload 4, 2) := by decide +kernel
theorem dX3_isSo_16 : decode cX3_isSo 16 = .ok (.aload 4, 2) := by decide +kernel
theorem dX3_isSo_18 : decode cX3_isSo 18 = .ok (.getfield 96, 3) := by decide +kernel
theorem dX3_isSo_21 : decode cX3_isSo 21 = .ok (.iload_n 2, 1) := by decide +kernel
theorem dX3_isSo_22 : decode cX3_isSo 22 = .ok (.iaload, 1) := by decide +kernel
theorem dX3_isSo_23 : decode cX3_isSo 23 = .ok (.invokevirtual 130, 3) := by decide +kernel
theorem dX3_isSo_26 : decode cX3_isSo 26 = .ok (.ireturn, 1) := by decide +kernel
theorem dX3_isSo_27 : decode cX3_isSo 27 = .ok (.aload 4, 2) := by decide +kernel
theorem dX3_isSo_29 : decode cX3_isSo 29 = .ok (.getfield 96, 3) := by decide +kernel
theorem dX3_isSo_32 : decode cX3_isSo 32 = .ok (.iload_n 2, 1) := by decide +kernel
theorem dX3_isSo_33 : decode cX3_isSo 33 = .ok (.iaload, 1) := by decide +kernel
theorem dX3_isSo_34 : decode cX3_isSo 34 = .ok (.aload 4, 2) := by decide +kernel
theorem dX3_isSo_36 : decode cX3_isSo 36 = .ok (.getfield 96, 3) := by decide +kernel
theorem dX3_isSo_39 : decode cX3_isSo 39 = .ok (.iload_n 3, 1) := by decide +kernel
theorem dX3_isSo_40 : decode cX3_isSo 40 = .ok (.iaload, 1) := by decide +kernel
theorem dX3_isSo_41 : decode cX3_isSo 41 = .ok (.if_icmp .ne 7, 3) := by decide +kernel
theorem dX3_isSo_44 : decode cX3_isSo 44 = .ok (.iconst 1, 1) := by decide +kernel
theorem dX3_isSo_45 : decode cX3_isSo 45 = .ok (.goto 4, 3) := by decide +kernel
theorem dX3_isSo_48 : decode cX3_isSo 48 = .ok (.iconst 0, 1) := by decide +kernel
theorem dX3_isSo_49 : decode cX3_isSo 49 = .ok (.iload_n 1, 1) := by decide +kernel
theorem dX3_isSo_50 : decode cX3_isSo 50 = .ok (.ifCond .ne 7, 3) := by decide +kernel
theorem dX3_isSo_53 : decode cX3_isSo 53 = .ok (.iconst 1, 1) := by decide +kernel
theorem dX3_isSo_54 : decode cX3_isSo 54 = .ok (.goto 4, 3) := by decide +kernel
theorem dX3_isSo_57 : decode cX3_isSo 57 = .ok (.iconst 0, 1) := by decide +kernel
theorem dX3_isSo_58 : decode cX3_isSo 58 = .ok (.if_icmp .ne 7, 3) := by decide +kernel
theorem dX3_isSo_61 : decode cX3_isSo 61 = .ok (.iconst 1, 1) := by decide +kernel
theorem dX3_isSo_62 : decode cX3_isSo 62 = .ok (.goto 4, 3) := by decide +kernel
theorem dX3_isSo_65 : decode cX3_isSo 65 = .ok (.iconst 0, 1) := by decide +kernel
theorem dX3_isSo_66 : decode cX3_isSo 66 = .ok (.ireturn, 1) := by decide +kernel
theorem dX3_give_0 : decode cX3_give 0 = .ok (.aload_n 0, 1) := by decide +kernel
theorem dX3_give_1 : decode cX3_give 1 = .ok (.iload_n 1, 1) := by decide +kernel
theorem dX3_give_2 : decode cX3_give 2 = .ok (.invokevirtual 90, 3) := by decide +kernel
theorem dX3_give_5 : decode cX3_give 5 = .ok (.aload_n 0, 1) := by decide +kernel
theorem dX3_give_6 : decode cX3_give 6 = .ok (.iload_n 2, 1) := by decide +kernel
theorem dX3_give_7 : decode cX3_give 7 = .ok (.invokevirtual 93, 3) := by decide +kernel
theorem dX3_give_10 : decode cX3_give 10 = .ok (.aload_n 0, 1) := by decide +kernel
theorem dX3_give_11 : decode cX3_give 11 = .ok (.getfield 24, 3) := by decide +kernel
theorem dX3_give_14 : decode cX3_give 14 = .ok (.getfield 96, 3) := by decide +kernel
theorem dX3_give_17 : decode cX3_give 17 = .ok (.iload_n 1, 1) := by decide +kernel
theorem dX3_give_18 : decode cX3_give 18 = .ok (.iload_n 2, 1) := by decide +kernel
theorem dX3_give_19 : decode cX3_give 19 = .ok (.iastore, 1) := by decide +kernel
theorem dX3_give_20 : decode cX3_give 20 = .ok (.return_, 1) := by decide +kernel
theorem dX3_checkVariable_0 : decode cX3_checkVariable 0 = .ok (.iload_n 1, 1) := by decide +kernel
theorem dX3_checkVariable_1 : decode cX3_checkVariable 1 = .ok (.ifCond .lt 8, 3) := by decide +kernel
theorem dX3_checkVariable_4 : decode cX3_checkVariable 4 = .ok (.iload_n 1, 1) := by decide +kernel
theorem dX3_checkVariable_5 : decode cX3_checkVariable 5 = .ok (.iconst 5, 1) := by decide +kernel
theorem dX3_checkVariable_6 : decode cX3_checkVariable 6 = .ok (.if_icmp .lt 13, 3) := by decide +kernel
theorem dX3_checkVariable_9 : decode cX3_checkVariable 9 = .ok (.new 140, 3) := by decide +kernel
theorem dX3_checkVariable_12 : decode cX3_checkVariable 12 = .ok (.dup, 1) := by decide +kernel
theorem dX3_checkVariable_13 : decode cX3_checkVariable 13 = .ok (.ldc 147, 2) := by decide +kernel
theorem dX3_checkVariable_15 : decode cX3_checkVariable 15 = .ok (.invokespecial 144, 3) := by decide +kernel
theorem dX3_checkVariable_18 : decode cX3_checkVariable 18 = .ok (.athrow, 1) := by decide +kernel
theorem dX3_checkVariable_19 : decode cX3_checkVariable 19 = .ok (.return_, 1) := by decide +kernel
theorem dX3_checkValue_0 : decode cX3_checkValue 0 = .ok (.iload_n 1, 1) := by decide +kernel
theorem dX3_checkValue_1 : decode cX3_checkValue 1 = .ok (.ifCond .lt 9, 3) := by decide +kernel
theorem dX3_checkValue_4 : decode cX3_checkValue 4 = .ok (.iload_n 1, 1) := by decide +kernel
theorem dX3_checkValue_5 : decode cX3_checkValue 5 = .ok (.bipush 9, 2) := by decide +kernel
theorem dX3_checkValue_7 : decode cX3_checkValue 7 = .ok (.if_icmp .le 13, 3) := by decide +kernel
theorem dX3_checkValue_10 : decode cX3_checkValue 10 = .ok (.new 81, 3) := by decide +kernel
theorem dX3_checkValue_13 : decode cX3_checkValue 13 = .ok (.dup, 1) := by decide +kernel
theorem dX3_checkValue_14 : decode cX3_checkValue 14 = .ok (.ldc 149, 2) := by decide +kernel
theorem dX3_checkValue_16 : decode cX3_checkValue 16 = .ok (.invokespecial 85, 3) := by decide +kernel
theorem dX3_checkValue_19 : decode cX3_checkValue 19 = .ok (.athrow, 1) := by decide +kernel
theorem dX3_checkValue_20 : decode cX3_checkValue 20 = .ok (.return_, 1) := by decide +kernel
theorem dX3_put_0 : decode cX3_put 0 = .ok (.iload_n 1, 1) := by decide +kernel
theorem dX3_put_1 : decode cX3_put 1 = .ok (.ifCond .ne 13, 3) := by decide +kernel
theorem dX3_put_4 : decode cX3_put 4 = .ok (.new 81, 3) := by decide +kernel
theorem dX3_put_7 : decode cX3_put 7 = .ok (.dup, 1) := by decide +kernel
theorem dX3_put_8 : decode cX3_put 8 = .ok (.ldc 100, 2) := by decide +kernel
theorem dX3_put_10 : decode cX3_put 10 = .ok (.invokespecial 85, 3) := by decide +kernel
theorem dX3_put_13 : decode cX3_put 13 = .ok (.athrow, 1) := by decide +kernel
theorem dX3_put_14 : decode cX3_put 14 = .ok (.aload_n 0, 1) := by decide +kernel
theorem dX3_put_15 : decode cX3_put 15 = .ok (.iload_n 1, 1) := by decide +kernel
theorem dX3_put_16 : decode cX3_put 16 = .ok (.invokevirtual 93, 3) := by decide +kernel
theorem dX3_put_19 : decode cX3_put 19 = .ok (.aload_n 0, 1) := by decide +kernel
theorem dX3_put_20 : decode cX3_put 20 = .ok (.iload_n 2, 1) := by decide +kernel
theorem dX3_put_21 : decode cX3_put 21 = .ok (.invokevirtual 93, 3) := by decide +kernel
theorem dX3_put_24 : decode cX3_put 24 = .ok (.aload_n 0, 1) := by decide +kernel
theorem dX3_put_25 : decode cX3_put 25 = .ok (.getfield 24, 3) := by decide +kernel
theorem dX3_put_28 : decode cX3_put 28 = .ok (.iload_n 1, 1) := by decide +kernel
theorem dX3_put_29 : decode cX3_put 29 = .ok (.iload_n 2, 1) := by decide +kernel
theorem dX3_put_30 : decode cX3_put 30 = .ok (.invokevirtual 102, 3) := by decide +kernel
theorem dX3_put_33 : decode cX3_put 33 = .ok (.return_, 1) := by decide +kernel
theorem dX3_holds_0 : decode cX3_holds 0 = .ok (.aload_n 0, 1) := by decide +kernel
theorem dX3_holds_1 : decode cX3_holds 1 = .ok (.getfield 24, 3) := by decide +kernel
theorem dX3_holds_4 : decode cX3_holds 4 = .ok (.aload_n 0, 1) := by decide +kernel
theorem dX3_holds_5 : decode cX3_holds 5 = .ok (.iload_n 1, 1) := by decide +kernel
theorem dX3_holds_6 : decode cX3_holds 6 = .ok (.invokevirtual 35, 3) := by decide +kernel
theorem dX3_holds_9 : decode cX3_holds 9 = .ok (.invokevirtual 106, 3) := by decide +kernel
theorem dX3_holds_12 : decode cX3_holds 12 = .ok (.aload_n 0, 1) := by decide +kernel
theorem dX3_holds_13 : decode cX3_holds 13 = .ok (.getfield 24, 3) := by decide +kernel
theorem dX3_holds_16 : decode cX3_holds 16 = .ok (.getfield 110, 3) := by decide +kernel
theorem dX3_holds_19 : decode cX3_holds 19 = .ok (.if_icmp .ne 7, 3) := by decide +kernel
theorem dX3_holds_22 : decode cX3_holds 22 = .ok (.iconst 1, 1) := by decide +kernel
theorem dX3_holds_23 : decode cX3_holds 23 = .ok (.goto 4, 3) := by decide +kernel
theorem dX3_holds_26 : decode cX3_holds 26 = .ok (.iconst 0, 1) := by decide +kernel
theorem dX3_holds_27 : decode cX3_holds 27 = .ok (.ireturn, 1) := by decide +kernel
theorem dX3_copy_0 : decode cX3_copy 0 = .ok (.aload_n 0, 1) := by decide +kernel
theorem dX3_copy_1 : decode cX3_copy 1 = .ok (.iload_n 1, 1) := by decide +kernel
theorem dX3_copy_2 : decode cX3_copy 2 = .ok (.invokevirtual 90, 3) := by decide +kernel
theorem dX3_copy_5 : decode cX3_copy 5 = .ok (.aload_n 0, 1) := by decide +kernel
theorem dX3_copy_6 : decode cX3_copy 6 = .ok (.iload_n 2, 1) := by decide +kernel
theorem dX3_copy_7 : decode cX3_copy 7 = .ok (.invokevirtual 39, 3) := by decide +kernel
theorem dX3_copy_10 : decode cX3_copy 10 = .ok (.aload_n 0, 1) := by decide +kernel
theorem dX3_copy_11 : decode cX3_copy 11 = .ok (.getfield 24, 3) := by decide +kernel
theorem dX3_copy_14 : decode cX3_copy 14 = .ok (.getfield 96, 3) := by decide +kernel
theorem dX3_copy_17 : decode cX3_copy 17 = .ok (.iload_n 1, 1) := by decide +kernel
theorem dX3_copy_18 : decode cX3_copy 18 = .ok (.aload_n 0, 1) := by decide +kernel
theorem dX3_copy_19 : decode cX3_copy 19 = .ok (.getfield 24, 3) := by decide +kernel
theorem dX3_copy_22 : decode cX3_copy 22 = .ok (.getfield 96, 3) := by decide +kernel
theorem dX3_copy_25 : decode cX3_copy 25 = .ok (.iload_n 2, 1) := by decide +kernel
theorem dX3_copy_26 : decode cX3_copy 26 = .ok (.iaload, 1) := by decide +kernel
theorem dX3_copy_27 : decode cX3_copy 27 = .ok (.iastore, 1) := by decide +kernel
theorem dX3_copy_28 : decode cX3_copy 28 = .ok (.return_, 1) := by decide +kernel
theorem dX3_load_0 : decode cX3_load 0 = .ok (.aload_n 0, 1) := by decide +kernel
theorem dX3_load_1 : decode cX3_load 1 = .ok (.iload_n 1, 1) := by decide +kernel
theorem dX3_load_2 : decode cX3_load 2 = .ok (.invokevirtual 90, 3) := by decide +kernel
theorem dX3_load_5 : decode cX3_load 5 = .ok (.aload_n 0, 1) := by decide +kernel
theorem dX3_load_6 : decode cX3_load 6 = .ok (.iload_n 2, 1) := by decide +kernel
theorem dX3_load_7 : decode cX3_load 7 = .ok (.invokevirtual 90, 3) := by decide +kernel
theorem dX3_load_10 : decode cX3_load 10 = .ok (.aload_n 0, 1) := by decide +kernel
theorem dX3_load_11 : decode cX3_load 11 = .ok (.aload_n 0, 1) := by decide +kernel
theorem dX3_load_12 : decode cX3_load 12 = .ok (.getfield 24, 3) := by decide +kernel
theorem dX3_load_15 : decode cX3_load 15 = .ok (.getfield 96, 3) := by decide +kernel
theorem dX3_load_18 : decode cX3_load 18 = .ok (.iload_n 2, 1) := by decide +kernel
theorem dX3_load_19 : decode cX3_load 19 = .ok (.iaload, 1) := by decide +kernel
theorem dX3_load_20 : decode cX3_load 20 = .ok (.invokevirtual 113, 3) := by decide +kernel
theorem dX3_load_23 : decode cX3_load 23 = .ok (.aload_n 0, 1) := by decide +kernel
theorem dX3_load_24 : decode cX3_load 24 = .ok (.getfield 24, 3) := by decide +kernel
theorem dX3_load_27 : decode cX3_load 27 = .ok (.getfield 96, 3) := by decide +kernel
theorem dX3_load_30 : decode cX3_load 30 = .ok (.iload_n 1, 1) := by decide +kernel
theorem dX3_load_31 : decode cX3_load 31 = .ok (.aload_n 0, 1) := by decide +kernel
theorem dX3_load_32 : decode cX3_load 32 = .ok (.getfield 24, 3) := by decide +kernel
theorem dX3_load_35 : decode cX3_load 35 = .ok (.getfield 116, 3) := by decide +kernel
theorem dX3_load_38 : decode cX3_load 38 = .ok (.aload_n 0, 1) := by decide +kernel
theorem dX3_load_39 : decode cX3_load 39 = .ok (.getfield 24, 3) := by decide +kernel
theorem dX3_load_42 : decode cX3_load 42 = .ok (.getfield 96, 3) := by decide +kernel
theorem dX3_load_45 : decode cX3_load 45 = .ok (.iload_n 2, 1) := by decide +kernel
theorem dX3_load_46 : decode cX3_load 46 = .ok (.iaload, 1) := by decide +kernel
theorem dX3_load_47 : decode cX3_load 47 = .ok (.iaload, 1) := by decide +kernel
theorem dX3_load_48 : decode cX3_load 48 = .ok (.iastore, 1) := by decide +kernel
theorem dX3_load_49 : decode cX3_load 49 = .ok (.return_, 1) := by decide +kernel
theorem dX3_checkCell_0 : decode cX3_checkCell 0 = .ok (.aload_n 0, 1) := by decide +kernel
theorem dX3_checkCell_1 : decode cX3_checkCell 1 = .ok (.getfield 24, 3) := by decide +kernel
theorem dX3_checkCell_4 : decode cX3_checkCell 4 = .ok (.iload_n 1, 1) := by decide +kernel
theorem dX3_checkCell_5 : decode cX3_checkCell 5 = .ok (.invokevirtual 130, 3) := by decide +kernel
theorem dX3_checkCell_8 : decode cX3_checkCell 8 = .ok (.ifCond .ne 13, 3) := by decide +kernel
theorem dX3_checkCell_11 : decode cX3_checkCell 11 = .ok (.new 50, 3) := by decide +kernel
theorem dX3_checkCell_14 : decode cX3_checkCell 14 = .ok (.dup, 1) := by decide +kernel
theorem dX3_checkCell_15 : decode cX3_checkCell 15 = .ok (.ldc 151, 2) := by decide +kernel
theorem dX3_checkCell_17 : decode cX3_checkCell 17 = .ok (.invokespecial 54, 3) := by decide +kernel
theorem dX3_checkCell_20 : decode cX3_checkCell 20 = .ok (.athrow, 1) := by decide +kernel
theorem dX3_checkCell_21 : decode cX3_checkCell 21 = .ok (.return_, 1) := by decide +kernel
theorem dX3_store_0 : decode cX3_store 0 = .ok (.aload_n 0, 1) := by decide +kernel
theorem dX3_store_1 : decode cX3_store 1 = .ok (.iload_n 1, 1) := by decide +kernel
theorem dX3_store_2 : decode cX3_store 2 = .ok (.invokevirtual 90, 3) := by decide +kernel
theorem dX3_store_5 : decode cX3_store 5 = .ok (.aload_n 0, 1) := by decide +kernel
theorem dX3_store_6 : decode cX3_store 6 = .ok (.iload_n 2, 1) := by decide +kernel
theorem dX3_store_7 : decode cX3_store 7 = .ok (.invokevirtual 39, 3) := by decide +kernel
theorem dX3_store_10 : decode cX3_store 10 = .ok (.aload_n 0, 1) := by decide +kernel
theorem dX3_store_11 : decode cX3_store 11 = .ok (.aload_n 0, 1) := by decide +kernel
theorem dX3_store_12 : decode cX3_store 12 = .ok (.getfield 24, 3) := by decide +kernel
theorem dX3_store_15 : decode cX3_store 15 = .ok (.getfield 96, 3) := by decide +kernel
theorem dX3_store_18 : decode cX3_store 18 = .ok (.iload_n 1, 1) := by decide +kernel
theorem dX3_store_19 : decode cX3_store 19 = .ok (.iaload, 1) := by decide +kernel
theorem dX3_store_20 : decode cX3_store 20 = .ok (.invokevirtual 113, 3) := by decide +kernel
theorem dX3_store_23 : decode cX3_store 23 = .ok (.aload_n 0, 1) := by decide +kernel
theorem dX3_store_24 : decode cX3_store 24 = .ok (.getfield 24, 3) := by decide +kernel
theorem dX3_store_27 : decode cX3_store 27 = .ok (.aload_n 0, 1) := by decide +kernel
theorem dX3_store_28 : decode cX3_store 28 = .ok (.getfield 24, 3) := by decide +kernel
theorem dX3_store_31 : decode cX3_store 31 = .ok (.getfield 96, 3) := by decide +kernel
theorem dX3_store_34 : decode cX3_store 34 = .ok (.iload_n 1, 1) := by decide +kernel
theorem dX3_store_35 : decode cX3_store 35 = .ok (.iaload, 1) := by decide +kernel
theorem dX3_store_36 : decode cX3_store 36 = .ok (.aload_n 0, 1) := by decide +kernel
theorem dX3_store_37 : decode cX3_store 37 = .ok (.getfield 24, 3) := by decide +kernel
theorem dX3_store_40 : decode cX3_store 40 = .ok (.getfield 96, 3) := by decide +kernel
theorem dX3_store_43 : decode cX3_store 43 = .ok (.iload_n 2, 1) := by decide +kernel
theorem dX3_store_44 : decode cX3_store 44 = .ok (.iaload, 1) := by decide +kernel
theorem dX3_store_45 : decode cX3_store 45 = .ok (.invokevirtual 102, 3) := by decide +kernel
theorem dX3_store_48 : decode cX3_store 48 = .ok (.return_, 1) := by decide +kernel
theorem dX3_make_0 : decode cX3_make 0 = .ok (.aload_n 0, 1) := by decide +kernel
theorem dX3_make_1 : decode cX3_make 1 = .ok (.iload_n 1, 1) := by decide +kernel
theorem dX3_make_2 : decode cX3_make 2 = .ok (.invokevirtual 90, 3) := by decide +kernel
theorem dX3_make_5 : decode cX3_make 5 = .ok (.aload_n 0, 1) := by decide +kernel
theorem dX3_make_6 : decode cX3_make 6 = .ok (.getfield 24, 3) := by decide +kernel
theorem dX3_make_9 : decode cX3_make 9 = .ok (.invokevirtual 119, 3) := by decide +kernel
theorem dX3_make_12 : decode cX3_make 12 = .ok (.istore_n 2, 1) := by decide +kernel
theorem dX3_make_13 : decode cX3_make 13 = .ok (.iload_n 2, 1) := by decide +kernel
theorem dX3_make_14 : decode cX3_make 14 = .ok (.iconst (-1), 1) := by decide +kernel
theorem dX3_make_15 : decode cX3_make 15 = .ok (.if_icmp .ne 13, 3) := by decide +kernel
theorem dX3_make_18 : decode cX3_make 18 = .ok (.new 122, 3) := by decide +kernel
theorem dX3_make_21 : decode cX3_make 21 = .ok (.dup, 1) := by decide +kernel
theorem dX3_make_22 : decode cX3_make 22 = .ok (.ldc 124, 2) := by decide +kernel
theorem dX3_make_24 : decode cX3_make 24 = .ok (.invokespecial 126, 3) := by decide +kernel
theorem dX3_make_27 : decode cX3_make 27 = .ok (.athrow, 1) := by decide +kernel
theorem dX3_make_28 : decode cX3_make 28 = .ok (.aload_n 0, 1) := by decide +kernel
theorem dX3_make_29 : decode cX3_make 29 = .ok (.getfield 24, 3) := by decide +kernel
theorem dX3_make_32 : decode cX3_make 32 = .ok (.getfield 96, 3) := by decide +kernel
theorem dX3_make_35 : decode cX3_make 35 = .ok (.iload_n 1, 1) := by decide +kernel
theorem dX3_make_36 : decode cX3_make 36 = .ok (.iload_n 2, 1) := by decide +kernel
theorem dX3_make_37 : decode cX3_make 37 = .ok (.iastore, 1) := by decide +kernel
theorem dX3_make_38 : decode cX3_make 38 = .ok (.aload_n 0, 1) := by decide +kernel
theorem dX3_make_39 : decode cX3_make 39 = .ok (.getfield 24, 3) := by decide +kernel
theorem dX3_make_42 : decode cX3_make 42 = .ok (.iload_n 2, 1) := by decide +kernel
theorem dX3_make_43 : decode cX3_make 43 = .ok (.iconst 0, 1) := by decide +kernel
theorem dX3_make_44 : decode cX3_make 44 = .ok (.invokevirtual 102, 3) := by decide +kernel
theorem dX3_make_47 : decode cX3_make 47 = .ok (.return_, 1) := by decide +kernel
theorem dX3_drop_0 : decode cX3_drop 0 = .ok (.aload_n 0, 1) := by decide +kernel
theorem dX3_drop_1 : decode cX3_drop 1 = .ok (.iload_n 1, 1) := by decide +kernel
theorem dX3_drop_2 : decode cX3_drop 2 = .ok (.invokevirtual 90, 3) := by decide +kernel
theorem dX3_drop_5 : decode cX3_drop 5 = .ok (.aload_n 0, 1) := by decide +kernel
theorem dX3_drop_6 : decode cX3_drop 6 = .ok (.aload_n 0, 1) := by decide +kernel
theorem dX3_drop_7 : decode cX3_drop 7 = .ok (.getfield 24, 3) := by decide +kernel
theorem dX3_drop_10 : decode cX3_drop 10 = .ok (.getfield 96, 3) := by decide +kernel
theorem dX3_drop_13 : decode cX3_drop 13 = .ok (.iload_n 1, 1) := by decide +kernel
theorem dX3_drop_14 : decode cX3_drop 14 = .ok (.iaload, 1) := by decide +kernel
theorem dX3_drop_15 : decode cX3_drop 15 = .ok (.invokevirtual 113, 3) := by decide +kernel
theorem dX3_drop_18 : decode cX3_drop 18 = .ok (.aload_n 0, 1) := by decide +kernel
theorem dX3_drop_19 : decode cX3_drop 19 = .ok (.getfield 24, 3) := by decide +kernel
theorem dX3_drop_22 : decode cX3_drop 22 = .ok (.aload_n 0, 1) := by decide +kernel
theorem dX3_drop_23 : decode cX3_drop 23 = .ok (.getfield 24, 3) := by decide +kernel
theorem dX3_drop_26 : decode cX3_drop 26 = .ok (.getfield 96, 3) := by decide +kernel
theorem dX3_drop_29 : decode cX3_drop 29 = .ok (.iload_n 1, 1) := by decide +kernel
theorem dX3_drop_30 : decode cX3_drop 30 = .ok (.iaload, 1) := by decide +kernel
theorem dX3_drop_31 : decode cX3_drop 31 = .ok (.invokevirtual 127, 3) := by decide +kernel
theorem dX3_drop_34 : decode cX3_drop 34 = .ok (.return_, 1) := by decide +kernel
theorem dX3_value_0 : decode cX3_value 0 = .ok (.aload_n 0, 1) := by decide +kernel
theorem dX3_value_1 : decode cX3_value 1 = .ok (.iload_n 1, 1) := by decide +kernel
theorem dX3_value_2 : decode cX3_value 2 = .ok (.invokevirtual 39, 3) := by decide +kernel
theorem dX3_value_5 : decode cX3_value 5 = .ok (.aload_n 0, 1) := by decide +kernel
theorem dX3_value_6 : decode cX3_value 6 = .ok (.getfield 24, 3) := by decide +kernel
theorem dX3_value_9 : decode cX3_value 9 = .ok (.getfield 96, 3) := by decide +kernel
theorem dX3_value_12 : decode cX3_value 12 = .ok (.iload_n 1, 1) := by decide +kernel
theorem dX3_value_13 : decode cX3_value 13 = .ok (.iaload, 1) := by decide +kernel
theorem dX3_value_14 : decode cX3_value 14 = .ok (.ireturn, 1) := by decide +kernel
end
section
/-! decoded instructions -/
theorem dL_pair_0 : decode cL_pair 0 = .ok (.aload_n 0, 1) := by decide +kernel
theorem dL_pair_1 : decode cL_pair 1 = .ok (.iload_n 1, 1) := by decide +kernel
theorem dL_pair_2 : decode cL_pair 2 = .ok (.iload_n 2, 1) := by decide +kernel
theorem dL_pair_3 : decode cL_pair 3 = .ok (.iload_n 3, 1) := by decide +kernel
theorem dL_pair_4 : decode cL_pair 4 = .ok (.iload 4, 2) := by decide +kernel
theorem dL_pair_6 : decode cL_pair 6 = .ok (.invokevirtual 7, 3) := by decide +kernel
theorem dL_pair_9 : decode cL_pair 9 = .ok (.goto 7, 3) := by decide +kernel
theorem dL_pair_12 : decode cL_pair 12 = .ok (.astore 5, 2) := by decide +kernel
theorem dL_pair_14 : decode cL_pair 14 = .ok (.iconst 1, 1) := by decide +kernel
theorem dL_pair_15 : decode cL_pair 15 = .ok (.ireturn, 1) := by decide +kernel
theorem dL_pair_16 : decode cL_pair 16 = .ok (.iconst 0, 1) := by decide +kernel
theorem dL_pair_17 : decode cL_pair 17 = .ok (.ireturn, 1) := by decide +kernel
theorem dL_piece_0 : decode cL_piece 0 = .ok (.aload 5, 2) := by decide +kernel
theorem dL_piece_2 : decode cL_piece 2 = .ok (.iconst 0, 1) := by decide +kernel
theorem dL_piece_3 : decode cL_piece 3 = .ok (.aload_n 0, 1) := by decide +kernel
theorem dL_piece_4 : decode cL_piece 4 = .ok (.iload_n 1, 1) := by decide +kernel
theorem dL_piece_5 : decode cL_piece 5 = .ok (.iload_n 2, 1) := by decide +kernel
theorem dL_piece_6 : decode cL_piece 6 = .ok (.iload_n 3, 1) := by decide +kernel
theorem dL_piece_7 : decode cL_piece 7 = .ok (.iload 4, 2) := by decide +kernel
theorem dL_piece_9 : decode cL_piece 9 = .ok (.invokevirtual 15, 3) := by decide +kernel
theorem dL_piece_12 : decode cL_piece 12 = .ok (.i2l, 1) := by decide +kernel
theorem dL_piece_13 : decode cL_piece 13 = .ok (.lastore, 1) := by decide +kernel
theorem dL_piece_14 : decode cL_piece 14 = .ok (.goto 11, 3) := by decide +kernel
theorem dL_piece_17 : decode cL_piece 17 = .ok (.astore 6, 2) := by decide +kernel
theorem dL_piece_19 : decode cL_piece 19 = .ok (.iconst 1, 1) := by decide +kernel
theorem dL_piece_20 : decode cL_piece 20 = .ok (.ireturn, 1) := by decide +kernel
theorem dL_piece_21 : decode cL_piece 21 = .ok (.astore 6, 2) := by decide +kernel
theorem dL_piece_23 : decode cL_piece 23 = .ok (.iconst 2, 1) := by decide +kernel
theorem dL_piece_24 : decode cL_piece 24 = .ok (.ireturn, 1) := by decide +kernel
theorem dL_piece_25 : decode cL_piece 25 = .ok (.iconst 0, 1) := by decide +kernel
theorem dL_piece_26 : decode cL_piece 26 = .ok (.ireturn, 1) := by decide +kernel
theorem dL_clear_0 : decode cL_clear 0 = .ok (.aload_n 0, 1) := by decide +kernel
theorem dL_clear_1 : decode cL_clear 1 = .ok (.iload_n 1, 1) := by decide +kernel
theorem dL_clear_2 : decode cL_clear 2 = .ok (.invokevirtual 21, 3) := by decide +kernel
theorem dL_clear_5 : decode cL_clear 5 = .ok (.goto 6, 3) := by decide +kernel
theorem dL_clear_8 : decode cL_clear 8 = .ok (.astore_n 2, 1) := by decide +kernel
theorem dL_clear_9 : decode cL_clear 9 = .ok (.iconst 1, 1) := by decide +kernel
theorem dL_clear_10 : decode cL_clear 10 = .ok (.ireturn, 1) := by decide +kernel
theorem dL_clear_11 : decode cL_clear 11 = .ok (.iconst 0, 1) := by decide +kernel
theorem dL_clear_12 : decode cL_clear 12 = .ok (.ireturn, 1) := by decide +kernel
theorem dL_pieces_0 : decode cL_pieces 0 = .ok (.aload_n 2, 1) := by decide +kernel
theorem dL_pieces_1 : decode cL_pieces 1 = .ok (.iconst 0, 1) := by decide +kernel
theorem dL_pieces_2 : decode cL_pieces 2 = .ok (.aload_n 0, 1) := by decide +kernel
theorem dL_pieces_3 : decode cL_pieces 3 = .ok (.iload_n 1, 1) := by decide +kernel
theorem dL_pieces_4 : decode cL_pieces 4 = .ok (.invokevirtual 25, 3) := by decide +kernel
theorem dL_pieces_7 : decode cL_pieces 7 = .ok (.i2l, 1) := by decide +kernel
theorem dL_pieces_8 : decode cL_pieces 8 = .ok (.lastore, 1) := by decide +kernel
theorem dL_pieces_9 : decode cL_pieces 9 = .ok (.goto 6, 3) := by decide +kernel
theorem dL_pieces_12 : decode cL_pieces 12 = .ok (.astore_n 3, 1) := by decide +kernel
theorem dL_pieces_13 : decode cL_pieces 13 = .ok (.iconst 1, 1) := by decide +kernel
theorem dL_pieces_14 : decode cL_pieces 14 = .ok (.ireturn, 1) := by decide +kernel
theorem dL_pieces_15 : decode cL_pieces 15 = .ok (.iconst 0, 1) := by decide +kernel
theorem dL_pieces_16 : decode cL_pieces 16 = .ok (.ireturn, 1) := by decide +kernel
theorem dL_possible_0 : decode cL_possible 0 = .ok (.aload_n 2, 1) := by decide +kernel
theorem dL_possible_1 : decode cL_possible 1 = .ok (.iconst 0, 1) := by decide +kernel
theorem dL_possible_2 : decode cL_possible 2 = .ok (.aload_n 0, 1) := by decide +kernel
theorem dL_possible_3 : decode cL_possible 3 = .ok (.iload_n 1, 1) := by decide +kernel
theorem dL_possible_4 : decode cL_possible 4 = .ok (.invokevirtual 29, 3) := by decide +kernel
theorem dL_possible_7 : decode cL_possible 7 = .ok (.ifCond .eq 7, 3) := by decide +kernel
theorem dL_possible_10 : decode cL_possible 10 = .ok (.lconst 1, 1) := by decide +kernel
theorem dL_possible_11 : decode cL_possible 11 = .ok (.goto 4, 3) := by decide +kernel
theorem dL_possible_14 : decode cL_possible 14 = .ok (.lconst 0, 1) := by decide +kernel
theorem dL_possible_15 : decode cL_possible 15 = .ok (.lastore, 1) := by decide +kernel
theorem dL_possible_16 : decode cL_possible 16 = .ok (.goto 6, 3) := by decide +kernel
theorem dL_possible_19 : decode cL_possible 19 = .ok (.astore_n 3, 1) := by decide +kernel
theorem dL_possible_20 : decode cL_possible 20 = .ok (.iconst 1, 1) := by decide +kernel
theorem dL_possible_21 : decode cL_possible 21 = .ok (.ireturn, 1) := by decide +kernel
theorem dL_possible_22 : decode cL_possible 22 = .ok (.iconst 0, 1) := by decide +kernel
theorem dL_possible_23 : decode cL_possible 23 = .ok (.ireturn, 1) := by decide +kernel
theorem dL_sure_0 : decode cL_sure 0 = .ok (.aload 4, 2) := by decide +kernel
theorem dL_sure_2 : decode cL_sure 2 = .ok (.iconst 0, 1) := by decide +kernel
theorem dL_sure_3 : decode cL_sure 3 = .ok (.aload_n 0, 1) := by decide +kernel
theorem dL_sure_4 : decode cL_sure 4 = .ok (.iload_n 1, 1) := by decide +kernel
theorem dL_sure_5 : decode cL_sure 5 = .ok (.iload_n 2, 1) := by decide +kernel
theorem dL_sure_6 : decode cL_sure 6 = .ok (.iload_n 3, 1) := by decide +kernel
theorem dL_sure_7 : decode cL_sure 7 = .ok (.invokevirtual 33, 3) := by decide +kernel
theorem dL_sure_10 : decode cL_sure 10 = .ok (.ifCond .eq 7, 3) := by decide +kernel
theorem dL_sure_13 : decode cL_sure 13 = .ok (.lconst 1, 1) := by decide +kernel
theorem dL_sure_14 : decode cL_sure 14 = .ok (.goto 4, 3) := by decide +kernel
theorem dL_sure_17 : decode cL_sure 17 = .ok (.lconst 0, 1) := by decide +kernel
theorem dL_sure_18 : decode cL_sure 18 = .ok (.lastore, 1) := by decide +kernel
theorem dL_sure_19 : decode cL_sure 19 = .ok (.goto 11, 3) := by decide +kernel
theorem dL_sure_22 : decode cL_sure 22 = .ok (.astore 5, 2) := by decide +kernel
theorem dL_sure_24 : decode cL_sure 24 = .ok (.iconst 1, 1) := by decide +kernel
theorem dL_sure_25 : decode cL_sure 25 = .ok (.ireturn, 1) := by decide +kernel
theorem dL_sure_26 : decode cL_sure 26 = .ok (.astore 5, 2) := by decide +kernel
theorem dL_sure_28 : decode cL_sure 28 = .ok (.iconst 2, 1) := by decide +kernel
theorem dL_sure_29 : decode cL_sure 29 = .ok (.ireturn, 1) := by decide +kernel
theorem dL_sure_30 : decode cL_sure 30 = .ok (.iconst 0, 1) := by decide +kernel
theorem dL_sure_31 : decode cL_sure 31 = .ok (.ireturn, 1) := by decide +kernel
theorem dL_give_0 : decode cL_give 0 = .ok (.aload_n 0, 1) := by decide +kernel
theorem dL_give_1 : decode cL_give 1 = .ok (.iload_n 1, 1) := by decide +kernel
theorem dL_give_2 : decode cL_give 2 = .ok (.iload_n 2, 1) := by decide +kernel
theorem dL_give_3 : decode cL_give 3 = .ok (.invokevirtual 39, 3) := by decide +kernel
theorem dL_give_6 : decode cL_give 6 = .ok (.goto 9, 3) := by decide +kernel
theorem dL_give_9 : decode cL_give 9 = .ok (.astore_n 3, 1) := by decide +kernel
theorem dL_give_10 : decode cL_give 10 = .ok (.iconst 1, 1) := by decide +kernel
theorem dL_give_11 : decode cL_give 11 = .ok (.ireturn, 1) := by decide +kernel
theorem dL_give_12 : decode cL_give 12 = .ok (.astore_n 3, 1) := by decide +kernel
theorem dL_give_13 : decode cL_give 13 = .ok (.iconst 2, 1) := by decide +kernel
theorem dL_give_14 : decode cL_give 14 = .ok (.ireturn, 1) := by decide +kernel
theorem dL_give_15 : decode cL_give 15 = .ok (.iconst 0, 1) := by decide +kernel
theorem dL_give_16 : decode cL_give 16 = .ok (.ireturn, 1) := by decide +kernel
theorem dL_put_0 : decode cL_put 0 = .ok (.aload_n 0, 1) := by decide +kernel
theorem dL_put_1 : decode cL_put 1 = .ok (.iload_n 1, 1) := by decide +kernel
theorem dL_put_2 : decode cL_put 2 = .ok (.iload_n 2, 1) := by decide +kernel
theorem dL_put_3 : decode cL_put 3 = .ok (.invokevirtual 43, 3) := by decide +kernel
theorem dL_put_6 : decode cL_put 6 = .ok (.goto 6, 3) := by decide +kernel
theorem dL_put_9 : decode cL_put 9 = .ok (.astore_n 3, 1) := by decide +kernel
theorem dL_put_10 : decode cL_put 10 = .ok (.iconst 1, 1) := by decide +kernel
theorem dL_put_11 : decode cL_put 11 = .ok (.ireturn, 1) := by decide +kernel
theorem dL_put_12 : decode cL_put 12 = .ok (.iconst 0, 1) := by decide +kernel
theorem dL_put_13 : decode cL_put 13 = .ok (.ireturn, 1) := by decide +kernel
theorem dL_holds_0 : decode cL_holds 0 = .ok (.aload_n 2, 1) := by decide +kernel
theorem dL_holds_1 : decode cL_holds 1 = .ok (.iconst 0, 1) := by decide +kernel
theorem dL_holds_2 : decode cL_holds 2 = .ok (.aload_n 0, 1) := by decide +kernel
theorem dL_holds_3 : decode cL_holds 3 = .ok (.iload_n 1, 1) := by decide +kernel
theorem dL_holds_4 : decode cL_holds 4 = .ok (.invokevirtual 46, 3) := by decide +kernel
theorem dL_holds_7 : decode cL_holds 7 = .ok (.ifCond .eq 7, 3) := by decide +kernel
theorem dL_holds_10 : decode cL_holds 10 = .ok (.lconst 1, 1) := by decide +kernel
theorem dL_holds_11 : decode cL_holds 11 = .ok (.goto 4, 3) := by decide +kernel
theorem dL_holds_14 : decode cL_holds 14 = .ok (.lconst 0, 1) := by decide +kernel
theorem dL_holds_15 : decode cL_holds 15 = .ok (.lastore, 1) := by decide +kernel
theorem dL_holds_16 : decode cL_holds 16 = .ok (.goto 6, 3) := by decide +kernel
theorem dL_holds_19 : decode cL_holds 19 = .ok (.astore_n 3, 1) := by decide +kernel
theorem dL_holds_20 : decode cL_holds 20 = .ok (.iconst 1, 1) := by decide +kernel
theorem dL_holds_21 : decode cL_holds 21 = .ok (.ireturn, 1) := by decide +kernel
theorem dL_holds_22 : decode cL_holds 22 = .ok (.iconst 0, 1) := by decide +kernel
theorem dL_holds_23 : decode cL_holds 23 = .ok (.ireturn, 1) := by decide +kernel
theorem dL_copy_0 : decode cL_copy 0 = .ok (.aload_n 0, 1) := by decide +kernel
theorem dL_copy_1 : decode cL_copy 1 = .ok (.iload_n 1, 1) := by decide +kernel
theorem dL_copy_2 : decode cL_copy 2 = .ok (.iload_n 2, 1) := by decide +kernel
theorem dL_copy_3 : decode cL_copy 3 = .ok (.invokevirtual 49, 3) := by decide +kernel
theorem dL_copy_6 : decode cL_copy 6 = .ok (.goto 6, 3) := by decide +kernel
theorem dL_copy_9 : decode cL_copy 9 = .ok (.astore_n 3, 1) := by decide +kernel
theorem dL_copy_10 : decode cL_copy 10 = .ok (.iconst 1, 1) := by decide +kernel
theorem dL_copy_11 : decode cL_copy 11 = .ok (.ireturn, 1) := by decide +kernel
theorem dL_copy_12 : decode cL_copy 12 = .ok (.iconst 0, 1) := by decide +kernel
theorem dL_copy_13 : decode cL_copy 13 = .ok (.ireturn, 1) := by decide +kernel
theorem dL_load_0 : decode cL_load 0 = .ok (.aload_n 0, 1) := by decide +kernel
theorem dL_load_1 : decode cL_load 1 = .ok (.iload_n 1, 1) := by decide +kernel
theorem dL_load_2 : decode cL_load 2 = .ok (.iload_n 2, 1) := by decide +kernel
theorem dL_load_3 : decode cL_load 3 = .ok (.invokevirtual 52, 3) := by decide +kernel
theorem dL_load_6 : decode cL_load 6 = .ok (.goto 9, 3) := by decide +kernel
theorem dL_load_9 : decode cL_load 9 = .ok (.astore_n 3, 1) := by decide +kernel
theorem dL_load_10 : decode cL_load 10 = .ok (.iconst 1, 1) := by decide +kernel
theorem dL_load_11 : decode cL_load 11 = .ok (.ireturn, 1) := by decide +kernel
theorem dL_load_12 : decode cL_load 12 = .ok (.astore_n 3, 1) := by decide +kernel
theorem dL_load_13 : decode cL_load 13 = .ok (.iconst 2, 1) := by decide +kernel
theorem dL_load_14 : decode cL_load 14 = .ok (.ireturn, 1) := by decide +kernel
theorem dL_load_15 : decode cL_load 15 = .ok (.iconst 0, 1) := by decide +kernel
theorem dL_load_16 : decode cL_load 16 = .ok (.ireturn, 1) := by decide +kernel
theorem dL_store_0 : decode cL_store 0 = .ok (.aload_n 0, 1) := by decide +kernel
theorem dL_store_1 : decode cL_store 1 = .ok (.iload_n 1, 1) := by decide +kernel
theorem dL_store_2 : decode cL_store 2 = .ok (.iload_n 2, 1) := by decide +kernel
theorem dL_store_3 : decode cL_store 3 = .ok (.invokevirtual 55, 3) := by decide +kernel
theorem dL_store_6 : decode cL_store 6 = .ok (.goto 9, 3) := by decide +kernel
theorem dL_store_9 : decode cL_store 9 = .ok (.astore_n 3, 1) := by decide +kernel
theorem dL_store_10 : decode cL_store 10 = .ok (.iconst 1, 1) := by decide +kernel
theorem dL_store_11 : decode cL_store 11 = .ok (.ireturn, 1) := by decide +kernel
theorem dL_store_12 : decode cL_store 12 = .ok (.astore_n 3, 1) := by decide +kernel
theorem dL_store_13 : decode cL_store 13 = .ok (.iconst 2, 1) := by decide +kernel
theorem dL_store_14 : decode cL_store 14 = .ok (.ireturn, 1) := by decide +kernel
theorem dL_store_15 : decode cL_store 15 = .ok (.iconst 0, 1) := by decide +kernel
theorem dL_store_16 : decode cL_store 16 = .ok (.ireturn, 1) := by decide +kernel
theorem dL_make_0 : decode cL_make 0 = .ok (.aload_n 0, 1) := by decide +kernel
theorem dL_make_1 : decode cL_make 1 = .ok (.iload_n 1, 1) := by decide +kernel
theorem dL_make_2 : decode cL_make 2 = .ok (.invokevirtual 58, 3) := by decide +kernel
theorem dL_make_5 : decode cL_make 5 = .ok (.goto 9, 3) := by decide +kernel
theorem dL_make_8 : decode cL_make 8 = .ok (.astore_n 2, 1) := by decide +kernel
theorem dL_make_9 : decode cL_make 9 = .ok (.iconst 1, 1) := by decide +kernel
theorem dL_make_10 : decode cL_make 10 = .ok (.ireturn, 1) := by decide +kernel
theorem dL_make_11 : decode cL_make 11 = .ok (.astore_n 2, 1) := by decide +kernel
theorem dL_make_12 : decode cL_make 12 = .ok (.iconst 2, 1) := by decide +kernel
theorem dL_make_13 : decode cL_make 13 = .ok (.ireturn, 1) := by decide +kernel
theorem dL_make_14 : decode cL_make 14 = .ok (.iconst 0, 1) := by decide +kernel
theorem dL_make_15 : decode cL_make 15 = .ok (.ireturn, 1) := by decide +kernel
theorem dL_drop_0 : decode cL_drop 0 = .ok (.aload_n 0, 1) := by decide +kernel
theorem dL_drop_1 : decode cL_drop 1 = .ok (.iload_n 1, 1) := by decide +kernel
theorem dL_drop_2 : decode cL_drop 2 = .ok (.invokevirtual 63, 3) := by decide +kernel
theorem dL_drop_5 : decode cL_drop 5 = .ok (.goto 9, 3) := by decide +kernel
theorem dL_drop_8 : decode cL_drop 8 = .ok (.astore_n 2, 1) := by decide +kernel
theorem dL_drop_9 : decode cL_drop 9 = .ok (.iconst 1, 1) := by decide +kernel
theorem dL_drop_10 : decode cL_drop 10 = .ok (.ireturn, 1) := by decide +kernel
theorem dL_drop_11 : decode cL_drop 11 = .ok (.astore_n 2, 1) := by decide +kernel
theorem dL_drop_12 : decode cL_drop 12 = .ok (.iconst 2, 1) := by decide +kernel
theorem dL_drop_13 : decode cL_drop 13 = .ok (.ireturn, 1) := by decide +kernel
theorem dL_drop_14 : decode cL_drop 14 = .ok (.iconst 0, 1) := by decide +kernel
theorem dL_drop_15 : decode cL_drop 15 = .ok (.ireturn, 1) := by decide +kernel
theorem dL_value_0 : decode cL_value 0 = .ok (.aload_n 2, 1) := by decide +kernel
theorem dL_value_1 : decode cL_value 1 = .ok (.iconst 0, 1) := by decide +kernel
theorem dL_value_2 : decode cL_value 2 = .ok (.aload_n 0, 1) := by decide +kernel
theorem dL_value_3 : decode cL_value 3 = .ok (.iload_n 1, 1) := by decide +kernel
theorem dL_value_4 : decode cL_value 4 = .ok (.invokevirtual 66, 3) := by decide +kernel
theorem dL_value_7 : decode cL_value 7 = .ok (.i2l, 1) := by decide +kernel
theorem dL_value_8 : decode cL_value 8 = .ok (.lastore, 1) := by decide +kernel
theorem dL_value_9 : decode cL_value 9 = .ok (.goto 6, 3) := by decide +kernel
theorem dL_value_12 : decode cL_value 12 = .ok (.astore_n 3, 1) := by decide +kernel
theorem dL_value_13 : decode cL_value 13 = .ok (.iconst 1, 1) := by decide +kernel
theorem dL_value_14 : decode cL_value 14 = .ok (.ireturn, 1) := by decide +kernel
theorem dL_value_15 : decode cL_value 15 = .ok (.iconst 0, 1) := by decide +kernel
theorem dL_value_16 : decode cL_value 16 = .ok (.ireturn, 1) := by decide +kernel
end
section
/-! decoded instructions -/
theorem dX4_init_0 : decode cX4_init 0 = .ok (.aload_n 0, 1) := by decide +kernel
theorem dX4_init_1 : decode cX4_init 1 = .ok (.invokespecial 1, 3) := by decide +kernel
theorem dX4_init_4 : decode cX4_init 4 = .ok (.aload_n 0, 1) := by decide +kernel
theorem dX4_init_5 : decode cX4_init 5 = .ok (.bipush 72, 2) := by decide +kernel
theorem dX4_init_7 : decode cX4_init 7 = .ok (.newarray .boolean, 2) := by decide +kernel
theorem dX4_init_9 : decode cX4_init 9 = .ok (.putfield 7, 3) := by decide +kernel
theorem dX4_init_12 : decode cX4_init 12 = .ok (.aload_n 0, 1) := by decide +kernel
theorem dX4_init_13 : decode cX4_init 13 = .ok (.bipush 72, 2) := by decide +kernel
theorem dX4_init_15 : decode cX4_init 15 = .ok (.newarray .boolean, 2) := by decide +kernel
theorem dX4_init_17 : decode cX4_init 17 = .ok (.putfield 13, 3) := by decide +kernel
theorem dX4_init_20 : decode cX4_init 20 = .ok (.aload_n 0, 1) := by decide +kernel
theorem dX4_init_21 : decode cX4_init 21 = .ok (.iconst 2, 1) := by decide +kernel
theorem dX4_init_22 : decode cX4_init 22 = .ok (.newarray .int, 2) := by decide +kernel
theorem dX4_init_24 : decode cX4_init 24 = .ok (.putfield 16, 3) := by decide +kernel
theorem dX4_init_27 : decode cX4_init 27 = .ok (.aload_n 0, 1) := by decide +kernel
theorem dX4_init_28 : decode cX4_init 28 = .ok (.bipush 10, 2) := by decide +kernel
theorem dX4_init_30 : decode cX4_init 30 = .ok (.newarray .int, 2) := by decide +kernel
theorem dX4_init_32 : decode cX4_init 32 = .ok (.putfield 20, 3) := by decide +kernel
theorem dX4_init_35 : decode cX4_init 35 = .ok (.aload_n 0, 1) := by decide +kernel
theorem dX4_init_36 : decode cX4_init 36 = .ok (.bipush 10, 2) := by decide +kernel
theorem dX4_init_38 : decode cX4_init 38 = .ok (.newarray .int, 2) := by decide +kernel
theorem dX4_init_40 : decode cX4_init 40 = .ok (.putfield 23, 3) := by decide +kernel
theorem dX4_init_43 : decode cX4_init 43 = .ok (.aload_n 0, 1) := by decide +kernel
theorem dX4_init_44 : decode cX4_init 44 = .ok (.bipush 10, 2) := by decide +kernel
theorem dX4_init_46 : decode cX4_init 46 = .ok (.newarray .boolean, 2) := by decide +kernel
theorem dX4_init_48 : decode cX4_init 48 = .ok (.putfield 26, 3) := by decide +kernel
theorem dX4_init_51 : decode cX4_init 51 = .ok (.aload_n 0, 1) := by decide +kernel
theorem dX4_init_52 : decode cX4_init 52 = .ok (.bipush 6, 2) := by decide +kernel
theorem dX4_init_54 : decode cX4_init 54 = .ok (.newarray .int, 2) := by decide +kernel
theorem dX4_init_56 : decode cX4_init 56 = .ok (.putfield 29, 3) := by decide +kernel
theorem dX4_init_59 : decode cX4_init 59 = .ok (.aload_n 0, 1) := by decide +kernel
theorem dX4_init_60 : decode cX4_init 60 = .ok (.bipush 6, 2) := by decide +kernel
theorem dX4_init_62 : decode cX4_init 62 = .ok (.newarray .boolean, 2) := by decide +kernel
theorem dX4_init_64 : decode cX4_init 64 = .ok (.putfield 32, 3) := by decide +kernel
theorem dX4_init_67 : decode cX4_init 67 = .ok (.aload_n 0, 1) := by decide +kernel
theorem dX4_init_68 : decode cX4_init 68 = .ok (.bipush 6, 2) := by decide +kernel
theorem dX4_init_70 : decode cX4_init 70 = .ok (.newarray .int, 2) := by decide +kernel
theorem dX4_init_72 : decode cX4_init 72 = .ok (.putfield 35, 3) := by decide +kernel
theorem dX4_init_75 : decode cX4_init 75 = .ok (.aload_n 0, 1) := by decide +kernel
theorem dX4_init_76 : decode cX4_init 76 = .ok (.bipush 6, 2) := by decide +kernel
theorem dX4_init_78 : decode cX4_init 78 = .ok (.newarray .boolean, 2) := by decide +kernel
theorem dX4_init_80 : decode cX4_init 80 = .ok (.putfield 38, 3) := by decide +kernel
theorem dX4_init_83 : decode cX4_init 83 = .ok (.aload_n 0, 1) := by decide +kernel
theorem dX4_init_84 : decode cX4_init 84 = .ok (.bipush 6, 2) := by decide +kernel
theorem dX4_init_86 : decode cX4_init 86 = .ok (.newarray .boolean, 2) := by decide +kernel
theorem dX4_init_88 : decode cX4_init 88 = .ok (.putfield 41, 3) := by decide +kernel
theorem dX4_init_91 : decode cX4_init 91 = .ok (.aload_n 0, 1) := by decide +kernel
theorem dX4_init_92 : decode cX4_init 92 = .ok (.bipush 12, 2) := by decide +kernel
theorem dX4_init_94 : decode cX4_init 94 = .ok (.newarray .int, 2) := by decide +kernel
theorem dX4_init_96 : decode cX4_init 96 = .ok (.putfield 44, 3) := by decide +kernel
theorem dX4_init_99 : decode cX4_init 99 = .ok (.aload_n 0, 1) := by decide +kernel
theorem dX4_init_100 : decode cX4_init 100 = .ok (.bipush 12, 2) := by decide +kernel
theorem dX4_init_102 : decode cX4_init 102 = .ok (.newarray .int, 2) := by decide +kernel
theorem dX4_init_104 : decode cX4_init 104 = .ok (.putfield 47, 3) := by decide +kernel
theorem dX4_init_107 : decode cX4_init 107 = .ok (.aload_n 0, 1) := by decide +kernel
theorem dX4_init_108 : decode cX4_init 108 = .ok (.bipush 12, 2) := by decide +kernel
theorem dX4_init_110 : decode cX4_init 110 = .ok (.newarray .int, 2) := by decide +kernel
theorem dX4_init_112 : decode cX4_init 112 = .ok (.putfield 50, 3) := by decide +kernel
theorem dX4_init_115 : decode cX4_init 115 = .ok (.aload_n 0, 1) := by decide +kernel
theorem dX4_init_116 : decode cX4_init 116 = .ok (.iconst 5, 1) := by decide +kernel
theorem dX4_init_117 : decode cX4_init 117 = .ok (.newarray .int, 2) := by decide +kernel
theorem dX4_init_119 : decode cX4_init 119 = .ok (.putfield 53, 3) := by decide +kernel
theorem dX4_init_122 : decode cX4_init 122 = .ok (.aload_n 0, 1) := by decide +kernel
theorem dX4_init_123 : decode cX4_init 123 = .ok (.bipush 10, 2) := by decide +kernel
theorem dX4_init_125 : decode cX4_init 125 = .ok (.newarray .int, 2) := by decide +kernel
theorem dX4_init_127 : decode cX4_init 127 = .ok (.putfield 56, 3) := by decide +kernel
theorem dX4_init_130 : decode cX4_init 130 = .ok (.aload_n 0, 1) := by decide +kernel
theorem dX4_init_131 : decode cX4_init 131 = .ok (.bipush 10, 2) := by decide +kernel
theorem dX4_init_133 : decode cX4_init 133 = .ok (.newarray .boolean, 2) := by decide +kernel
theorem dX4_init_135 : decode cX4_init 135 = .ok (.putfield 59, 3) := by decide +kernel
theorem dX4_init_138 : decode cX4_init 138 = .ok (.iconst 0, 1) := by decide +kernel
theorem dX4_init_139 : decode cX4_init 139 = .ok (.istore_n 1, 1) := by decide +kernel
theorem dX4_init_140 : decode cX4_init 140 = .ok (.iload_n 1, 1) := by decide +kernel
theorem dX4_init_141 : decode cX4_init 141 = .ok (.bipush 10, 2) := by decide +kernel
theorem dX4_init_143 : decode cX4_init 143 = .ok (.if_icmp .ge 16, 3) := by decide +kernel
theorem dX4_init_146 : decode cX4_init 146 = .ok (.aload_n 0, 1) := by decide +kernel
theorem dX4_init_147 : decode cX4_init 147 = .ok (.getfield 56, 3) := by decide +kernel
theorem dX4_init_150 : decode cX4_init 150 = .ok (.iload_n 1, 1) := by decide +kernel
theorem dX4_init_151 : decode cX4_init 151 = .ok (.iconst (-1), 1) := by decide +kernel
theorem dX4_init_152 : decode cX4_init 152 = .ok (.iastore, 1) := by decide +kernel
theorem dX4_init_153 : decode cX4_init 153 = .ok (.iinc 1 1, 3) := by decide +kernel
theorem dX4_init_156 : decode cX4_init 156 = .ok (.goto (-16), 3) := by decide +kernel
theorem dX4_init_159 : decode cX4_init 159 = .ok (.return_, 1) := by decide +kernel
theorem dX4_thrown_0 : decode cX4_thrown 0 = .ok (.aload_n 0, 1) := by decide +kernel
theorem dX4_thrown_1 : decode cX4_thrown 1 = .ok (.getfield 62, 3) := by decide +kernel
theorem dX4_thrown_4 : decode cX4_thrown 4 = .ok (.ireturn, 1) := by decide +kernel
theorem dX4_pair_0 : decode cX4_pair 0 = .ok (.aload_n 0, 1) := by decide +kernel
theorem dX4_pair_1 : decode cX4_pair 1 = .ok (.iload_n 1, 1) := by decide +kernel
theorem dX4_pair_2 : decode cX4_pair 2 = .ok (.invokestatic 66, 3) := by decide +kernel
theorem dX4_pair_5 : decode cX4_pair 5 = .ok (.ifCond .ne 17, 3) := by decide +kernel
theorem dX4_pair_8 : decode cX4_pair 8 = .ok (.iload_n 2, 1) := by decide +kernel
theorem dX4_pair_9 : decode cX4_pair 9 = .ok (.invokestatic 70, 3) := by decide +kernel
theorem dX4_pair_12 : decode cX4_pair 12 = .ok (.ifCond .ne 10, 3) := by decide +kernel
theorem dX4_pair_15 : decode cX4_pair 15 = .ok (.iload_n 3, 1) := by decide +kernel
theorem dX4_pair_16 : decode cX4_pair 16 = .ok (.invokestatic 70, 3) := by decide +kernel
theorem dX4_pair_19 : decode cX4_pair 19 = .ok (.ifCond .eq 7, 3) := by decide +kernel
theorem dX4_pair_22 : decode cX4_pair 22 = .ok (.iconst 1, 1) := by decide +kernel
theorem dX4_pair_23 : decode cX4_pair 23 = .ok (.goto 4, 3) := by decide +kernel
theorem dX4_pair_26 : decode cX4_pair 26 = .ok (.iconst 0, 1) := by decide +kernel
theorem dX4_pair_27 : decode cX4_pair 27 = .ok (.putfield 62, 3) := by decide +kernel
theorem dX4_pair_30 : decode cX4_pair 30 = .ok (.aload_n 0, 1) := by decide +kernel
theorem dX4_pair_31 : decode cX4_pair 31 = .ok (.getfield 62, 3) := by decide +kernel
theorem dX4_pair_34 : decode cX4_pair 34 = .ok (.ifCond .le 4, 3) := by decide +kernel
theorem dX4_pair_37 : decode cX4_pair 37 = .ok (.return_, 1) := by decide +kernel
theorem dX4_pair_38 : decode cX4_pair 38 = .ok (.bipush 36, 2) := by decide +kernel
theorem dX4_pair_40 : decode cX4_pair 40 = .ok (.iload_n 1, 1) := by decide +kernel
theorem dX4_pair_41 : decode cX4_pair 41 = .ok (.imul, 1) := by decide +kernel
theorem dX4_pair_42 : decode cX4_pair 42 = .ok (.bipush 6, 2) := by decide +kernel
theorem dX4_pair_44 : decode cX4_pair 44 = .ok (.iload_n 2, 1) := by decide +kernel
theorem dX4_pair_45 : decode cX4_pair 45 = .ok (.imul, 1) := by decide +kernel
theorem dX4_pair_46 : decode cX4_pair 46 = .ok (.iadd, 1) := by decide +kernel
theorem dX4_pair_47 : decode cX4_pair 47 = .ok (.iload_n 3, 1) := by decide +kernel
theorem dX4_pair_48 : decode cX4_pair 48 = .ok (.iadd, 1) := by decide +kernel
theorem dX4_pair_49 : decode cX4_pair 49 = .ok (.istore 5, 2) := by decide +kernel
theorem dX4_pair_51 : decode cX4_pair 51 = .ok (.iload 4, 2) := by decide +kernel
theorem dX4_pair_53 : decode cX4_pair 53 = .ok (.ifCond .eq 14, 3) := by decide +kernel
theorem dX4_pair_56 : decode cX4_pair 56 = .ok (.aload_n 0, 1) := by decide +kernel
theorem dX4_pair_57 : decode cX4_pair 57 = .ok (.getfield 13, 3) := by decide +kernel
theorem dX4_pair_60 : decode cX4_pair 60 = .ok (.iload 5, 2) := by decide +kernel
theorem dX4_pair_62 : decode cX4_pair 62 = .ok (.iconst 1, 1) := by decide +kernel
theorem dX4_pair_63 : decode cX4_pair 63 = .ok (.bastore, 1) := by decide +kernel
theorem dX4_pair_64 : decode cX4_pair 64 = .ok (.goto 11, 3) := by decide +kernel
theorem dX4_pair_67 : decode cX4_pair 67 = .ok (.aload_n 0, 1) := by decide +kernel
theorem dX4_pair_68 : decode cX4_pair 68 = .ok (.getfield 7, 3) := by decide +kernel
theorem dX4_pair_71 : decode cX4_pair 71 = .ok (.iload 5, 2) := by decide +kernel
theorem dX4_pair_73 : decode cX4_pair 73 = .ok (.iconst 1, 1) := by decide +kernel
theorem dX4_pair_74 : decode cX4_pair 74 = .ok (.bastore, 1) := by decide +kernel
theorem dX4_pair_75 : decode cX4_pair 75 = .ok (.return_, 1) := by decide +kernel
theorem dX4_noClaim_0 : decode cX4_noClaim 0 = .ok (.iload_n 0, 1) := by decide +kernel
theorem dX4_noClaim_1 : decode cX4_noClaim 1 = .ok (.ifCond .lt 8, 3) := by decide +kernel
theorem dX4_noClaim_4 : decode cX4_noClaim 4 = .ok (.iload_n 0, 1) := by decide +kernel
theorem dX4_noClaim_5 : decode cX4_noClaim 5 = .ok (.iconst 1, 1) := by decide +kernel
theorem dX4_noClaim_6 : decode cX4_noClaim 6 = .ok (.if_icmp .le 7, 3) := by decide +kernel
theorem dX4_noClaim_9 : decode cX4_noClaim 9 = .ok (.iconst 1, 1) := by decide +kernel
theorem dX4_noClaim_10 : decode cX4_noClaim 10 = .ok (.goto 4, 3) := by decide +kernel
theorem dX4_noClaim_13 : decode cX4_noClaim 13 = .ok (.iconst 0, 1) := by decide +kernel
theorem dX4_noClaim_14 : decode cX4_noClaim 14 = .ok (.ireturn, 1) := by decide +kernel
theorem dX4_noTerm_0 : decode cX4_noTerm 0 = .ok (.iload_n 0, 1) := by decide +kernel
theorem dX4_noTerm_1 : decode cX4_noTerm 1 = .ok (.ifCond .lt 8, 3) := by decide +kernel
theorem dX4_noTerm_4 : decode cX4_noTerm 4 = .ok (.iload_n 0, 1) := by decide +kernel
theorem dX4_noTerm_5 : decode cX4_noTerm 5 = .ok (.iconst 5, 1) := by decide +kernel
theorem dX4_noTerm_6 : decode cX4_noTerm 6 = .ok (.if_icmp .le 7, 3) := by decide +kernel
theorem dX4_noTerm_9 : decode cX4_noTerm 9 = .ok (.iconst 1, 1) := by decide +kernel
theorem dX4_noTerm_10 : decode cX4_noTerm 10 = .ok (.goto 4, 3) := by decide +kernel
theorem dX4_noTerm_13 : decode cX4_noTerm 13 = .ok (.iconst 0, 1) := by decide +kernel
theorem dX4_noTerm_14 : decode cX4_noTerm 14 = .ok (.ireturn, 1) := by decide +kernel
theorem dX4_piece_0 : decode cX4_piece 0 = .ok (.aload_n 0, 1) := by decide +kernel
theorem dX4_piece_1 : decode cX4_piece 1 = .ok (.iload_n 1, 1) := by decide +kernel
theorem dX4_piece_2 : decode cX4_piece 2 = .ok (.invokestatic 66, 3) := by decide +kernel
theorem dX4_piece_5 : decode cX4_piece 5 = .ok (.ifCond .ne 17, 3) := by decide +kernel
theorem dX4_piece_8 : decode cX4_piece 8 = .ok (.iload_n 2, 1) := by decide +kernel
theorem dX4_piece_9 : decode cX4_piece 9 = .ok (.invokestatic 70, 3) := by decide +kernel
theorem dX4_piece_12 : decode cX4_piece 12 = .ok (.ifCond .ne 10, 3) := by decide +kernel
theorem dX4_piece_15 : decode cX4_piece 15 = .ok (.iload_n 3, 1) := by decide +kernel
theorem dX4_piece_16 : decode cX4_piece 16 = .ok (.invokestatic 70, 3) := by decide +kernel
theorem dX4_piece_19 : decode cX4_piece 19 = .ok (.ifCond .eq 7, 3) := by decide +kernel
theorem dX4_piece_22 : decode cX4_piece 22 = .ok (.iconst 1, 1) := by decide +kernel
theorem dX4_piece_23 : decode cX4_piece 23 = .ok (.goto 18, 3) := by decide +kernel
theorem dX4_piece_26 : decode cX4_piece 26 = .ok (.aload_n 0, 1) := by decide +kernel
theorem dX4_piece_27 : decode cX4_piece 27 = .ok (.getfield 16, 3) := by decide +kernel
theorem dX4_piece_30 : decode cX4_piece 30 = .ok (.iload_n 1, 1) := by decide +kernel
theorem dX4_piece_31 : decode cX4_piece 31 = .ok (.iaload, 1) := by decide +kernel
theorem dX4_piece_32 : decode cX4_piece 32 = .ok (.iconst 5, 1) := by decide +kernel
theorem dX4_piece_33 : decode cX4_piece 33 = .ok (.if_icmp .ne 7, 3) := by decide +kernel
theorem dX4_piece_36 : decode cX4_piece 36 = .ok (.iconst 2, 1) := by decide +kernel
theorem dX4_piece_37 : decode cX4_piece 37 = .ok (.goto 4, 3) := by decide +kernel
theorem dX4_piece_40 : decode cX4_piece 40 = .ok (.iconst 0, 1) := by decide +kernel
theorem dX4_piece_41 : decode cX4_piece 41 = .ok (.putfield 62, 3) := by decide +kernel
theorem dX4_piece_44 : decode cX4_piece 44 = .ok (.aload_n 0, 1) := by decide +kernel
theorem dX4_piece_45 : decode cX4_piece 45 = .ok (.getfield 62, 3) := by decide +kernel
theorem dX4_piece_48 : decode cX4_piece 48 = .ok (.ifCond .le 5, 3) := by decide +kernel
theorem dX4_piece_51 : decode cX4_piece 51 = .ok (.iconst 0, 1) := by decide +kernel
theorem dX4_piece_52 : decode cX4_piece 52 = .ok (.ireturn, 1) := by decide +kernel
theorem dX4_piece_53 : decode cX4_piece 53 = .ok (.iconst 5, 1) := by decide +kernel
theorem dX4_piece_54 : decode cX4_piece 54 = .ok (.iload_n 1, 1) := by decide +kernel
theorem dX4_piece_55 : decode cX4_piece 55 = .ok (.imul, 1) := by decide +kernel
theorem dX4_piece_56 : decode cX4_piece 56 = .ok (.aload_n 0, 1) := by decide +kernel
theorem dX4_piece_57 : decode cX4_piece 57 = .ok (.getfield 16, 3) := by decide +kernel
theorem dX4_piece_60 : decode cX4_piece 60 = .ok (.iload_n 1, 1) := by decide +kernel
theorem dX4_piece_61 : decode cX4_piece 61 = .ok (.iaload, 1) := by decide +kernel
theorem dX4_piece_62 : decode cX4_piece 62 = .ok (.iadd, 1) := by decide +kernel
theorem dX4_piece_63 : decode cX4_piece 63 = .ok (.istore 5, 2) := by decide +kernel
theorem dX4_piece_65 : decode cX4_piece 65 = .ok (.aload_n 0, 1) := by decide +kernel
theorem dX4_piece_66 : decode cX4_piece 66 = .ok (.getfield 20, 3) := by decide +kernel
theorem dX4_piece_69 : decode cX4_piece 69 = .ok (.iload 5, 2) := by decide +kernel
theorem dX4_piece_71 : decode cX4_piece 71 = .ok (.iload_n 2, 1) := by decide +kernel
theorem dX4_piece_72 : decode cX4_piece 72 = .ok (.iastore, 1) := by decide +kernel
theorem dX4_piece_73 : decode cX4_piece 73 = .ok (.aload_n 0, 1) := by decide +kernel
theorem dX4_piece_74 : decode cX4_piece 74 = .ok (.getfield 23, 3) := by decide +kernel
theorem dX4_piece_77 : decode cX4_piece 77 = .ok (.iload 5, 2) := by decide +kernel
theorem dX4_piece_79 : decode cX4_piece 79 = .ok (.iload_n 3, 1) := by decide +kernel
theorem dX4_piece_80 : decode cX4_piece 80 = .ok (.iastore, 1) := by decide +kernel
theorem dX4_piece_81 : decode cX4_piece 81 = .ok (.aload_n 0, 1) := by decide +kernel
theorem dX4_piece_82 : decode cX4_piece 82 = .ok (.getfield 26, 3) := by decide +kernel
theorem dX4_piece_85 : decode cX4_piece 85 = .ok (.iload 5, 2) := by decide +kernel
theorem dX4_piece_87 : decode cX4_piece 87 = .ok (.iload 4, 2) := by decide +kernel
theorem dX4_piece_89 : decode cX4_piece 89 = .ok (.bastore, 1) := by decide +kernel
theorem dX4_piece_90 : decode cX4_piece 90 = .ok (.aload_n 0, 1) := by decide +kernel
theorem dX4_piece_91 : decode cX4_piece 91 = .ok (.getfield 16, 3) := by decide +kernel
theorem dX4_piece_94 : decode cX4_piece 94 = .ok (.iload_n 1, 1) := by decide +kernel
theorem dX4_piece_95 : decode cX4_piece 95 = .ok (.dup2, 1) := by decide +kernel
theorem dX4_piece_96 : decode cX4_piece 96 = .ok (.iaload, 1) := by decide +kernel
theorem dX4_piece_97 : decode cX4_piece 97 = .ok (.iconst 1, 1) := by decide +kernel
theorem dX4_piece_98 : decode cX4_piece 98 = .ok (.iadd, 1) := by decide +kernel
theorem dX4_piece_99 : decode cX4_piece 99 = .ok (.iastore, 1) := by decide +kernel
theorem dX4_piece_100 : decode cX4_piece 100 = .ok (.aload_n 0, 1) := by decide +kernel
theorem dX4_piece_101 : decode cX4_piece 101 = .ok (.getfield 16, 3) := by decide +kernel
theorem dX4_piece_104 : decode cX4_piece 104 = .ok (.iload_n 1, 1) := by decide +kernel
theorem dX4_piece_105 : decode cX4_piece 105 = .ok (.iaload, 1) := by decide +kernel
theorem dX4_piece_106 : decode cX4_piece 106 = .ok (.iconst 1, 1) := by decide +kernel
theorem dX4_piece_107 : decode cX4_piece 107 = .ok (.isub, 1) := by decide +kernel
theorem dX4_piece_108 : decode cX4_piece 108 = .ok (.ireturn, 1) := by decide +kernel
theorem dX4_clear_0 : decode cX4_clear 0 = .ok (.aload_n 0, 1) := by decide +kernel
theorem dX4_clear_1 : decode cX4_clear 1 = .ok (.iload_n 1, 1) := by decide +kernel
theorem dX4_clear_2 : decode cX4_clear 2 = .ok (.invokestatic 66, 3) := by decide +kernel
theorem dX4_clear_5 : decode cX4_clear 5 = .ok (.ifCond .eq 7, 3) := by decide +kernel
theorem dX4_clear_8 : decode cX4_clear 8 = .ok (.iconst 1, 1) := by decide +kernel
theorem dX4_clear_9 : decode cX4_clear 9 = .ok (.goto 4, 3) := by decide +kernel
theorem dX4_clear_12 : decode cX4_clear 12 = .ok (.iconst 0, 1) := by decide +kernel
theorem dX4_clear_13 : decode cX4_clear 13 = .ok (.putfield 62, 3) := by decide +kernel
theorem dX4_clear_16 : decode cX4_clear 16 = .ok (.aload_n 0, 1) := by decide +kernel
theorem dX4_clear_17 : decode cX4_clear 17 = .ok (.getfield 62, 3) := by decide +kernel
theorem dX4_clear_20 : decode cX4_clear 20 = .ok (.ifCond .le 4, 3) := by decide +kernel
theorem dX4_clear_23 : decode cX4_clear 23 = .ok (.return_, 1) := by decide +kernel
theorem dX4_clear_24 : decode cX4_clear 24 = .ok (.aload_n 0, 1) := by decide +kernel
theorem dX4_clear_25 : decode cX4_clear 25 = .ok (.getfield 16, 3) := by decide +kernel
theorem dX4_clear_28 : decode cX4_clear 28 = .ok (.iload_n 1, 1) := by decide +kernel
theorem dX4_clear_29 : decode cX4_clear 29 = .ok (.iconst 0, 1) := by decide +kernel
theorem dX4_clear_30 : decode cX4_clear 30 = .ok (.iastore, 1) := by decide +kernel
theorem dX4_clear_31 : decode cX4_clear 31 = .ok (.bipush 36, 2) := by decide +kernel
theorem dX4_clear_33 : decode cX4_clear 33 = .ok (.iload_n 1, 1) := by decide +kernel
theorem dX4_clear_34 : decode cX4_clear 34 = .ok (.imul, 1) := by decide +kernel
theorem dX4_clear_35 : decode cX4_clear 35 = .ok (.istore_n 2, 1) := by decide +kernel
theorem dX4_clear_36 : decode cX4_clear 36 = .ok (.iload_n 2, 1) := by decide +kernel
theorem dX4_clear_37 : decode cX4_clear 37 = .ok (.bipush 36, 2) := by decide +kernel
theorem dX4_clear_39 : decode cX4_clear 39 = .ok (.iload_n 1, 1) := by decide +kernel
theorem dX4_clear_40 : decode cX4_clear 40 = .ok (.imul, 1) := by decide +kernel
theorem dX4_clear_41 : decode cX4_clear 41 = .ok (.bipush 36, 2) := by decide +kernel
theorem dX4_clear_43 : decode cX4_clear 43 = .ok (.iadd, 1) := by decide +kernel
theorem dX4_clear_44 : decode cX4_clear 44 = .ok (.if_icmp .ge 23, 3) := by decide +kernel
theorem dX4_clear_47 : decode cX4_clear 47 = .ok (.aload_n 0, 1) := by decide +kernel
theorem dX4_clear_48 : decode cX4_clear 48 = .ok (.getfield 7, 3) := by decide +kernel
theorem dX4_clear_51 : decode cX4_clear 51 = .ok (.iload_n 2, 1) := by decide +kernel
theorem dX4_clear_52 : decode cX4_clear 52 = .ok (.iconst 0, 1) := by decide +kernel
theorem dX4_clear_53 : decode cX4_clear 53 = .ok (.bastore, 1) := by decide +kernel
theorem dX4_clear_54 : decode cX4_clear 54 = .ok (.aload_n 0, 1) := by decide +kernel
theorem dX4_clear_55 : decode cX4_clear 55 = .ok (.getfield 13, 3) := by decide +kernel
theorem dX4_clear_58 : decode cX4_clear 58 = .ok (.iload_n 2, 1) := by decide +kernel
theorem dX4_clear_59 : decode cX4_clear 59 = .ok (.iconst 0, 1) := by decide +kernel
theorem dX4_clear_60 : decode cX4_clear 60 = .ok (.bastore, 1) := by decide +kernel
theorem dX4_clear_61 : decode cX4_clear 61 = .ok (.iinc 2 1, 3) := by decide +kernel
theorem dX4_clear_64 : decode cX4_clear 64 = .ok (.goto (-28), 3) := by decide +kernel
theorem dX4_clear_67 : decode cX4_clear 67 = .ok (.return_, 1) := by decide +kernel
theorem dX4_swap_0 : decode cX4_swap 0 = .ok (.aload_n 0, 1) := by decide +kernel
theorem dX4_swap_1 : decode cX4_swap 1 = .ok (.iconst 0, 1) := by decide +kernel
theorem dX4_swap_2 : decode cX4_swap 2 = .ok (.putfield 62, 3) := by decide +kernel
theorem dX4_swap_5 : decode cX4_swap 5 = .ok (.iconst 0, 1) := by decide +kernel
theorem dX4_swap_6 : decode cX4_swap 6 = .ok (.istore_n 1, 1) := by decide +kernel
theorem dX4_swap_7 : decode cX4_swap 7 = .ok (.iload_n 1, 1) := by decide +kernel
theorem dX4_swap_8 : decode cX4_swap 8 = .ok (.bipush 36, 2) := by decide +kernel
theorem dX4_swap_10 : decode cX4_swap 10 = .ok (.if_icmp .ge 73, 3) := by decide +kernel
theorem dX4_swap_13 : decode cX4_swap 13 = .ok (.aload_n 0, 1) := by decide +kernel
theorem dX4_swap_14 : decode cX4_swap 14 = .ok (.getfield 7, 3) := by decide +kernel
theorem dX4_swap_17 : decode cX4_swap 17 = .ok (.iload_n 1, 1) := by decide +kernel
theorem dX4_swap_18 : decode cX4_swap 18 = .ok (.baload, 1) := by decide +kernel
theorem dX4_swap_19 : decode cX4_swap 19 = .ok (.istore_n 2, 1) := by decide +kernel
theorem dX4_swap_20 : decode cX4_swap 20 = .ok (.aload_n 0, 1) := by decide +kernel
theorem dX4_swap_21 : decode cX4_swap 21 = .ok (.getfield 13, 3) := by decide +kernel
theorem dX4_swap_24 : decode cX4_swap 24 = .ok (.iload_n 1, 1) := by decide +kernel
theorem dX4_swap_25 : decode cX4_swap 25 = .ok (.baload, 1) := by decide +kernel
theorem dX4_swap_26 : decode cX4_swap 26 = .ok (.istore_n 3, 1) := by decide +kernel
theorem dX4_swap_27 : decode cX4_swap 27 = .ok (.aload_n 0, 1) := by decide +kernel
theorem dX4_swap_28 : decode cX4_swap 28 = .ok (.getfield 7, 3) := by decide +kernel
theorem dX4_swap_31 : decode cX4_swap 31 = .ok (.iload_n 1, 1) := by decide +kernel
theorem dX4_swap_32 : decode cX4_swap 32 = .ok (.aload_n 0, 1) := by decide +kernel
theorem dX4_swap_33 : decode cX4_swap 33 = .ok (.getfield 7, 3) := by decide +kernel
theorem dX4_swap_36 : decode cX4_swap 36 = .ok (.bipush 36, 2) := by decide +kernel
theorem dX4_swap_38 : decode cX4_swap 38 = .ok (.iload_n 1, 1) := by decide +kernel
theorem dX4_swap_39 : decode cX4_swap 39 = .ok (.iadd, 1) := by decide +kernel
theorem dX4_swap_40 : decode cX4_swap 40 = .ok (.baload, 1) := by decide +kernel
theorem dX4_swap_41 : decode cX4_swap 41 = .ok (.bastore, 1) := by decide +kernel
theorem dX4_swap_42 : decode cX4_swap 42 = .ok (.aload_n 0, 1) := by decide +kernel
theorem dX4_swap_43 : decode cX4_swap 43 = .ok (.getfield 13, 3) := by decide +kernel
theorem dX4_swap_46 : decode cX4_swap 46 = .ok (.iload_n 1, 1) := by decide +kernel
theorem dX4_swap_47 : decode cX4_swap 47 = .ok (.aload_n 0, 1) := by decide +kernel
theorem dX4_swap_48 : decode cX4_swap 48 = .ok (.getfield 13, 3) := by decide +kernel
theorem dX4_swap_51 : decode cX4_swap 51 = .ok (.bipush 36, 2) := by decide +kernel
theorem dX4_swap_53 : decode cX4_swap 53 = .ok (.iload_n 1, 1) := by decide +kernel
theorem dX4_swap_54 : decode cX4_swap 54 = .ok (.iadd, 1) := by decide +kernel
theorem dX4_swap_55 : decode cX4_swap 55 = .ok (.baload, 1) := by decide +kernel
theorem dX4_swap_56 : decode cX4_swap 56 = .ok (.bastore, 1) := by decide +kernel
theorem dX4_swap_57 : decode cX4_swap 57 = .ok (.aload_n 0, 1) := by decide +kernel
theorem dX4_swap_58 : decode cX4_swap 58 = .ok (.getfield 7, 3) := by decide +kernel
theorem dX4_swap_61 : decode cX4_swap 61 = .ok (.bipush 36, 2) := by decide +kernel
theorem dX4_swap_63 : decode cX4_swap 63 = .ok (.iload_n 1, 1) := by decide +kernel
theorem dX4_swap_64 : decode cX4_swap 64 = .ok (.iadd, 1) := by decide +kernel
theorem dX4_swap_65 : decode cX4_swap 65 = .ok (.iload_n 2, 1) := by decide +kernel
theorem dX4_swap_66 : decode cX4_swap 66 = .ok (.bastore, 1) := by decide +kernel
theorem dX4_swap_67 : decode cX4_swap 67 = .ok (.aload_n 0, 1) := by decide +kernel
theorem dX4_swap_68 : decode cX4_swap 68 = .ok (.getfield 13, 3) := by decide +kernel
theorem dX4_swap_71 : decode cX4_swap 71 = .ok (.bipush 36, 2) := by decide +kernel
theorem dX4_swap_73 : decode cX4_swap 73 = .ok (.iload_n 1, 1) := by decide +kernel
theorem dX4_swap_74 : decode cX4_swap 74 = .ok (.iadd, 1) := by decide +kernel
theorem dX4_swap_75 : decode cX4_swap 75 = .ok (.iload_n 3, 1) := by decide +kernel
theorem dX4_swap_76 : decode cX4_swap 76 = .ok (.bastore, 1) := by decide +kernel
theorem dX4_swap_77 : decode cX4_swap 77 = .ok (.iinc 1 1, 3) := by decide +kernel
theorem dX4_swap_80 : decode cX4_swap 80 = .ok (.goto (-73), 3) := by decide +kernel
theorem dX4_swap_83 : decode cX4_swap 83 = .ok (.iconst 0, 1) := by decide +kernel
theorem dX4_swap_84 : decode cX4_swap 84 = .ok (.istore_n 1, 1) := by decide +kernel
theorem dX4_swap_85 : decode cX4_swap 85 = .ok (.iload_n 1, 1) := by decide +kernel
theorem dX4_swap_86 : decode cX4_swap 86 = .ok (.iconst 5, 1) := by decide +kernel
theorem dX4_swap_87 : decode cX4_swap 87 = .ok (.if_icmp .ge 101, 3) := by decide +kernel
theorem dX4_swap_90 : decode cX4_swap 90 = .ok (.aload_n 0, 1) := by decide +kernel
theorem dX4_swap_91 : decode cX4_swap 91 = .ok (.getfield 20, 3) := by decide +kernel
theorem dX4_swap_94 : decode cX4_swap 94 = .ok (.iload_n 1, 1) := by decide +kernel
theorem dX4_swap_95 : decode cX4_swap 95 = .ok (.iaload, 1) := by decide +kernel
theorem dX4_swap_96 : decode cX4_swap 96 = .ok (.istore_n 2, 1) := by decide +kernel
theorem dX4_swap_97 : decode cX4_swap 97 = .ok (.aload_n 0, 1) := by decide +kernel
theorem dX4_swap_98 : decode cX4_swap 98 = .ok (.getfield 23, 3) := by decide +kernel
theorem dX4_swap_101 : decode cX4_swap 101 = .ok (.iload_n 1, 1) := by decide +kernel
theorem dX4_swap_102 : decode cX4_swap 102 = .ok (.iaload, 1) := by decide +kernel
theorem dX4_swap_103 : decode cX4_swap 103 = .ok (.istore_n 3, 1) := by decide +kernel
theorem dX4_swap_104 : decode cX4_swap 104 = .ok (.aload_n 0, 1) := by decide +kernel
theorem dX4_swap_105 : decode cX4_swap 105 = .ok (.getfield 26, 3) := by decide +kernel
theorem dX4_swap_108 : decode cX4_swap 108 = .ok (.iload_n 1, 1) := by decide +kernel
theorem dX4_swap_109 : decode cX4_swap 109 = .ok (.baload, 1) := by decide +kernel
theorem dX4_swap_110 : decode cX4_swap 110 = .ok (.istore 4, 2) := by decide +kernel
theorem dX4_swap_112 : decode cX4_swap 112 = .ok (.aload_n 0, 1) := by decide +kernel
theorem dX4_swap_113 : decode cX4_swap 113 = .ok (.getfield 20, 3) := by decide +kernel
theorem dX4_swap_116 : decode cX4_swap 116 = .ok (.iload_n 1, 1) := by decide +kernel
theorem dX4_swap_117 : decode cX4_swap 117 = .ok (.aload_n 0, 1) := by decide +kernel
theorem dX4_swap_118 : decode cX4_swap 118 = .ok (.getfield 20, 3) := by decide +kernel
theorem dX4_swap_121 : decode cX4_swap 121 = .ok (.iconst 5, 1) := by decide +kernel
theorem dX4_swap_122 : decode cX4_swap 122 = .ok (.iload_n 1, 1) := by decide +kernel
theorem dX4_swap_123 : decode cX4_swap 123 = .ok (.iadd, 1) := by decide +kernel
theorem dX4_swap_124 : decode cX4_swap 124 = .ok (.iaload, 1) := by decide +kernel
theorem dX4_swap_125 : decode cX4_swap 125 = .ok (.iastore, 1) := by decide +kernel
theorem dX4_swap_126 : decode cX4_swap 126 = .ok (.aload_n 0, 1) := by decide +kernel
theorem dX4_swap_127 : decode cX4_swap 127 = .ok (.getfield 23, 3) := by decide +kernel
theorem dX4_swap_130 : decode cX4_swap 130 = .ok (.iload_n 1, 1) := by decide +kernel
theorem dX4_swap_131 : decode cX4_swap 131 = .ok (.aload_n 0, 1) := by decide +kernel
theorem dX4_swap_132 : decode cX4_swap 132 = .ok (.getfield 23, 3) := by decide +kernel
theorem dX4_swap_135 : decode cX4_swap 135 = .ok (.iconst 5, 1) := by decide +kernel
theorem dX4_swap_136 : decode cX4_swap 136 = .ok (.iload_n 1, 1) := by decide +kernel
theorem dX4_swap_137 : decode cX4_swap 137 = .ok (.iadd, 1) := by decide +kernel
theorem dX4_swap_138 : decode cX4_swap 138 = .ok (.iaload, 1) := by decide +kernel
theorem dX4_swap_139 : decode cX4_swap 139 = .ok (.iastore, 1) := by decide +kernel
theorem dX4_swap_140 : decode cX4_swap 140 = .ok (.aload_n 0, 1) := by decide +kernel
theorem dX4_swap_141 : decode cX4_swap 141 = .ok (.getfield 26, 3) := by decide +kernel
theorem dX4_swap_144 : decode cX4_swap 144 = .ok (.iload_n 1, 1) := by decide +kernel
theorem dX4_swap_145 : decode cX4_swap 145 = .ok (.aload_n 0, 1) := by decide +kernel
theorem dX4_swap_146 : decode cX4_swap 146 = .ok (.getfield 26, 3) := by decide +kernel
theorem dX4_swap_149 : decode cX4_swap 149 = .ok (.iconst 5, 1) := by decide +kernel
theorem dX4_swap_150 : decode cX4_swap 150 = .ok (.iload_n 1, 1) := by decide +kernel
theorem dX4_swap_151 : decode cX4_swap 151 = .ok (.iadd, 1) := by decide +kernel
theorem dX4_swap_152 : decode cX4_swap 152 = .ok (.baload, 1) := by decide +kernel
theorem dX4_swap_153 : decode cX4_swap 153 = .ok (.bastore, 1) := by decide +kernel
theorem dX4_swap_154 : decode cX4_swap 154 = .ok (.aload_n 0, 1) := by decide +kernel
theorem dX4_swap_155 : decode cX4_swap 155 = .ok (.getfield 20, 3) := by decide +kernel
theorem dX4_swap_158 : decode cX4_swap 158 = .ok (.iconst 5, 1) := by decide +kernel
theorem dX4_swap_159 : decode cX4_swap 159 = .ok (.iload_n 1, 1) := by decide +kernel
theorem dX4_swap_160 : decode cX4_swap 160 = .ok (.iadd, 1) := by decide +kernel
theorem dX4_swap_161 : decode cX4_swap 161 = .ok (.iload_n 2, 1) := by decide +kernel
theorem dX4_swap_162 : decode cX4_swap 162 = .ok (.iastore, 1) := by decide +kernel
theorem dX4_swap_163 : decode cX4_swap 163 = .ok (.aload_n 0, 1) := by decide +kernel
theorem dX4_swap_164 : decode cX4_swap 164 = .ok (.getfield 23, 3) := by decide +kernel
theorem dX4_swap_167 : decode cX4_swap 167 = .ok (.iconst 5, 1) := by decide +kernel
theorem dX4_swap_168 : decode cX4_swap 168 = .ok (.iload_n 1, 1) := by decide +kernel
theorem dX4_swap_169 : decode cX4_swap 169 = .ok (.iadd, 1) := by decide +kernel
theorem dX4_swap_170 : decode cX4_swap 170 = .ok (.iload_n 3, 1) := by decide +kernel
theorem dX4_swap_171 : decode cX4_swap 171 = .ok (.iastore, 1) := by decide +kernel
theorem dX4_swap_172 : decode cX4_swap 172 = .ok (.aload_n 0, 1) := by decide +kernel
theorem dX4_swap_173 : decode cX4_swap 173 = .ok (.getfield 26, 3) := by decide +kernel
theorem dX4_swap_176 : decode cX4_swap 176 = .ok (.iconst 5, 1) := by decide +kernel
theorem dX4_swap_177 : decode cX4_swap 177 = .ok (.iload_n 1, 1) := by decide +kernel
theorem dX4_swap_178 : decode cX4_swap 178 = .ok (.iadd, 1) := by decide +kernel
theorem dX4_swap_179 : decode cX4_swap 179 = .ok (.iload 4, 2) := by decide +kernel
theorem dX4_swap_181 : decode cX4_swap 181 = .ok (.bastore, 1) := by decide +kernel
theorem dX4_swap_182 : decode cX4_swap 182 = .ok (.iinc 1 1, 3) := by decide +kernel
theorem dX4_swap_185 : decode cX4_swap 185 = .ok (.goto (-100), 3) := by decide +kernel
theorem dX4_swap_188 : decode cX4_swap 188 = .ok (.aload_n 0, 1) := by decide +kernel
theorem dX4_swap_189 : decode cX4_swap 189 = .ok (.getfield 16, 3) := by decide +kernel
theorem dX4_swap_192 : decode cX4_swap 192 = .ok (.iconst 0, 1) := by decide +kernel
theorem dX4_swap_193 : decode cX4_swap 193 = .ok (.iaload, 1) := by decide +kernel
theorem dX4_swap_194 : decode cX4_swap 194 = .ok (.istore_n 1, 1) := by decide +kernel
theorem dX4_swap_195 : decode cX4_swap 195 = .ok (.aload_n 0, 1) := by decide +kernel
theorem dX4_swap_196 : decode cX4_swap 196 = .ok (.getfield 16, 3) := by decide +kernel
theorem dX4_swap_199 : decode cX4_swap 199 = .ok (.iconst 0, 1) := by decide +kernel
theorem dX4_swap_200 : decode cX4_swap 200 = .ok (.aload_n 0, 1) := by decide +kernel
theorem dX4_swap_201 : decode cX4_swap 201 = .ok (.getfield 16, 3) := by decide +kernel
theorem dX4_swap_204 : decode cX4_swap 204 = .ok (.iconst 1, 1) := by decide +kernel
theorem dX4_swap_205 : decode cX4_swap 205 = .ok (.iaload, 1) := by decide +kernel
theorem dX4_swap_206 : decode cX4_swap 206 = .ok (.iastore, 1) := by decide +kernel
theorem dX4_swap_207 : decode cX4_swap 207 = .ok (.aload_n 0, 1) := by decide +kernel
theorem dX4_swap_208 : decode cX4_swap 208 = .ok (.getfield 16, 3) := by decide +kernel
theorem dX4_swap_211 : decode cX4_swap 211 = .ok (.iconst 1, 1) := by decide +kernel
theorem dX4_swap_212 : decode cX4_swap 212 = .ok (.iload_n 1, 1) := by decide +kernel
theorem dX4_swap_213 : decode cX4_swap 213 = .ok (.iastore, 1) := by decide +kernel
theorem dX4_swap_214 : decode cX4_swap 214 = .ok (.return_, 1) := by decide +kernel
theorem dX4_pieces_0 : decode cX4_pieces 0 = .ok (.aload_n 0, 1) := by decide +kernel
theorem dX4_pieces_1 : decode cX4_pieces 1 = .ok (.iload_n 1, 1) := by decide +kernel
theorem dX4_pieces_2 : decode cX4_pieces 2 = .ok (.invokestatic 66, 3) := by decide +kernel
theorem dX4_pieces_5 : decode cX4_pieces 5 = .ok (.ifCond .eq 7, 3) := by decide +kernel
theorem dX4_pieces_8 : decode cX4_pieces 8 = .ok (.iconst 1, 1) := by decide +kernel
theorem dX4_pieces_9 : decode cX4_pieces 9 = .ok (.goto 4, 3) := by decide +kernel
theorem dX4_pieces_12 : decode cX4_pieces 12 = .ok (.iconst 0, 1) := by decide +kernel
theorem dX4_pieces_13 : decode cX4_pieces 13 = .ok (.putfield 62, 3) := by decide +kernel
theorem dX4_pieces_16 : decode cX4_pieces 16 = .ok (.aload_n 0, 1) := by decide +kernel
theorem dX4_pieces_17 : decode cX4_pieces 17 = .ok (.getfield 62, 3) := by decide +kernel
theorem dX4_pieces_20 : decode cX4_pieces 20 = .ok (.ifCond .le 7, 3) := by decide +kernel
theorem dX4_pieces_23 : decode cX4_pieces 23 = .ok (.iconst 0, 1) := by decide +kernel
theorem dX4_pieces_24 : decode cX4_pieces 24 = .ok (.goto 9, 3) := by decide +kernel
theorem dX4_pieces_27 : decode cX4_pieces 27 = .ok (.aload_n 0, 1) := by decide +kernel
theorem dX4_pieces_28 : decode cX4_pieces 28 = .ok (.getfield 16, 3) := by decide +kernel
theorem dX4_pieces_31 : decode cX4_pieces 31 = .ok (.iload_n 1, 1) := by decide +kernel
theorem dX4_pieces_32 : decode cX4_pieces 32 = .ok (.iaload, 1) := by decide +kernel
theorem dX4_pieces_33 : decode cX4_pieces 33 = .ok (.ireturn, 1) := by decide +kernel
theorem dX4_possible_0 : decode cX4_possible 0 = .ok (.aload_n 0, 1) := by decide +kernel
theorem dX4_possible_1 : decode cX4_possible 1 = .ok (.iload_n 1, 1) := by decide +kernel
theorem dX4_possible_2 : decode cX4_possible 2 = .ok (.invokestatic 66, 3) := by decide +kernel
theorem dX4_possible_5 : decode cX4_possible 5 = .ok (.ifCond .eq 7, 3) := by decide +kernel
theorem dX4_possible_8 : decode cX4_possible 8 = .ok (.iconst 1, 1) := by decide +kernel
theorem dX4_possible_9 : decode cX4_possible 9 = .ok (.goto 4, 3) := by decide +kernel
theorem dX4_possible_12 : decode cX4_possible 12 = .ok (.iconst 0, 1) := by decide +kernel
theorem dX4_possible_13 : decode cX4_possible 13 = .ok (.putfield 62, 3) := by decide +kernel
theorem dX4_possible_16 : decode cX4_possible 16 = .ok (.aload_n 0, 1) := by decide +kernel
theorem dX4_possible_17 : decode cX4_possible 17 = .ok (.iconst 0, 1) := by decide +kernel
theorem dX4_possible_18 : decode cX4_possible 18 = .ok (.putfield 109, 3) := by decide +kernel
theorem dX4_possible_21 : decode cX4_possible 21 = .ok (.aload_n 0, 1) := by decide +kernel
theorem dX4_possible_22 : decode cX4_possible 22 = .ok (.getfield 62, 3) := by decide +kernel
theorem dX4_possible_25 : decode cX4_possible 25 = .ok (.ifCond .ne 15, 3) := by decide +kernel
theorem dX4_possible_28 : decode cX4_possible 28 = .ok (.aload_n 0, 1) := by decide +kernel
theorem dX4_possible_29 : decode cX4_possible 29 = .ok (.iload_n 1, 1) := by decide +kernel
theorem dX4_possible_30 : decode cX4_possible 30 = .ok (.invokevirtual 121, 3) := by decide +kernel
theorem dX4_possible_33 : decode cX4_possible 33 = .ok (.ifCond .eq 7, 3) := by decide +kernel
theorem dX4_possible_36 : decode cX4_possible 36 = .ok (.iconst 1, 1) := by decide +kernel
theorem dX4_possible_37 : decode cX4_possible 37 = .ok (.goto 4, 3) := by decide +kernel
theorem dX4_possible_40 : decode cX4_possible 40 = .ok (.iconst 0, 1) := by decide +kernel
theorem dX4_possible_41 : decode cX4_possible 41 = .ok (.ireturn, 1) := by decide +kernel
theorem dX4_some_0 : decode cX4_some 0 = .ok (.iconst 0, 1) := by decide +kernel
theorem dX4_some_1 : decode cX4_some 1 = .ok (.istore_n 2, 1) := by decide +kernel
theorem dX4_some_2 : decode cX4_some 2 = .ok (.iload_n 2, 1) := by decide +kernel
theorem dX4_some_3 : decode cX4_some 3 = .ok (.bipush 6, 2) := by decide +kernel
theorem dX4_some_5 : decode cX4_some 5 = .ok (.if_icmp .ge 16, 3) := by decide +kernel
theorem dX4_some_8 : decode cX4_some 8 = .ok (.aload_n 0, 1) := by decide +kernel
theorem dX4_some_9 : decode cX4_some 9 = .ok (.getfield 29, 3) := by decide +kernel
theorem dX4_some_12 : decode cX4_some 12 = .ok (.iload_n 2, 1) := by decide +kernel
theorem dX4_some_13 : decode cX4_some 13 = .ok (.iconst 0, 1) := by decide +kernel
theorem dX4_some_14 : decode cX4_some 14 = .ok (.iastore, 1) := by decide +kernel
theorem dX4_some_15 : decode cX4_some 15 = .ok (.iinc 2 1, 3) := by decide +kernel
theorem dX4_some_18 : decode cX4_some 18 = .ok (.goto (-16), 3) := by decide +kernel
theorem dX4_some_21 : decode cX4_some 21 = .ok (.iconst 1, 1) := by decide +kernel
theorem dX4_some_22 : decode cX4_some 22 = .ok (.istore_n 2, 1) := by decide +kernel
theorem dX4_some_23 : decode cX4_some 23 = .ok (.iload_n 2, 1) := by decide +kernel
theorem dX4_some_24 : decode cX4_some 24 = .ok (.ifCond .eq 37, 3) := by decide +kernel
theorem dX4_some_27 : decode cX4_some 27 = .ok (.aload_n 0, 1) := by decide +kernel
theorem dX4_some_28 : decode cX4_some 28 = .ok (.iload_n 1, 1) := by decide +kernel
theorem dX4_some_29 : decode cX4_some 29 = .ok (.invokevirtual 91, 3) := by decide +kernel
theorem dX4_some_32 : decode cX4_some 32 = .ok (.ifCond .eq 21, 3) := by decide +kernel
theorem dX4_some_35 : decode cX4_some 35 = .ok (.aload_n 0, 1) := by decide +kernel
theorem dX4_some_36 : decode cX4_some 36 = .ok (.iload_n 1, 1) := by decide +kernel
theorem dX4_some_37 : decode cX4_some 37 = .ok (.invokevirtual 94, 3) := by decide +kernel
theorem dX4_some_40 : decode cX4_some 40 = .ok (.ifCond .eq 13, 3) := by decide +kernel
theorem dX4_some_43 : decode cX4_some 43 = .ok (.aload_n 0, 1) := by decide +kernel
theorem dX4_some_44 : decode cX4_some 44 = .ok (.iload_n 1, 1) := by decide +kernel
theorem dX4_some_45 : decode cX4_some 45 = .ok (.invokevirtual 97, 3) := by decide +kernel
theorem dX4_some_48 : decode cX4_some 48 = .ok (.ifCond .eq 5, 3) := by decide +kernel
theorem dX4_some_51 : decode cX4_some 51 = .ok (.iconst 1, 1) := by decide +kernel
theorem dX4_some_52 : decode cX4_some 52 = .ok (.ireturn, 1) := by decide +kernel
theorem dX4_some_53 : decode cX4_some 53 = .ok (.aload_n 0, 1) := by decide +kernel
theorem dX4_some_54 : decode cX4_some 54 = .ok (.invokevirtual 100, 3) := by decide +kernel
theorem dX4_some_57 : decode cX4_some 57 = .ok (.istore_n 2, 1) := by decide +kernel
theorem dX4_some_58 : decode cX4_some 58 = .ok (.goto (-35), 3) := by decide +kernel
theorem dX4_some_61 : decode cX4_some 61 = .ok (.iconst 0, 1) := by decide +kernel
theorem dX4_some_62 : decode cX4_some 62 = .ok (.ireturn, 1) := by decide +kernel
end
section
/-! decoded instructions -/
theorem dX4_pairsTrue_0 : decode cX4_pairsTrue 0 = .ok (.iconst 0, 1) := by decide +kernel
theorem dX4_pairsTrue_1 : decode cX4_pairsTrue 1 = .ok (.istore_n 2, 1) := by decide +kernel
theorem dX4_pairsTrue_2 : decode cX4_pairsTrue 2 = .ok (.iload_n 2, 1) := by decide +kernel
theorem dX4_pairsTrue_3 : decode cX4_pairsTrue 3 = .ok (.bipush 6, 2) := by decide +kernel
theorem dX4_pairsTrue_5 : decode cX4_pairsTrue 5 = .ok (.if_icmp .ge 88, 3) := by decide +kernel
theorem dX4_pairsTrue_8 : decode cX4_pairsTrue 8 = .ok (.iconst 0, 1) := by decide +kernel
theorem dX4_pairsTrue_9 : decode cX4_pairsTrue 9 = .ok (.istore_n 3, 1) := by decide +kernel
theorem dX4_pairsTrue_10 : decode cX4_pairsTrue 10 = .ok (.iload_n 3, 1) := by decide +kernel
theorem dX4_pairsTrue_11 : decode cX4_pairsTrue 11 = .ok (.bipush 6, 2) := by decide +kernel
theorem dX4_pairsTrue_13 : decode cX4_pairsTrue 13 = .ok (.if_icmp .ge 74, 3) := by decide +kernel
theorem dX4_pairsTrue_16 : decode cX4_pairsTrue 16 = .ok (.bipush 36, 2) := by decide +kernel
theorem dX4_pairsTrue_18 : decode cX4_pairsTrue 18 = .ok (.iload_n 1, 1) := by decide +kernel
theorem dX4_pairsTrue_19 : decode cX4_pairsTrue 19 = .ok (.imul, 1) := by decide +kernel
theorem dX4_pairsTrue_20 : decode cX4_pairsTrue 20 = .ok (.bipush 6, 2) := by decide +kernel
theorem dX4_pairsTrue_22 : decode cX4_pairsTrue 22 = .ok (.iload_n 2, 1) := by decide +kernel
theorem dX4_pairsTrue_23 : decode cX4_pairsTrue 23 = .ok (.imul, 1) := by decide +kernel
theorem dX4_pairsTrue_24 : decode cX4_pairsTrue 24 = .ok (.iadd, 1) := by decide +kernel
theorem dX4_pairsTrue_25 : decode cX4_pairsTrue 25 = .ok (.iload_n 3, 1) := by decide +kernel
theorem dX4_pairsTrue_26 : decode cX4_pairsTrue 26 = .ok (.iadd, 1) := by decide +kernel
theorem dX4_pairsTrue_27 : decode cX4_pairsTrue 27 = .ok (.istore 4, 2) := by decide +kernel
theorem dX4_pairsTrue_29 : decode cX4_pairsTrue 29 = .ok (.aload_n 0, 1) := by decide +kernel
theorem dX4_pairsTrue_30 : decode cX4_pairsTrue 30 = .ok (.getfield 7, 3) := by decide +kernel
theorem dX4_pairsTrue_33 : decode cX4_pairsTrue 33 = .ok (.iload 4, 2) := by decide +kernel
theorem dX4_pairsTrue_35 : decode cX4_pairsTrue 35 = .ok (.baload, 1) := by decide +kernel
theorem dX4_pairsTrue_36 : decode cX4_pairsTrue 36 = .ok (.ifCond .eq 18, 3) := by decide +kernel
theorem dX4_pairsTrue_39 : decode cX4_pairsTrue 39 = .ok (.aload_n 0, 1) := by decide +kernel
theorem dX4_pairsTrue_40 : decode cX4_pairsTrue 40 = .ok (.getfield 29, 3) := by decide +kernel
theorem dX4_pairsTrue_43 : decode cX4_pairsTrue 43 = .ok (.iload_n 2, 1) := by decide +kernel
theorem dX4_pairsTrue_44 : decode cX4_pairsTrue 44 = .ok (.iaload, 1) := by decide +kernel
theorem dX4_pairsTrue_45 : decode cX4_pairsTrue 45 = .ok (.aload_n 0, 1) := by decide +kernel
theorem dX4_pairsTrue_46 : decode cX4_pairsTrue 46 = .ok (.getfield 29, 3) := by decide +kernel
theorem dX4_pairsTrue_49 : decode cX4_pairsTrue 49 = .ok (.iload_n 3, 1) := by decide +kernel
theorem dX4_pairsTrue_50 : decode cX4_pairsTrue 50 = .ok (.iaload, 1) := by decide +kernel
theorem dX4_pairsTrue_51 : decode cX4_pairsTrue 51 = .ok (.if_icmp .ne 28, 3) := by decide +kernel
theorem dX4_pairsTrue_54 : decode cX4_pairsTrue 54 = .ok (.aload_n 0, 1) := by decide +kernel
theorem dX4_pairsTrue_55 : decode cX4_pairsTrue 55 = .ok (.getfield 13, 3) := by decide +kernel
theorem dX4_pairsTrue_58 : decode cX4_pairsTrue 58 = .ok (.iload 4, 2) := by decide +kernel
theorem dX4_pairsTrue_60 : decode cX4_pairsTrue 60 = .ok (.baload, 1) := by decide +kernel
theorem dX4_pairsTrue_61 : decode cX4_pairsTrue 61 = .ok (.ifCond .eq 20, 3) := by decide +kernel
theorem dX4_pairsTrue_64 : decode cX4_pairsTrue 64 = .ok (.aload_n 0, 1) := by decide +kernel
theorem dX4_pairsTrue_65 : decode cX4_pairsTrue 65 = .ok (.getfield 29, 3) := by decide +kernel
theorem dX4_pairsTrue_68 : decode cX4_pairsTrue 68 = .ok (.iload_n 2, 1) := by decide +kernel
theorem dX4_pairsTrue_69 : decode cX4_pairsTrue 69 = .ok (.iaload, 1) := by decide +kernel
theorem dX4_pairsTrue_70 : decode cX4_pairsTrue 70 = .ok (.aload_n 0, 1) := by decide +kernel
theorem dX4_pairsTrue_71 : decode cX4_pairsTrue 71 = .ok (.getfield 29, 3) := by decide +kernel
theorem dX4_pairsTrue_74 : decode cX4_pairsTrue 74 = .ok (.iload_n 3, 1) := by decide +kernel
theorem dX4_pairsTrue_75 : decode cX4_pairsTrue 75 = .ok (.iaload, 1) := by decide +kernel
theorem dX4_pairsTrue_76 : decode cX4_pairsTrue 76 = .ok (.if_icmp .ne 5, 3) := by decide +kernel
theorem dX4_pairsTrue_79 : decode cX4_pairsTrue 79 = .ok (.iconst 0, 1) := by decide +kernel
theorem dX4_pairsTrue_80 : decode cX4_pairsTrue 80 = .ok (.ireturn, 1) := by decide +kernel
theorem dX4_pairsTrue_81 : decode cX4_pairsTrue 81 = .ok (.iinc 3 1, 3) := by decide +kernel
theorem dX4_pairsTrue_84 : decode cX4_pairsTrue 84 = .ok (.goto (-74), 3) := by decide +kernel
theorem dX4_pairsTrue_87 : decode cX4_pairsTrue 87 = .ok (.iinc 2 1, 3) := by decide +kernel
theorem dX4_pairsTrue_90 : decode cX4_pairsTrue 90 = .ok (.goto (-88), 3) := by decide +kernel
theorem dX4_pairsTrue_93 : decode cX4_pairsTrue 93 = .ok (.iconst 1, 1) := by decide +kernel
theorem dX4_pairsTrue_94 : decode cX4_pairsTrue 94 = .ok (.ireturn, 1) := by decide +kernel
theorem dX4_begun_0 : decode cX4_begun 0 = .ok (.iconst 0, 1) := by decide +kernel
theorem dX4_begun_1 : decode cX4_begun 1 = .ok (.istore_n 2, 1) := by decide +kernel
theorem dX4_begun_2 : decode cX4_begun 2 = .ok (.iload_n 2, 1) := by decide +kernel
theorem dX4_begun_3 : decode cX4_begun 3 = .ok (.bipush 6, 2) := by decide +kernel
theorem dX4_begun_5 : decode cX4_begun 5 = .ok (.if_icmp .ge 16, 3) := by decide +kernel
theorem dX4_begun_8 : decode cX4_begun 8 = .ok (.aload_n 0, 1) := by decide +kernel
theorem dX4_begun_9 : decode cX4_begun 9 = .ok (.getfield 32, 3) := by decide +kernel
theorem dX4_begun_12 : decode cX4_begun 12 = .ok (.iload_n 2, 1) := by decide +kernel
theorem dX4_begun_13 : decode cX4_begun 13 = .ok (.iconst 0, 1) := by decide +kernel
theorem dX4_begun_14 : decode cX4_begun 14 = .ok (.bastore, 1) := by decide +kernel
theorem dX4_begun_15 : decode cX4_begun 15 = .ok (.iinc 2 1, 3) := by decide +kernel
theorem dX4_begun_18 : decode cX4_begun 18 = .ok (.goto (-16), 3) := by decide +kernel
theorem dX4_begun_21 : decode cX4_begun 21 = .ok (.iconst 5, 1) := by decide +kernel
theorem dX4_begun_22 : decode cX4_begun 22 = .ok (.iload_n 1, 1) := by decide +kernel
theorem dX4_begun_23 : decode cX4_begun 23 = .ok (.imul, 1) := by decide +kernel
theorem dX4_begun_24 : decode cX4_begun 24 = .ok (.istore_n 2, 1) := by decide +kernel
theorem dX4_begun_25 : decode cX4_begun 25 = .ok (.iload_n 2, 1) := by decide +kernel
theorem dX4_begun_26 : decode cX4_begun 26 = .ok (.iconst 5, 1) := by decide +kernel
theorem dX4_begun_27 : decode cX4_begun 27 = .ok (.iload_n 1, 1) := by decide +kernel
theorem dX4_begun_28 : decode cX4_begun 28 = .ok (.imul, 1) := by decide +kernel
theorem dX4_begun_29 : decode cX4_begun 29 = .ok (.aload_n 0, 1) := by decide +kernel
theorem dX4_begun_30 : decode cX4_begun 30 = .ok (.getfield 16, 3) := by decide +kernel
theorem dX4_begun_33 : decode cX4_begun 33 = .ok (.iload_n 1, 1) := by decide +kernel
theorem dX4_begun_34 : decode cX4_begun 34 = .ok (.iaload, 1) := by decide +kernel
theorem dX4_begun_35 : decode cX4_begun 35 = .ok (.iadd, 1) := by decide +kernel
theorem dX4_begun_36 : decode cX4_begun 36 = .ok (.if_icmp .ge 81, 3) := by decide +kernel
theorem dX4_begun_39 : decode cX4_begun 39 = .ok (.aload_n 0, 1) := by decide +kernel
theorem dX4_begun_40 : decode cX4_begun 40 = .ok (.getfield 29, 3) := by decide +kernel
theorem dX4_begun_43 : decode cX4_begun 43 = .ok (.aload_n 0, 1) := by decide +kernel
theorem dX4_begun_44 : decode cX4_begun 44 = .ok (.getfield 20, 3) := by decide +kernel
theorem dX4_begun_47 : decode cX4_begun 47 = .ok (.iload_n 2, 1) := by decide +kernel
theorem dX4_begun_48 : decode cX4_begun 48 = .ok (.iaload, 1) := by decide +kernel
theorem dX4_begun_49 : decode cX4_begun 49 = .ok (.iaload, 1) := by decide +kernel
theorem dX4_begun_50 : decode cX4_begun 50 = .ok (.istore_n 3, 1) := by decide +kernel
theorem dX4_begun_51 : decode cX4_begun 51 = .ok (.aload_n 0, 1) := by decide +kernel
theorem dX4_begun_52 : decode cX4_begun 52 = .ok (.iload_n 2, 1) := by decide +kernel
theorem dX4_begun_53 : decode cX4_begun 53 = .ok (.invokevirtual 73, 3) := by decide +kernel
theorem dX4_begun_56 : decode cX4_begun 56 = .ok (.ifCond .ne 55, 3) := by decide +kernel
theorem dX4_begun_59 : decode cX4_begun 59 = .ok (.iload_n 3, 1) := by decide +kernel
theorem dX4_begun_60 : decode cX4_begun 60 = .ok (.aload_n 0, 1) := by decide +kernel
theorem dX4_begun_61 : decode cX4_begun 61 = .ok (.getfield 29, 3) := by decide +kernel
theorem dX4_begun_64 : decode cX4_begun 64 = .ok (.iconst 5, 1) := by decide +kernel
theorem dX4_begun_65 : decode cX4_begun 65 = .ok (.iaload, 1) := by decide +kernel
theorem dX4_begun_66 : decode cX4_begun 66 = .ok (.if_icmp .eq 12, 3) := by decide +kernel
theorem dX4_begun_69 : decode cX4_begun 69 = .ok (.aload_n 0, 1) := by decide +kernel
theorem dX4_begun_70 : decode cX4_begun 70 = .ok (.getfield 32, 3) := by decide +kernel
theorem dX4_begun_73 : decode cX4_begun 73 = .ok (.iload_n 3, 1) := by decide +kernel
theorem dX4_begun_74 : decode cX4_begun 74 = .ok (.baload, 1) := by decide +kernel
theorem dX4_begun_75 : decode cX4_begun 75 = .ok (.ifCond .eq 5, 3) := by decide +kernel
theorem dX4_begun_78 : decode cX4_begun 78 = .ok (.iconst 0, 1) := by decide +kernel
theorem dX4_begun_79 : decode cX4_begun 79 = .ok (.ireturn, 1) := by decide +kernel
theorem dX4_begun_80 : decode cX4_begun 80 = .ok (.aload_n 0, 1) := by decide +kernel
theorem dX4_begun_81 : decode cX4_begun 81 = .ok (.getfield 32, 3) := by decide +kernel
theorem dX4_begun_84 : decode cX4_begun 84 = .ok (.iload_n 3, 1) := by decide +kernel
theorem dX4_begun_85 : decode cX4_begun 85 = .ok (.iconst 1, 1) := by decide +kernel
theorem dX4_begun_86 : decode cX4_begun 86 = .ok (.bastore, 1) := by decide +kernel
theorem dX4_begun_87 : decode cX4_begun 87 = .ok (.aload_n 0, 1) := by decide +kernel
theorem dX4_begun_88 : decode cX4_begun 88 = .ok (.getfield 35, 3) := by decide +kernel
theorem dX4_begun_91 : decode cX4_begun 91 = .ok (.iload_n 3, 1) := by decide +kernel
theorem dX4_begun_92 : decode cX4_begun 92 = .ok (.aload_n 0, 1) := by decide +kernel
theorem dX4_begun_93 : decode cX4_begun 93 = .ok (.getfield 29, 3) := by decide +kernel
theorem dX4_begun_96 : decode cX4_begun 96 = .ok (.aload_n 0, 1) := by decide +kernel
theorem dX4_begun_97 : decode cX4_begun 97 = .ok (.getfield 23, 3) := by decide +kernel
theorem dX4_begun_100 : decode cX4_begun 100 = .ok (.iload_n 2, 1) := by decide +kernel
theorem dX4_begun_101 : decode cX4_begun 101 = .ok (.iaload, 1) := by decide +kernel
theorem dX4_begun_102 : decode cX4_begun 102 = .ok (.iaload, 1) := by decide +kernel
theorem dX4_begun_103 : decode cX4_begun 103 = .ok (.iastore, 1) := by decide +kernel
theorem dX4_begun_104 : decode cX4_begun 104 = .ok (.aload_n 0, 1) := by decide +kernel
theorem dX4_begun_105 : decode cX4_begun 105 = .ok (.getfield 38, 3) := by decide +kernel
theorem dX4_begun_108 : decode cX4_begun 108 = .ok (.iload_n 3, 1) := by decide +kernel
theorem dX4_begun_109 : decode cX4_begun 109 = .ok (.iconst 0, 1) := by decide +kernel
theorem dX4_begun_110 : decode cX4_begun 110 = .ok (.bastore, 1) := by decide +kernel
theorem dX4_begun_111 : decode cX4_begun 111 = .ok (.iinc 2 1, 3) := by decide +kernel
theorem dX4_begun_114 : decode cX4_begun 114 = .ok (.goto (-89), 3) := by decide +kernel
theorem dX4_begun_117 : decode cX4_begun 117 = .ok (.iconst 1, 1) := by decide +kernel
theorem dX4_begun_118 : decode cX4_begun 118 = .ok (.ireturn, 1) := by decide +kernel
theorem dX4_isEmpty_0 : decode cX4_isEmpty 0 = .ok (.aload_n 0, 1) := by decide +kernel
theorem dX4_isEmpty_1 : decode cX4_isEmpty 1 = .ok (.getfield 26, 3) := by decide +kernel
theorem dX4_isEmpty_4 : decode cX4_isEmpty 4 = .ok (.iload_n 1, 1) := by decide +kernel
theorem dX4_isEmpty_5 : decode cX4_isEmpty 5 = .ok (.baload, 1) := by decide +kernel
theorem dX4_isEmpty_6 : decode cX4_isEmpty 6 = .ok (.ifCond .eq 32, 3) := by decide +kernel
theorem dX4_isEmpty_9 : decode cX4_isEmpty 9 = .ok (.aload_n 0, 1) := by decide +kernel
theorem dX4_isEmpty_10 : decode cX4_isEmpty 10 = .ok (.getfield 29, 3) := by decide +kernel
theorem dX4_isEmpty_13 : decode cX4_isEmpty 13 = .ok (.aload_n 0, 1) := by decide +kernel
theorem dX4_isEmpty_14 : decode cX4_isEmpty 14 = .ok (.getfield 20, 3) := by decide +kernel
theorem dX4_isEmpty_17 : decode cX4_isEmpty 17 = .ok (.iload_n 1, 1) := by decide +kernel
theorem dX4_isEmpty_18 : decode cX4_isEmpty 18 = .ok (.iaload, 1) := by decide +kernel
theorem dX4_isEmpty_19 : decode cX4_isEmpty 19 = .ok (.iaload, 1) := by decide +kernel
theorem dX4_isEmpty_20 : decode cX4_isEmpty 20 = .ok (.aload_n 0, 1) := by decide +kernel
theorem dX4_isEmpty_21 : decode cX4_isEmpty 21 = .ok (.getfield 29, 3) := by decide +kernel
theorem dX4_isEmpty_24 : decode cX4_isEmpty 24 = .ok (.aload_n 0, 1) := by decide +kernel
theorem dX4_isEmpty_25 : decode cX4_isEmpty 25 = .ok (.getfield 23, 3) := by decide +kernel
theorem dX4_isEmpty_28 : decode cX4_isEmpty 28 = .ok (.iload_n 1, 1) := by decide +kernel
theorem dX4_isEmpty_29 : decode cX4_isEmpty 29 = .ok (.iaload, 1) := by decide +kernel
theorem dX4_isEmpty_30 : decode cX4_isEmpty 30 = .ok (.iaload, 1) := by decide +kernel
theorem dX4_isEmpty_31 : decode cX4_isEmpty 31 = .ok (.if_icmp .ne 7, 3) := by decide +kernel
theorem dX4_isEmpty_34 : decode cX4_isEmpty 34 = .ok (.iconst 1, 1) := by decide +kernel
theorem dX4_isEmpty_35 : decode cX4_isEmpty 35 = .ok (.goto 4, 3) := by decide +kernel
theorem dX4_isEmpty_38 : decode cX4_isEmpty 38 = .ok (.iconst 0, 1) := by decide +kernel
theorem dX4_isEmpty_39 : decode cX4_isEmpty 39 = .ok (.ireturn, 1) := by decide +kernel
theorem dX4_someWay_0 : decode cX4_someWay 0 = .ok (.iconst 0, 1) := by decide +kernel
theorem dX4_someWay_1 : decode cX4_someWay 1 = .ok (.istore_n 2, 1) := by decide +kernel
theorem dX4_someWay_2 : decode cX4_someWay 2 = .ok (.aload_n 0, 1) := by decide +kernel
theorem dX4_someWay_3 : decode cX4_someWay 3 = .ok (.iload_n 1, 1) := by decide +kernel
theorem dX4_someWay_4 : decode cX4_someWay 4 = .ok (.iconst 5, 1) := by decide +kernel
theorem dX4_someWay_5 : decode cX4_someWay 5 = .ok (.iload_n 1, 1) := by decide +kernel
theorem dX4_someWay_6 : decode cX4_someWay 6 = .ok (.imul, 1) := by decide +kernel
theorem dX4_someWay_7 : decode cX4_someWay 7 = .ok (.invokevirtual 76, 3) := by decide +kernel
theorem dX4_someWay_10 : decode cX4_someWay 10 = .ok (.istore_n 3, 1) := by decide +kernel
theorem dX4_someWay_11 : decode cX4_someWay 11 = .ok (.iload_n 3, 1) := by decide +kernel
theorem dX4_someWay_12 : decode cX4_someWay 12 = .ok (.ifCond .ge 8, 3) := by decide +kernel
theorem dX4_someWay_15 : decode cX4_someWay 15 = .ok (.aload_n 0, 1) := by decide +kernel
theorem dX4_someWay_16 : decode cX4_someWay 16 = .ok (.invokevirtual 80, 3) := by decide +kernel
theorem dX4_someWay_19 : decode cX4_someWay 19 = .ok (.ireturn, 1) := by decide +kernel
theorem dX4_someWay_20 : decode cX4_someWay 20 = .ok (.aload_n 0, 1) := by decide +kernel
theorem dX4_someWay_21 : decode cX4_someWay 21 = .ok (.getfield 47, 3) := by decide +kernel
theorem dX4_someWay_24 : decode cX4_someWay 24 = .ok (.iconst 0, 1) := by decide +kernel
theorem dX4_someWay_25 : decode cX4_someWay 25 = .ok (.iload_n 3, 1) := by decide +kernel
theorem dX4_someWay_26 : decode cX4_someWay 26 = .ok (.iastore, 1) := by decide +kernel
theorem dX4_someWay_27 : decode cX4_someWay 27 = .ok (.aload_n 0, 1) := by decide +kernel
theorem dX4_someWay_28 : decode cX4_someWay 28 = .ok (.getfield 50, 3) := by decide +kernel
theorem dX4_someWay_31 : decode cX4_someWay 31 = .ok (.iconst 0, 1) := by decide +kernel
theorem dX4_someWay_32 : decode cX4_someWay 32 = .ok (.aload_n 0, 1) := by decide +kernel
theorem dX4_someWay_33 : decode cX4_someWay 33 = .ok (.getfield 29, 3) := by decide +kernel
theorem dX4_someWay_36 : decode cX4_someWay 36 = .ok (.aload_n 0, 1) := by decide +kernel
theorem dX4_someWay_37 : decode cX4_someWay 37 = .ok (.getfield 20, 3) := by decide +kernel
theorem dX4_someWay_40 : decode cX4_someWay 40 = .ok (.iload_n 3, 1) := by decide +kernel
theorem dX4_someWay_41 : decode cX4_someWay 41 = .ok (.iaload, 1) := by decide +kernel
theorem dX4_someWay_42 : decode cX4_someWay 42 = .ok (.iaload, 1) := by decide +kernel
theorem dX4_someWay_43 : decode cX4_someWay 43 = .ok (.iastore, 1) := by decide +kernel
theorem dX4_someWay_44 : decode cX4_someWay 44 = .ok (.aload_n 0, 1) := by decide +kernel
theorem dX4_someWay_45 : decode cX4_someWay 45 = .ok (.getfield 44, 3) := by decide +kernel
theorem dX4_someWay_48 : decode cX4_someWay 48 = .ok (.iconst 0, 1) := by decide +kernel
theorem dX4_someWay_49 : decode cX4_someWay 49 = .ok (.iconst (-1), 1) := by decide +kernel
theorem dX4_someWay_50 : decode cX4_someWay 50 = .ok (.iastore, 1) := by decide +kernel
theorem dX4_someWay_51 : decode cX4_someWay 51 = .ok (.iload_n 2, 1) := by decide +kernel
theorem dX4_someWay_52 : decode cX4_someWay 52 = .ok (.ifCond .lt 285, 3) := by decide +kernel
theorem dX4_someWay_55 : decode cX4_someWay 55 = .ok (.aload_n 0, 1) := by decide +kernel
theorem dX4_someWay_56 : decode cX4_someWay 56 = .ok (.getfield 44, 3) := by decide +kernel
theorem dX4_someWay_59 : decode cX4_someWay 59 = .ok (.iload_n 2, 1) := by decide +kernel
theorem dX4_someWay_60 : decode cX4_someWay 60 = .ok (.iaload, 1) := by decide +kernel
theorem dX4_someWay_61 : decode cX4_someWay 61 = .ok (.iconst 1, 1) := by decide +kernel
theorem dX4_someWay_62 : decode cX4_someWay 62 = .ok (.if_icmp .le 16, 3) := by decide +kernel
theorem dX4_someWay_65 : decode cX4_someWay 65 = .ok (.aload_n 0, 1) := by decide +kernel
theorem dX4_someWay_66 : decode cX4_someWay 66 = .ok (.getfield 44, 3) := by decide +kernel
theorem dX4_someWay_69 : decode cX4_someWay 69 = .ok (.iload_n 2, 1) := by decide +kernel
theorem dX4_someWay_70 : decode cX4_someWay 70 = .ok (.iaload, 1) := by decide +kernel
theorem dX4_someWay_71 : decode cX4_someWay 71 = .ok (.iconst 2, 1) := by decide +kernel
theorem dX4_someWay_72 : decode cX4_someWay 72 = .ok (.idiv, 1) := by decide +kernel
theorem dX4_someWay_73 : decode cX4_someWay 73 = .ok (.iconst 1, 1) := by decide +kernel
theorem dX4_someWay_74 : decode cX4_someWay 74 = .ok (.isub, 1) := by decide +kernel
theorem dX4_someWay_75 : decode cX4_someWay 75 = .ok (.goto 4, 3) := by decide +kernel
theorem dX4_someWay_78 : decode cX4_someWay 78 = .ok (.iconst (-1), 1) := by decide +kernel
theorem dX4_someWay_79 : decode cX4_someWay 79 = .ok (.istore 4, 2) := by decide +kernel
theorem dX4_someWay_81 : decode cX4_someWay 81 = .ok (.iload 4, 2) := by decide +kernel
theorem dX4_someWay_83 : decode cX4_someWay 83 = .ok (.ifCond .lt 11, 3) := by decide +kernel
theorem dX4_someWay_86 : decode cX4_someWay 86 = .ok (.aload_n 0, 1) := by decide +kernel
theorem dX4_someWay_87 : decode cX4_someWay 87 = .ok (.getfield 32, 3) := by decide +kernel
theorem dX4_someWay_90 : decode cX4_someWay 90 = .ok (.iload 4, 2) := by decide +kernel
theorem dX4_someWay_92 : decode cX4_someWay 92 = .ok (.iconst 0, 1) := by decide +kernel
theorem dX4_someWay_93 : decode cX4_someWay 93 = .ok (.bastore, 1) := by decide +kernel
theorem dX4_someWay_94 : decode cX4_someWay 94 = .ok (.aload_n 0, 1) := by decide +kernel
theorem dX4_someWay_95 : decode cX4_someWay 95 = .ok (.getfield 29, 3) := by decide +kernel
theorem dX4_someWay_98 : decode cX4_someWay 98 = .ok (.aload_n 0, 1) := by decide +kernel
theorem dX4_someWay_99 : decode cX4_someWay 99 = .ok (.getfield 23, 3) := by decide +kernel
theorem dX4_someWay_102 : decode cX4_someWay 102 = .ok (.aload_n 0, 1) := by decide +kernel
theorem dX4_someWay_103 : decode cX4_someWay 103 = .ok (.getfield 47, 3) := by decide +kernel
theorem dX4_someWay_106 : decode cX4_someWay 106 = .ok (.iload_n 2, 1) := by decide +kernel
theorem dX4_someWay_107 : decode cX4_someWay 107 = .ok (.iaload, 1) := by decide +kernel
theorem dX4_someWay_108 : decode cX4_someWay 108 = .ok (.iaload, 1) := by decide +kernel
theorem dX4_someWay_109 : decode cX4_someWay 109 = .ok (.iaload, 1) := by decide +kernel
theorem dX4_someWay_110 : decode cX4_someWay 110 = .ok (.istore 5, 2) := by decide +kernel
theorem dX4_someWay_112 : decode cX4_someWay 112 = .ok (.aload_n 0, 1) := by decide +kernel
theorem dX4_someWay_113 : decode cX4_someWay 113 = .ok (.getfield 44, 3) := by decide +kernel
theorem dX4_someWay_116 : decode cX4_someWay 116 = .ok (.iload_n 2, 1) := by decide +kernel
theorem dX4_someWay_117 : decode cX4_someWay 117 = .ok (.iaload, 1) := by decide +kernel
theorem dX4_someWay_118 : decode cX4_someWay 118 = .ok (.iconst 1, 1) := by decide +kernel
theorem dX4_someWay_119 : decode cX4_someWay 119 = .ok (.iadd, 1) := by decide +kernel
theorem dX4_someWay_120 : decode cX4_someWay 120 = .ok (.istore 6, 2) := by decide +kernel
theorem dX4_someWay_122 : decode cX4_someWay 122 = .ok (.iload 6, 2) := by decide +kernel
theorem dX4_someWay_124 : decode cX4_someWay 124 = .ok (.bipush 14, 2) := by decide +kernel
theorem dX4_someWay_126 : decode cX4_someWay 126 = .ok (.if_icmp .ge 30, 3) := by decide +kernel
theorem dX4_someWay_129 : decode cX4_someWay 129 = .ok (.iload 6, 2) := by decide +kernel
theorem dX4_someWay_131 : decode cX4_someWay 131 = .ok (.iconst 1, 1) := by decide +kernel
theorem dX4_someWay_132 : decode cX4_someWay 132 = .ok (.if_icmp .le 24, 3) := by decide +kernel
theorem dX4_someWay_135 : decode cX4_someWay 135 = .ok (.aload_n 0, 1) := by decide +kernel
theorem dX4_someWay_136 : decode cX4_someWay 136 = .ok (.iload 6, 2) := by decide +kernel
theorem dX4_someWay_138 : decode cX4_someWay 138 = .ok (.iconst 2, 1) := by decide +kernel
theorem dX4_someWay_139 : decode cX4_someWay 139 = .ok (.idiv, 1) := by decide +kernel
theorem dX4_someWay_140 : decode cX4_someWay 140 = .ok (.iconst 1, 1) := by decide +kernel
theorem dX4_someWay_141 : decode cX4_someWay 141 = .ok (.isub, 1) := by decide +kernel
theorem dX4_someWay_142 : decode cX4_someWay 142 = .ok (.iload 5, 2) := by decide +kernel
theorem dX4_someWay_144 : decode cX4_someWay 144 = .ok (.invokevirtual 84, 3) := by decide +kernel
theorem dX4_someWay_147 : decode cX4_someWay 147 = .ok (.ifCond .ne 9, 3) := by decide +kernel
theorem dX4_someWay_150 : decode cX4_someWay 150 = .ok (.iinc 6 1, 3) := by decide +kernel
theorem dX4_someWay_153 : decode cX4_someWay 153 = .ok (.goto (-31), 3) := by decide +kernel
theorem dX4_someWay_156 : decode cX4_someWay 156 = .ok (.iload 6, 2) := by decide +kernel
theorem dX4_someWay_158 : decode cX4_someWay 158 = .ok (.bipush 14, 2) := by decide +kernel
theorem dX4_someWay_160 : decode cX4_someWay 160 = .ok (.if_icmp .ne 9, 3) := by decide +kernel
theorem dX4_someWay_163 : decode cX4_someWay 163 = .ok (.iinc 2 (-1), 3) := by decide +kernel
theorem dX4_someWay_166 : decode cX4_someWay 166 = .ok (.goto 168, 3) := by decide +kernel
theorem dX4_someWay_169 : decode cX4_someWay 169 = .ok (.aload_n 0, 1) := by decide +kernel
theorem dX4_someWay_170 : decode cX4_someWay 170 = .ok (.getfield 44, 3) := by decide +kernel
theorem dX4_someWay_173 : decode cX4_someWay 173 = .ok (.iload_n 2, 1) := by decide +kernel
theorem dX4_someWay_174 : decode cX4_someWay 174 = .ok (.iload 6, 2) := by decide +kernel
theorem dX4_someWay_176 : decode cX4_someWay 176 = .ok (.iastore, 1) := by decide +kernel
theorem dX4_someWay_177 : decode cX4_someWay 177 = .ok (.iload 6, 2) := by decide +kernel
theorem dX4_someWay_179 : decode cX4_someWay 179 = .ok (.iconst 2, 1) := by decide +kernel
theorem dX4_someWay_180 : decode cX4_someWay 180 = .ok (.idiv, 1) := by decide +kernel
theorem dX4_someWay_181 : decode cX4_someWay 181 = .ok (.iconst 1, 1) := by decide +kernel
theorem dX4_someWay_182 : decode cX4_someWay 182 = .ok (.isub, 1) := by decide +kernel
theorem dX4_someWay_183 : decode cX4_someWay 183 = .ok (.istore 4, 2) := by decide +kernel
theorem dX4_someWay_185 : decode cX4_someWay 185 = .ok (.aload_n 0, 1) := by decide +kernel
theorem dX4_someWay_186 : decode cX4_someWay 186 = .ok (.getfield 35, 3) := by decide +kernel
theorem dX4_someWay_189 : decode cX4_someWay 189 = .ok (.aload_n 0, 1) := by decide +kernel
theorem dX4_someWay_190 : decode cX4_someWay 190 = .ok (.getfield 50, 3) := by decide +kernel
theorem dX4_someWay_193 : decode cX4_someWay 193 = .ok (.iload_n 2, 1) := by decide +kernel
theorem dX4_someWay_194 : decode cX4_someWay 194 = .ok (.iaload, 1) := by decide +kernel
theorem dX4_someWay_195 : decode cX4_someWay 195 = .ok (.iload 4, 2) := by decide +kernel
theorem dX4_someWay_197 : decode cX4_someWay 197 = .ok (.ifCond .ge 8, 3) := by decide +kernel
theorem dX4_someWay_200 : decode cX4_someWay 200 = .ok (.iload 5, 2) := by decide +kernel
theorem dX4_someWay_202 : decode cX4_someWay 202 = .ok (.goto 5, 3) := by decide +kernel
theorem dX4_someWay_205 : decode cX4_someWay 205 = .ok (.iload 4, 2) := by decide +kernel
theorem dX4_someWay_207 : decode cX4_someWay 207 = .ok (.iastore, 1) := by decide +kernel
theorem dX4_someWay_208 : decode cX4_someWay 208 = .ok (.aload_n 0, 1) := by decide +kernel
theorem dX4_someWay_209 : decode cX4_someWay 209 = .ok (.getfield 38, 3) := by decide +kernel
theorem dX4_someWay_212 : decode cX4_someWay 212 = .ok (.aload_n 0, 1) := by decide +kernel
theorem dX4_someWay_213 : decode cX4_someWay 213 = .ok (.getfield 50, 3) := by decide +kernel
theorem dX4_someWay_216 : decode cX4_someWay 216 = .ok (.iload_n 2, 1) := by decide +kernel
theorem dX4_someWay_217 : decode cX4_someWay 217 = .ok (.iaload, 1) := by decide +kernel
theorem dX4_someWay_218 : decode cX4_someWay 218 = .ok (.iload 6, 2) := by decide +kernel
theorem dX4_someWay_220 : decode cX4_someWay 220 = .ok (.iconst 2, 1) := by decide +kernel
theorem dX4_someWay_221 : decode cX4_someWay 221 = .ok (.irem, 1) := by decide +kernel
theorem dX4_someWay_222 : decode cX4_someWay 222 = .ok (.iconst 1, 1) := by decide +kernel
theorem dX4_someWay_223 : decode cX4_someWay 223 = .ok (.if_icmp .ne 7, 3) := by decide +kernel
theorem dX4_someWay_226 : decode cX4_someWay 226 = .ok (.iconst 1, 1) := by decide +kernel
theorem dX4_someWay_227 : decode cX4_someWay 227 = .ok (.goto 4, 3) := by decide +kernel
theorem dX4_someWay_230 : decode cX4_someWay 230 = .ok (.iconst 0, 1) := by decide +kernel
theorem dX4_someWay_231 : decode cX4_someWay 231 = .ok (.bastore, 1) := by decide +kernel
theorem dX4_someWay_232 : decode cX4_someWay 232 = .ok (.aload_n 0, 1) := by decide +kernel
theorem dX4_someWay_233 : decode cX4_someWay 233 = .ok (.getfield 47, 3) := by decide +kernel
theorem dX4_someWay_236 : decode cX4_someWay 236 = .ok (.iload_n 2, 1) := by decide +kernel
theorem dX4_someWay_237 : decode cX4_someWay 237 = .ok (.iaload, 1) := by decide +kernel
theorem dX4_someWay_238 : decode cX4_someWay 238 = .ok (.istore 7, 2) := by decide +kernel
theorem dX4_someWay_240 : decode cX4_someWay 240 = .ok (.iload 4, 2) := by decide +kernel
theorem dX4_someWay_242 : decode cX4_someWay 242 = .ok (.istore 8, 2) := by decide +kernel
theorem dX4_someWay_244 : decode cX4_someWay 244 = .ok (.iload 4, 2) := by decide +kernel
theorem dX4_someWay_246 : decode cX4_someWay 246 = .ok (.ifCond .ge 40, 3) := by decide +kernel
theorem dX4_someWay_249 : decode cX4_someWay 249 = .ok (.aload_n 0, 1) := by decide +kernel
theorem dX4_someWay_250 : decode cX4_someWay 250 = .ok (.iload_n 1, 1) := by decide +kernel
theorem dX4_someWay_251 : decode cX4_someWay 251 = .ok (.iload 7, 2) := by decide +kernel
theorem dX4_someWay_253 : decode cX4_someWay 253 = .ok (.iconst 1, 1) := by decide +kernel
theorem dX4_someWay_254 : decode cX4_someWay 254 = .ok (.iadd, 1) := by decide +kernel
theorem dX4_someWay_255 : decode cX4_someWay 255 = .ok (.invokevirtual 76, 3) := by decide +kernel
theorem dX4_someWay_258 : decode cX4_someWay 258 = .ok (.istore 7, 2) := by decide +kernel
theorem dX4_someWay_260 : decode cX4_someWay 260 = .ok (.iload 7, 2) := by decide +kernel
theorem dX4_someWay_262 : decode cX4_someWay 262 = .ok (.ifCond .ge 7, 3) := by decide +kernel
theorem dX4_someWay_265 : decode cX4_someWay 265 = .ok (.iconst (-1), 1) := by decide +kernel
theorem dX4_someWay_266 : decode cX4_someWay 266 = .ok (.goto 15, 3) := by decide +kernel
theorem dX4_someWay_269 : decode cX4_someWay 269 = .ok (.aload_n 0, 1) := by decide +kernel
theorem dX4_someWay_270 : decode cX4_someWay 270 = .ok (.getfield 29, 3) := by decide +kernel
theorem dX4_someWay_273 : decode cX4_someWay 273 = .ok (.aload_n 0, 1) := by decide +kernel
theorem dX4_someWay_274 : decode cX4_someWay 274 = .ok (.getfield 20, 3) := by decide +kernel
theorem dX4_someWay_277 : decode cX4_someWay 277 = .ok (.iload 7, 2) := by decide +kernel
theorem dX4_someWay_279 : decode cX4_someWay 279 = .ok (.iaload, 1) := by decide +kernel
theorem dX4_someWay_280 : decode cX4_someWay 280 = .ok (.iaload, 1) := by decide +kernel
theorem dX4_someWay_281 : decode cX4_someWay 281 = .ok (.istore 8, 2) := by decide +kernel
theorem dX4_someWay_283 : decode cX4_someWay 283 = .ok (.goto 11, 3) := by decide +kernel
theorem dX4_someWay_286 : decode cX4_someWay 286 = .ok (.aload_n 0, 1) := by decide +kernel
theorem dX4_someWay_287 : decode cX4_someWay 287 = .ok (.getfield 32, 3) := by decide +kernel
theorem dX4_someWay_290 : decode cX4_someWay 290 = .ok (.iload 4, 2) := by decide +kernel
theorem dX4_someWay_292 : decode cX4_someWay 292 = .ok (.iconst 1, 1) := by decide +kernel
theorem dX4_someWay_293 : decode cX4_someWay 293 = .ok (.bastore, 1) := by decide +kernel
theorem dX4_someWay_294 : decode cX4_someWay 294 = .ok (.iload 7, 2) := by decide +kernel
theorem dX4_someWay_296 : decode cX4_someWay 296 = .ok (.ifCond .ge 12, 3) := by decide +kernel
theorem dX4_someWay_299 : decode cX4_someWay 299 = .ok (.aload_n 0, 1) := by decide +kernel
theorem dX4_someWay_300 : decode cX4_someWay 300 = .ok (.invokevirtual 80, 3) := by decide +kernel
theorem dX4_someWay_303 : decode cX4_someWay 303 = .ok (.ifCond .eq 31, 3) := by decide +kernel
theorem dX4_someWay_306 : decode cX4_someWay 306 = .ok (.iconst 1, 1) := by decide +kernel
theorem dX4_someWay_307 : decode cX4_someWay 307 = .ok (.ireturn, 1) := by decide +kernel
theorem dX4_someWay_308 : decode cX4_someWay 308 = .ok (.iinc 2 1, 3) := by decide +kernel
theorem dX4_someWay_311 : decode cX4_someWay 311 = .ok (.aload_n 0, 1) := by decide +kernel
theorem dX4_someWay_312 : decode cX4_someWay 312 = .ok (.getfield 47, 3) := by decide +kernel
theorem dX4_someWay_315 : decode cX4_someWay 315 = .ok (.iload_n 2, 1) := by decide +kernel
theorem dX4_someWay_316 : decode cX4_someWay 316 = .ok (.iload 7, 2) := by decide +kernel
theorem dX4_someWay_318 : decode cX4_someWay 318 = .ok (.iastore, 1) := by decide +kernel
theorem dX4_someWay_319 : decode cX4_someWay 319 = .ok (.aload_n 0, 1) := by decide +kernel
theorem dX4_someWay_320 : decode cX4_someWay 320 = .ok (.getfield 50, 3) := by decide +kernel
theorem dX4_someWay_323 : decode cX4_someWay 323 = .ok (.iload_n 2, 1) := by decide +kernel
theorem dX4_someWay_324 : decode cX4_someWay 324 = .ok (.iload 8, 2) := by decide +kernel
theorem dX4_someWay_326 : decode cX4_someWay 326 = .ok (.iastore, 1) := by decide +kernel
theorem dX4_someWay_327 : decode cX4_someWay 327 = .ok (.aload_n 0, 1) := by decide +kernel
theorem dX4_someWay_328 : decode cX4_someWay 328 = .ok (.getfield 44, 3) := by decide +kernel
theorem dX4_someWay_331 : decode cX4_someWay 331 = .ok (.iload_n 2, 1) := by decide +kernel
theorem dX4_someWay_332 : decode cX4_someWay 332 = .ok (.iconst (-1), 1) := by decide +kernel
theorem dX4_someWay_333 : decode cX4_someWay 333 = .ok (.iastore, 1) := by decide +kernel
theorem dX4_someWay_334 : decode cX4_someWay 334 = .ok (.goto (-283), 3) := by decide +kernel
theorem dX4_someWay_337 : decode cX4_someWay 337 = .ok (.iconst 0, 1) := by decide +kernel
theorem dX4_someWay_338 : decode cX4_someWay 338 = .ok (.ireturn, 1) := by decide +kernel
theorem dX4_nextList_0 : decode cX4_nextList 0 = .ok (.iload_n 2, 1) := by decide +kernel
theorem dX4_nextList_1 : decode cX4_nextList 1 = .ok (.istore_n 3, 1) := by decide +kernel
theorem dX4_nextList_2 : decode cX4_nextList 2 = .ok (.iload_n 3, 1) := by decide +kernel
theorem dX4_nextList_3 : decode cX4_nextList 3 = .ok (.iconst 5, 1) := by decide +kernel
theorem dX4_nextList_4 : decode cX4_nextList 4 = .ok (.iload_n 1, 1) := by decide +kernel
theorem dX4_nextList_5 : decode cX4_nextList 5 = .ok (.imul, 1) := by decide +kernel
theorem dX4_nextList_6 : decode cX4_nextList 6 = .ok (.aload_n 0, 1) := by decide +kernel
theorem dX4_nextList_7 : decode cX4_nextList 7 = .ok (.getfield 16, 3) := by decide +kernel
theorem dX4_nextList_10 : decode cX4_nextList 10 = .ok (.iload_n 1, 1) := by decide +kernel
theorem dX4_nextList_11 : decode cX4_nextList 11 = .ok (.iaload, 1) := by decide +kernel
theorem dX4_nextList_12 : decode cX4_nextList 12 = .ok (.iadd, 1) := by decide +kernel
theorem dX4_nextList_13 : decode cX4_nextList 13 = .ok (.if_icmp .ge 28, 3) := by decide +kernel
theorem dX4_nextList_16 : decode cX4_nextList 16 = .ok (.aload_n 0, 1) := by decide +kernel
theorem dX4_nextList_17 : decode cX4_nextList 17 = .ok (.getfield 26, 3) := by decide +kernel
theorem dX4_nextList_20 : decode cX4_nextList 20 = .ok (.iload_n 3, 1) := by decide +kernel
theorem dX4_nextList_21 : decode cX4_nextList 21 = .ok (.baload, 1) := by decide +kernel
theorem dX4_nextList_22 : decode cX4_nextList 22 = .ok (.ifCond .eq 13, 3) := by decide +kernel
theorem dX4_nextList_25 : decode cX4_nextList 25 = .ok (.aload_n 0, 1) := by decide +kernel
theorem dX4_nextList_26 : decode cX4_nextList 26 = .ok (.iload_n 3, 1) := by decide +kernel
theorem dX4_nextList_27 : decode cX4_nextList 27 = .ok (.invokevirtual 73, 3) := by decide +kernel
theorem dX4_nextList_30 : decode cX4_nextList 30 = .ok (.ifCond .ne 5, 3) := by decide +kernel
theorem dX4_nextList_33 : decode cX4_nextList 33 = .ok (.iload_n 3, 1) := by decide +kernel
theorem dX4_nextList_34 : decode cX4_nextList 34 = .ok (.ireturn, 1) := by decide +kernel
theorem dX4_nextList_35 : decode cX4_nextList 35 = .ok (.iinc 3 1, 3) := by decide +kernel
theorem dX4_nextList_38 : decode cX4_nextList 38 = .ok (.goto (-36), 3) := by decide +kernel
theorem dX4_nextList_41 : decode cX4_nextList 41 = .ok (.iconst (-1), 1) := by decide +kernel
theorem dX4_nextList_42 : decode cX4_nextList 42 = .ok (.ireturn, 1) := by decide +kernel
theorem dX4_isLookedFor_0 : decode cX4_isLookedFor 0 = .ok (.aload_n 0, 1) := by decide +kernel
theorem dX4_isLookedFor_1 : decode cX4_isLookedFor 1 = .ok (.getfield 109, 3) := by decide +kernel
theorem dX4_isLookedFor_4 : decode cX4_isLookedFor 4 = .ok (.tableswitch 122 1 4 #[32, 45, 72, 99], 32) := by decide +kernel
theorem dX4_isLookedFor_36 : decode cX4_isLookedFor 36 = .ok (.aload_n 0, 1) := by decide +kernel
theorem dX4_isLookedFor_37 : decode cX4_isLookedFor 37 = .ok (.invokevirtual 112, 3) := by decide +kernel
theorem dX4_isLookedFor_40 : decode cX4_isLookedFor 40 = .ok (.ifCond .ne 7, 3) := by decide +kernel
theorem dX4_isLookedFor_43 : decode cX4_isLookedFor 43 = .ok (.iconst 1, 1) := by decide +kernel
theorem dX4_isLookedFor_44 : decode cX4_isLookedFor 44 = .ok (.goto 4, 3) := by decide +kernel
theorem dX4_isLookedFor_47 : decode cX4_isLookedFor 47 = .ok (.iconst 0, 1) := by decide +kernel
theorem dX4_isLookedFor_48 : decode cX4_isLookedFor 48 = .ok (.ireturn, 1) := by decide +kernel
theorem dX4_isLookedFor_49 : decode cX4_isLookedFor 49 = .ok (.aload_n 0, 1) := by decide +kernel
theorem dX4_isLookedFor_50 : decode cX4_isLookedFor 50 = .ok (.getfield 29, 3) := by decide +kernel
theorem dX4_isLookedFor_53 : decode cX4_isLookedFor 53 = .ok (.aload_n 0, 1) := by decide +kernel
theorem dX4_isLookedFor_54 : decode cX4_isLookedFor 54 = .ok (.getfield 115, 3) := by decide +kernel
theorem dX4_isLookedFor_57 : decode cX4_isLookedFor 57 = .ok (.iaload, 1) := by decide +kernel
theorem dX4_isLookedFor_58 : decode cX4_isLookedFor 58 = .ok (.aload_n 0, 1) := by decide +kernel
theorem dX4_isLookedFor_59 : decode cX4_isLookedFor 59 = .ok (.getfield 29, 3) := by decide +kernel
theorem dX4_isLookedFor_62 : decode cX4_isLookedFor 62 = .ok (.aload_n 0, 1) := by decide +kernel
theorem dX4_isLookedFor_63 : decode cX4_isLookedFor 63 = .ok (.getfield 118, 3) := by decide +kernel
theorem dX4_isLookedFor_66 : decode cX4_isLookedFor 66 = .ok (.iaload, 1) := by decide +kernel
theorem dX4_isLookedFor_67 : decode cX4_isLookedFor 67 = .ok (.if_icmp .eq 7, 3) := by decide +kernel
theorem dX4_isLookedFor_70 : decode cX4_isLookedFor 70 = .ok (.iconst 1, 1) := by decide +kernel
theorem dX4_isLookedFor_71 : decode cX4_isLookedFor 71 = .ok (.goto 4, 3) := by decide +kernel
theorem dX4_isLookedFor_74 : decode cX4_isLookedFor 74 = .ok (.iconst 0, 1) := by decide +kernel
theorem dX4_isLookedFor_75 : decode cX4_isLookedFor 75 = .ok (.ireturn, 1) := by decide +kernel
theorem dX4_isLookedFor_76 : decode cX4_isLookedFor 76 = .ok (.aload_n 0, 1) := by decide +kernel
theorem dX4_isLookedFor_77 : decode cX4_isLookedFor 77 = .ok (.getfield 29, 3) := by decide +kernel
theorem dX4_isLookedFor_80 : decode cX4_isLookedFor 80 = .ok (.aload_n 0, 1) := by decide +kernel
theorem dX4_isLookedFor_81 : decode cX4_isLookedFor 81 = .ok (.getfield 115, 3) := by decide +kernel
theorem dX4_isLookedFor_84 : decode cX4_isLookedFor 84 = .ok (.iaload, 1) := by decide +kernel
theorem dX4_isLookedFor_85 : decode cX4_isLookedFor 85 = .ok (.aload_n 0, 1) := by decide +kernel
theorem dX4_isLookedFor_86 : decode cX4_isLookedFor 86 = .ok (.getfield 29, 3) := by decide +kernel
theorem dX4_isLookedFor_89 : decode cX4_isLookedFor 89 = .ok (.aload_n 0, 1) := by decide +kernel
theorem dX4_isLookedFor_90 : decode cX4_isLookedFor 90 = .ok (.getfield 118, 3) := by decide +kernel
theorem dX4_isLookedFor_93 : decode cX4_isLookedFor 93 = .ok (.iaload, 1) := by decide +kernel
theorem dX4_isLookedFor_94 : decode cX4_isLookedFor 94 = .ok (.if_icmp .ne 7, 3) := by decide +kernel
theorem dX4_isLookedFor_97 : decode cX4_isLookedFor 97 = .ok (.iconst 1, 1) := by decide +kernel
theorem dX4_isLookedFor_98 : decode cX4_isLookedFor 98 = .ok (.goto 4, 3) := by decide +kernel
theorem dX4_isLookedFor_101 : decode cX4_isLookedFor 101 = .ok (.iconst 0, 1) := by decide +kernel
theorem dX4_isLookedFor_102 : decode cX4_isLookedFor 102 = .ok (.ireturn, 1) := by decide +kernel
theorem dX4_isLookedFor_103 : decode cX4_isLookedFor 103 = .ok (.aload_n 0, 1) := by decide +kernel
theorem dX4_isLookedFor_104 : decode cX4_isLookedFor 104 = .ok (.getfield 32, 3) := by decide +kernel
theorem dX4_isLookedFor_107 : decode cX4_isLookedFor 107 = .ok (.aload_n 0, 1) := by decide +kernel
theorem dX4_isLookedFor_108 : decode cX4_isLookedFor 108 = .ok (.getfield 29, 3) := by decide +kernel
theorem dX4_isLookedFor_111 : decode cX4_isLookedFor 111 = .ok (.aload_n 0, 1) := by decide +kernel
theorem dX4_isLookedFor_112 : decode cX4_isLookedFor 112 = .ok (.getfield 115, 3) := by decide +kernel
theorem dX4_isLookedFor_115 : decode cX4_isLookedFor 115 = .ok (.iaload, 1) := by decide +kernel
theorem dX4_isLookedFor_116 : decode cX4_isLookedFor 116 = .ok (.baload, 1) := by decide +kernel
theorem dX4_isLookedFor_117 : decode cX4_isLookedFor 117 = .ok (.ifCond .ne 7, 3) := by decide +kernel
theorem dX4_isLookedFor_120 : decode cX4_isLookedFor 120 = .ok (.iconst 1, 1) := by decide +kernel
theorem dX4_isLookedFor_121 : decode cX4_isLookedFor 121 = .ok (.goto 4, 3) := by decide +kernel
theorem dX4_isLookedFor_124 : decode cX4_isLookedFor 124 = .ok (.iconst 0, 1) := by decide +kernel
theorem dX4_isLookedFor_125 : decode cX4_isLookedFor 125 = .ok (.ireturn, 1) := by decide +kernel
theorem dX4_isLookedFor_126 : decode cX4_isLookedFor 126 = .ok (.iconst 1, 1) := by decide +kernel
theorem dX4_isLookedFor_127 : decode cX4_isLookedFor 127 = .ok (.ireturn, 1) := by decide +kernel
theorem dX4_rightTrue_0 : decode cX4_rightTrue 0 = .ok (.aload_n 0, 1) := by decide +kernel
theorem dX4_rightTrue_1 : decode cX4_rightTrue 1 = .ok (.iconst 1, 1) := by decide +kernel
theorem dX4_rightTrue_2 : decode cX4_rightTrue 2 = .ok (.invokevirtual 91, 3) := by decide +kernel
theorem dX4_rightTrue_5 : decode cX4_rightTrue 5 = .ok (.ifCond .ne 5, 3) := by decide +kernel
theorem dX4_rightTrue_8 : decode cX4_rightTrue 8 = .ok (.iconst 0, 1) := by decide +kernel
theorem dX4_rightTrue_9 : decode cX4_rightTrue 9 = .ok (.ireturn, 1) := by decide +kernel
theorem dX4_rightTrue_10 : decode cX4_rightTrue 10 = .ok (.iconst 0, 1) := by decide +kernel
theorem dX4_rightTrue_11 : decode cX4_rightTrue 11 = .ok (.istore_n 1, 1) := by decide +kernel
theorem dX4_rightTrue_12 : decode cX4_rightTrue 12 = .ok (.iload_n 1, 1) := by decide +kernel
theorem dX4_rightTrue_13 : decode cX4_rightTrue 13 = .ok (.bipush 6, 2) := by decide +kernel
theorem dX4_rightTrue_15 : decode cX4_rightTrue 15 = .ok (.if_icmp .ge 16, 3) := by decide +kernel
theorem dX4_rightTrue_18 : decode cX4_rightTrue 18 = .ok (.aload_n 0, 1) := by decide +kernel
theorem dX4_rightTrue_19 : decode cX4_rightTrue 19 = .ok (.getfield 41, 3) := by decide +kernel
theorem dX4_rightTrue_22 : decode cX4_rightTrue 22 = .ok (.iload_n 1, 1) := by decide +kernel
theorem dX4_rightTrue_23 : decode cX4_rightTrue 23 = .ok (.iconst 0, 1) := by decide +kernel
theorem dX4_rightTrue_24 : decode cX4_rightTrue 24 = .ok (.bastore, 1) := by decide +kernel
theorem dX4_rightTrue_25 : decode cX4_rightTrue 25 = .ok (.iinc 1 1, 3) := by decide +kernel
theorem dX4_rightTrue_28 : decode cX4_rightTrue 28 = .ok (.goto (-16), 3) := by decide +kernel
theorem dX4_rightTrue_31 : decode cX4_rightTrue 31 = .ok (.iconst 5, 1) := by decide +kernel
theorem dX4_rightTrue_32 : decode cX4_rightTrue 32 = .ok (.istore_n 1, 1) := by decide +kernel
theorem dX4_rightTrue_33 : decode cX4_rightTrue 33 = .ok (.iload_n 1, 1) := by decide +kernel
theorem dX4_rightTrue_34 : decode cX4_rightTrue 34 = .ok (.iconst 5, 1) := by decide +kernel
theorem dX4_rightTrue_35 : decode cX4_rightTrue 35 = .ok (.aload_n 0, 1) := by decide +kernel
theorem dX4_rightTrue_36 : decode cX4_rightTrue 36 = .ok (.getfield 16, 3) := by decide +kernel
theorem dX4_rightTrue_39 : decode cX4_rightTrue 39 = .ok (.iconst 1, 1) := by decide +kernel
theorem dX4_rightTrue_40 : decode cX4_rightTrue 40 = .ok (.iaload, 1) := by decide +kernel
theorem dX4_rightTrue_41 : decode cX4_rightTrue 41 = .ok (.iadd, 1) := by decide +kernel
theorem dX4_rightTrue_42 : decode cX4_rightTrue 42 = .ok (.if_icmp .ge 19, 3) := by decide +kernel
theorem dX4_rightTrue_45 : decode cX4_rightTrue 45 = .ok (.aload_n 0, 1) := by decide +kernel
theorem dX4_rightTrue_46 : decode cX4_rightTrue 46 = .ok (.iload_n 1, 1) := by decide +kernel
theorem dX4_rightTrue_47 : decode cX4_rightTrue 47 = .ok (.invokevirtual 103, 3) := by decide +kernel
theorem dX4_rightTrue_50 : decode cX4_rightTrue 50 = .ok (.ifCond .ne 5, 3) := by decide +kernel
theorem dX4_rightTrue_53 : decode cX4_rightTrue 53 = .ok (.iconst 0, 1) := by decide +kernel
theorem dX4_rightTrue_54 : decode cX4_rightTrue 54 = .ok (.ireturn, 1) := by decide +kernel
theorem dX4_rightTrue_55 : decode cX4_rightTrue 55 = .ok (.iinc 1 1, 3) := by decide +kernel
theorem dX4_rightTrue_58 : decode cX4_rightTrue 58 = .ok (.goto (-25), 3) := by decide +kernel
theorem dX4_rightTrue_61 : decode cX4_rightTrue 61 = .ok (.iconst 0, 1) := by decide +kernel
theorem dX4_rightTrue_62 : decode cX4_rightTrue 62 = .ok (.istore_n 1, 1) := by decide +kernel
theorem dX4_rightTrue_63 : decode cX4_rightTrue 63 = .ok (.iload_n 1, 1) := by decide +kernel
theorem dX4_rightTrue_64 : decode cX4_rightTrue 64 = .ok (.aload_n 0, 1) := by decide +kernel
theorem dX4_rightTrue_65 : decode cX4_rightTrue 65 = .ok (.getfield 16, 3) := by decide +kernel
theorem dX4_rightTrue_68 : decode cX4_rightTrue 68 = .ok (.iconst 0, 1) := by decide +kernel
theorem dX4_rightTrue_69 : decode cX4_rightTrue 69 = .ok (.iaload, 1) := by decide +kernel
theorem dX4_rightTrue_70 : decode cX4_rightTrue 70 = .ok (.if_icmp .ge 31, 3) := by decide +kernel
theorem dX4_rightTrue_73 : decode cX4_rightTrue 73 = .ok (.aload_n 0, 1) := by decide +kernel
theorem dX4_rightTrue_74 : decode cX4_rightTrue 74 = .ok (.getfield 106, 3) := by decide +kernel
theorem dX4_rightTrue_77 : decode cX4_rightTrue 77 = .ok (.iload_n 1, 1) := by decide +kernel
theorem dX4_rightTrue_78 : decode cX4_rightTrue 78 = .ok (.ishr, 1) := by decide +kernel
theorem dX4_rightTrue_79 : decode cX4_rightTrue 79 = .ok (.iconst 1, 1) := by decide +kernel
theorem dX4_rightTrue_80 : decode cX4_rightTrue 80 = .ok (.iand, 1) := by decide +kernel
theorem dX4_rightTrue_81 : decode cX4_rightTrue 81 = .ok (.iconst 1, 1) := by decide +kernel
theorem dX4_rightTrue_82 : decode cX4_rightTrue 82 = .ok (.if_icmp .ne 13, 3) := by decide +kernel
theorem dX4_rightTrue_85 : decode cX4_rightTrue 85 = .ok (.aload_n 0, 1) := by decide +kernel
theorem dX4_rightTrue_86 : decode cX4_rightTrue 86 = .ok (.iload_n 1, 1) := by decide +kernel
theorem dX4_rightTrue_87 : decode cX4_rightTrue 87 = .ok (.invokevirtual 103, 3) := by decide +kernel
theorem dX4_rightTrue_90 : decode cX4_rightTrue 90 = .ok (.ifCond .ne 5, 3) := by decide +kernel
theorem dX4_rightTrue_93 : decode cX4_rightTrue 93 = .ok (.iconst 0, 1) := by decide +kernel
theorem dX4_rightTrue_94 : decode cX4_rightTrue 94 = .ok (.ireturn, 1) := by decide +kernel
theorem dX4_rightTrue_95 : decode cX4_rightTrue 95 = .ok (.iinc 1 1, 3) := by decide +kernel
theorem dX4_rightTrue_98 : decode cX4_rightTrue 98 = .ok (.goto (-35), 3) := by decide +kernel
theorem dX4_rightTrue_101 : decode cX4_rightTrue 101 = .ok (.iconst 0, 1) := by decide +kernel
theorem dX4_rightTrue_102 : decode cX4_rightTrue 102 = .ok (.istore_n 1, 1) := by decide +kernel
theorem dX4_rightTrue_103 : decode cX4_rightTrue 103 = .ok (.iload_n 1, 1) := by decide +kernel
theorem dX4_rightTrue_104 : decode cX4_rightTrue 104 = .ok (.bipush 6, 2) := by decide +kernel
theorem dX4_rightTrue_106 : decode cX4_rightTrue 106 = .ok (.if_icmp .ge 29, 3) := by decide +kernel
theorem dX4_rightTrue_109 : decode cX4_rightTrue 109 = .ok (.aload_n 0, 1) := by decide +kernel
theorem dX4_rightTrue_110 : decode cX4_rightTrue 110 = .ok (.getfield 32, 3) := by decide +kernel
theorem dX4_rightTrue_113 : decode cX4_rightTrue 113 = .ok (.iload_n 1, 1) := by decide +kernel
theorem dX4_rightTrue_114 : decode cX4_rightTrue 114 = .ok (.baload, 1) := by decide +kernel
theorem dX4_rightTrue_115 : decode cX4_rightTrue 115 = .ok (.ifCond .eq 14, 3) := by decide +kernel
theorem dX4_rightTrue_118 : decode cX4_rightTrue 118 = .ok (.aload_n 0, 1) := by decide +kernel
theorem dX4_rightTrue_119 : decode cX4_rightTrue 119 = .ok (.getfield 41, 3) := by decide +kernel
theorem dX4_rightTrue_122 : decode cX4_rightTrue 122 = .ok (.iload_n 1, 1) := by decide +kernel
theorem dX4_rightTrue_123 : decode cX4_rightTrue 123 = .ok (.baload, 1) := by decide +kernel
theorem dX4_rightTrue_124 : decode cX4_rightTrue 124 = .ok (.ifCond .ne 5, 3) := by decide +kernel
theorem dX4_rightTrue_127 : decode cX4_rightTrue 127 = .ok (.iconst 0, 1) := by decide +kernel
theorem dX4_rightTrue_128 : decode cX4_rightTrue 128 = .ok (.ireturn, 1) := by decide +kernel
theorem dX4_rightTrue_129 : decode cX4_rightTrue 129 = .ok (.iinc 1 1, 3) := by decide +kernel
theorem dX4_rightTrue_132 : decode cX4_rightTrue 132 = .ok (.goto (-29), 3) := by decide +kernel
theorem dX4_rightTrue_135 : decode cX4_rightTrue 135 = .ok (.iconst 1, 1) := by decide +kernel
theorem dX4_rightTrue_136 : decode cX4_rightTrue 136 = .ok (.ireturn, 1) := by decide +kernel
end
section
/-! decoded instructions -/
theorem dX4_takes_0 : decode cX4_takes 0 = .ok (.aload_n 0, 1) := by decide +kernel
theorem dX4_takes_1 : decode cX4_takes 1 = .ok (.getfield 29, 3) := by decide +kernel
theorem dX4_takes_4 : decode cX4_takes 4 = .ok (.aload_n 0, 1) := by decide +kernel
theorem dX4_takes_5 : decode cX4_takes 5 = .ok (.getfield 20, 3) := by decide +kernel
theorem dX4_takes_8 : decode cX4_takes 8 = .ok (.iload_n 1, 1) := by decide +kernel
theorem dX4_takes_9 : decode cX4_takes 9 = .ok (.iaload, 1) := by decide +kernel
theorem dX4_takes_10 : decode cX4_takes 10 = .ok (.iaload, 1) := by decide +kernel
theorem dX4_takes_11 : decode cX4_takes 11 = .ok (.istore_n 2, 1) := by decide +kernel
theorem dX4_takes_12 : decode cX4_takes 12 = .ok (.aload_n 0, 1) := by decide +kernel
theorem dX4_takes_13 : decode cX4_takes 13 = .ok (.getfield 29, 3) := by decide +kernel
theorem dX4_takes_16 : decode cX4_takes 16 = .ok (.aload_n 0, 1) := by decide +kernel
theorem dX4_takes_17 : decode cX4_takes 17 = .ok (.getfield 23, 3) := by decide +kernel
theorem dX4_takes_20 : decode cX4_takes 20 = .ok (.iload_n 1, 1) := by decide +kernel
theorem dX4_takes_21 : decode cX4_takes 21 = .ok (.iaload, 1) := by decide +kernel
theorem dX4_takes_22 : decode cX4_takes 22 = .ok (.iaload, 1) := by decide +kernel
theorem dX4_takes_23 : decode cX4_takes 23 = .ok (.istore_n 3, 1) := by decide +kernel
theorem dX4_takes_24 : decode cX4_takes 24 = .ok (.aload_n 0, 1) := by decide +kernel
theorem dX4_takes_25 : decode cX4_takes 25 = .ok (.getfield 26, 3) := by decide +kernel
theorem dX4_takes_28 : decode cX4_takes 28 = .ok (.iload_n 1, 1) := by decide +kernel
theorem dX4_takes_29 : decode cX4_takes 29 = .ok (.baload, 1) := by decide +kernel
theorem dX4_takes_30 : decode cX4_takes 30 = .ok (.ifCond .ne 51, 3) := by decide +kernel
theorem dX4_takes_33 : decode cX4_takes 33 = .ok (.aload_n 0, 1) := by decide +kernel
theorem dX4_takes_34 : decode cX4_takes 34 = .ok (.getfield 32, 3) := by decide +kernel
theorem dX4_takes_37 : decode cX4_takes 37 = .ok (.iload_n 2, 1) := by decide +kernel
theorem dX4_takes_38 : decode cX4_takes 38 = .ok (.baload, 1) := by decide +kernel
theorem dX4_takes_39 : decode cX4_takes 39 = .ok (.ifCond .eq 31, 3) := by decide +kernel
theorem dX4_takes_42 : decode cX4_takes 42 = .ok (.aload_n 0, 1) := by decide +kernel
theorem dX4_takes_43 : decode cX4_takes 43 = .ok (.getfield 41, 3) := by decide +kernel
theorem dX4_takes_46 : decode cX4_takes 46 = .ok (.iload_n 2, 1) := by decide +kernel
theorem dX4_takes_47 : decode cX4_takes 47 = .ok (.baload, 1) := by decide +kernel
theorem dX4_takes_48 : decode cX4_takes 48 = .ok (.ifCond .ne 22, 3) := by decide +kernel
theorem dX4_takes_51 : decode cX4_takes 51 = .ok (.aload_n 0, 1) := by decide +kernel
theorem dX4_takes_52 : decode cX4_takes 52 = .ok (.getfield 38, 3) := by decide +kernel
theorem dX4_takes_55 : decode cX4_takes 55 = .ok (.iload_n 2, 1) := by decide +kernel
theorem dX4_takes_56 : decode cX4_takes 56 = .ok (.baload, 1) := by decide +kernel
theorem dX4_takes_57 : decode cX4_takes 57 = .ok (.ifCond .ne 13, 3) := by decide +kernel
theorem dX4_takes_60 : decode cX4_takes 60 = .ok (.aload_n 0, 1) := by decide +kernel
theorem dX4_takes_61 : decode cX4_takes 61 = .ok (.getfield 35, 3) := by decide +kernel
theorem dX4_takes_64 : decode cX4_takes 64 = .ok (.iload_n 2, 1) := by decide +kernel
theorem dX4_takes_65 : decode cX4_takes 65 = .ok (.iaload, 1) := by decide +kernel
theorem dX4_takes_66 : decode cX4_takes 66 = .ok (.iload_n 3, 1) := by decide +kernel
theorem dX4_takes_67 : decode cX4_takes 67 = .ok (.if_icmp .eq 5, 3) := by decide +kernel
theorem dX4_takes_70 : decode cX4_takes 70 = .ok (.iconst 0, 1) := by decide +kernel
theorem dX4_takes_71 : decode cX4_takes 71 = .ok (.ireturn, 1) := by decide +kernel
theorem dX4_takes_72 : decode cX4_takes 72 = .ok (.aload_n 0, 1) := by decide +kernel
theorem dX4_takes_73 : decode cX4_takes 73 = .ok (.getfield 41, 3) := by decide +kernel
theorem dX4_takes_76 : decode cX4_takes 76 = .ok (.iload_n 2, 1) := by decide +kernel
theorem dX4_takes_77 : decode cX4_takes 77 = .ok (.iconst 1, 1) := by decide +kernel
theorem dX4_takes_78 : decode cX4_takes 78 = .ok (.bastore, 1) := by decide +kernel
theorem dX4_takes_79 : decode cX4_takes 79 = .ok (.iconst 1, 1) := by decide +kernel
theorem dX4_takes_80 : decode cX4_takes 80 = .ok (.ireturn, 1) := by decide +kernel
theorem dX4_takes_81 : decode cX4_takes 81 = .ok (.iload_n 2, 1) := by decide +kernel
theorem dX4_takes_82 : decode cX4_takes 82 = .ok (.iload_n 3, 1) := by decide +kernel
theorem dX4_takes_83 : decode cX4_takes 83 = .ok (.if_icmp .eq 40, 3) := by decide +kernel
theorem dX4_takes_86 : decode cX4_takes 86 = .ok (.aload_n 0, 1) := by decide +kernel
theorem dX4_takes_87 : decode cX4_takes 87 = .ok (.getfield 32, 3) := by decide +kernel
theorem dX4_takes_90 : decode cX4_takes 90 = .ok (.iload_n 2, 1) := by decide +kernel
theorem dX4_takes_91 : decode cX4_takes 91 = .ok (.baload, 1) := by decide +kernel
theorem dX4_takes_92 : decode cX4_takes 92 = .ok (.ifCond .eq 12, 3) := by decide +kernel
theorem dX4_takes_95 : decode cX4_takes 95 = .ok (.aload_n 0, 1) := by decide +kernel
theorem dX4_takes_96 : decode cX4_takes 96 = .ok (.getfield 41, 3) := by decide +kernel
theorem dX4_takes_99 : decode cX4_takes 99 = .ok (.iload_n 2, 1) := by decide +kernel
theorem dX4_takes_100 : decode cX4_takes 100 = .ok (.baload, 1) := by decide +kernel
theorem dX4_takes_101 : decode cX4_takes 101 = .ok (.ifCond .eq 5, 3) := by decide +kernel
theorem dX4_takes_104 : decode cX4_takes 104 = .ok (.iconst 0, 1) := by decide +kernel
theorem dX4_takes_105 : decode cX4_takes 105 = .ok (.ireturn, 1) := by decide +kernel
theorem dX4_takes_106 : decode cX4_takes 106 = .ok (.aload_n 0, 1) := by decide +kernel
theorem dX4_takes_107 : decode cX4_takes 107 = .ok (.getfield 41, 3) := by decide +kernel
theorem dX4_takes_110 : decode cX4_takes 110 = .ok (.iload_n 2, 1) := by decide +kernel
theorem dX4_takes_111 : decode cX4_takes 111 = .ok (.iconst 1, 1) := by decide +kernel
theorem dX4_takes_112 : decode cX4_takes 112 = .ok (.bastore, 1) := by decide +kernel
theorem dX4_takes_113 : decode cX4_takes 113 = .ok (.aload_n 0, 1) := by decide +kernel
theorem dX4_takes_114 : decode cX4_takes 114 = .ok (.getfield 35, 3) := by decide +kernel
theorem dX4_takes_117 : decode cX4_takes 117 = .ok (.iload_n 2, 1) := by decide +kernel
theorem dX4_takes_118 : decode cX4_takes 118 = .ok (.iaload, 1) := by decide +kernel
theorem dX4_takes_119 : decode cX4_takes 119 = .ok (.istore_n 2, 1) := by decide +kernel
theorem dX4_takes_120 : decode cX4_takes 120 = .ok (.goto (-39), 3) := by decide +kernel
theorem dX4_takes_123 : decode cX4_takes 123 = .ok (.iconst 1, 1) := by decide +kernel
theorem dX4_takes_124 : decode cX4_takes 124 = .ok (.ireturn, 1) := by decide +kernel
theorem dX4_isFree_0 : decode cX4_isFree 0 = .ok (.aload_n 0, 1) := by decide +kernel
theorem dX4_isFree_1 : decode cX4_isFree 1 = .ok (.iload_n 1, 1) := by decide +kernel
theorem dX4_isFree_2 : decode cX4_isFree 2 = .ok (.invokevirtual 88, 3) := by decide +kernel
theorem dX4_isFree_5 : decode cX4_isFree 5 = .ok (.ifCond .eq 31, 3) := by decide +kernel
theorem dX4_isFree_8 : decode cX4_isFree 8 = .ok (.iload_n 1, 1) := by decide +kernel
theorem dX4_isFree_9 : decode cX4_isFree 9 = .ok (.iload_n 2, 1) := by decide +kernel
theorem dX4_isFree_10 : decode cX4_isFree 10 = .ok (.if_icmp .eq 26, 3) := by decide +kernel
theorem dX4_isFree_13 : decode cX4_isFree 13 = .ok (.iload_n 1, 1) := by decide +kernel
theorem dX4_isFree_14 : decode cX4_isFree 14 = .ok (.aload_n 0, 1) := by decide +kernel
theorem dX4_isFree_15 : decode cX4_isFree 15 = .ok (.getfield 29, 3) := by decide +kernel
theorem dX4_isFree_18 : decode cX4_isFree 18 = .ok (.iconst 5, 1) := by decide +kernel
theorem dX4_isFree_19 : decode cX4_isFree 19 = .ok (.iaload, 1) := by decide +kernel
theorem dX4_isFree_20 : decode cX4_isFree 20 = .ok (.if_icmp .eq 16, 3) := by decide +kernel
theorem dX4_isFree_23 : decode cX4_isFree 23 = .ok (.aload_n 0, 1) := by decide +kernel
theorem dX4_isFree_24 : decode cX4_isFree 24 = .ok (.getfield 32, 3) := by decide +kernel
theorem dX4_isFree_27 : decode cX4_isFree 27 = .ok (.iload_n 1, 1) := by decide +kernel
theorem dX4_isFree_28 : decode cX4_isFree 28 = .ok (.baload, 1) := by decide +kernel
theorem dX4_isFree_29 : decode cX4_isFree 29 = .ok (.ifCond .ne 7, 3) := by decide +kernel
theorem dX4_isFree_32 : decode cX4_isFree 32 = .ok (.iconst 1, 1) := by decide +kernel
theorem dX4_isFree_33 : decode cX4_isFree 33 = .ok (.goto 4, 3) := by decide +kernel
theorem dX4_isFree_36 : decode cX4_isFree 36 = .ok (.iconst 0, 1) := by decide +kernel
theorem dX4_isFree_37 : decode cX4_isFree 37 = .ok (.ireturn, 1) := by decide +kernel
theorem dX4_isGroup_0 : decode cX4_isGroup 0 = .ok (.iconst 0, 1) := by decide +kernel
theorem dX4_isGroup_1 : decode cX4_isGroup 1 = .ok (.istore_n 2, 1) := by decide +kernel
theorem dX4_isGroup_2 : decode cX4_isGroup 2 = .ok (.iconst 0, 1) := by decide +kernel
theorem dX4_isGroup_3 : decode cX4_isGroup 3 = .ok (.istore_n 3, 1) := by decide +kernel
theorem dX4_isGroup_4 : decode cX4_isGroup 4 = .ok (.iload_n 3, 1) := by decide +kernel
theorem dX4_isGroup_5 : decode cX4_isGroup 5 = .ok (.bipush 6, 2) := by decide +kernel
theorem dX4_isGroup_7 : decode cX4_isGroup 7 = .ok (.if_icmp .ge 29, 3) := by decide +kernel
theorem dX4_isGroup_10 : decode cX4_isGroup 10 = .ok (.iload_n 2, 1) := by decide +kernel
theorem dX4_isGroup_11 : decode cX4_isGroup 11 = .ok (.ifCond .ne 13, 3) := by decide +kernel
theorem dX4_isGroup_14 : decode cX4_isGroup 14 = .ok (.aload_n 0, 1) := by decide +kernel
theorem dX4_isGroup_15 : decode cX4_isGroup 15 = .ok (.getfield 29, 3) := by decide +kernel
theorem dX4_isGroup_18 : decode cX4_isGroup 18 = .ok (.iload_n 3, 1) := by decide +kernel
theorem dX4_isGroup_19 : decode cX4_isGroup 19 = .ok (.iaload, 1) := by decide +kernel
theorem dX4_isGroup_20 : decode cX4_isGroup 20 = .ok (.iload_n 1, 1) := by decide +kernel
theorem dX4_isGroup_21 : decode cX4_isGroup 21 = .ok (.if_icmp .ne 7, 3) := by decide +kernel
theorem dX4_isGroup_24 : decode cX4_isGroup 24 = .ok (.iconst 1, 1) := by decide +kernel
theorem dX4_isGroup_25 : decode cX4_isGroup 25 = .ok (.goto 4, 3) := by decide +kernel
theorem dX4_isGroup_28 : decode cX4_isGroup 28 = .ok (.iconst 0, 1) := by decide +kernel
theorem dX4_isGroup_29 : decode cX4_isGroup 29 = .ok (.istore_n 2, 1) := by decide +kernel
theorem dX4_isGroup_30 : decode cX4_isGroup 30 = .ok (.iinc 3 1, 3) := by decide +kernel
theorem dX4_isGroup_33 : decode cX4_isGroup 33 = .ok (.goto (-29), 3) := by decide +kernel
theorem dX4_isGroup_36 : decode cX4_isGroup 36 = .ok (.iload_n 2, 1) := by decide +kernel
theorem dX4_isGroup_37 : decode cX4_isGroup 37 = .ok (.ireturn, 1) := by decide +kernel
theorem dX4_nextGroups_0 : decode cX4_nextGroups 0 = .ok (.iconst 5, 1) := by decide +kernel
theorem dX4_nextGroups_1 : decode cX4_nextGroups 1 = .ok (.istore_n 1, 1) := by decide +kernel
theorem dX4_nextGroups_2 : decode cX4_nextGroups 2 = .ok (.iload_n 1, 1) := by decide +kernel
theorem dX4_nextGroups_3 : decode cX4_nextGroups 3 = .ok (.ifCond .le 90, 3) := by decide +kernel
theorem dX4_nextGroups_6 : decode cX4_nextGroups 6 = .ok (.iconst 0, 1) := by decide +kernel
theorem dX4_nextGroups_7 : decode cX4_nextGroups 7 = .ok (.istore_n 2, 1) := by decide +kernel
theorem dX4_nextGroups_8 : decode cX4_nextGroups 8 = .ok (.iconst 0, 1) := by decide +kernel
theorem dX4_nextGroups_9 : decode cX4_nextGroups 9 = .ok (.istore_n 3, 1) := by decide +kernel
theorem dX4_nextGroups_10 : decode cX4_nextGroups 10 = .ok (.iload_n 3, 1) := by decide +kernel
theorem dX4_nextGroups_11 : decode cX4_nextGroups 11 = .ok (.iload_n 1, 1) := by decide +kernel
theorem dX4_nextGroups_12 : decode cX4_nextGroups 12 = .ok (.if_icmp .ge 30, 3) := by decide +kernel
theorem dX4_nextGroups_15 : decode cX4_nextGroups 15 = .ok (.aload_n 0, 1) := by decide +kernel
theorem dX4_nextGroups_16 : decode cX4_nextGroups 16 = .ok (.getfield 29, 3) := by decide +kernel
theorem dX4_nextGroups_19 : decode cX4_nextGroups 19 = .ok (.iload_n 3, 1) := by decide +kernel
theorem dX4_nextGroups_20 : decode cX4_nextGroups 20 = .ok (.iaload, 1) := by decide +kernel
theorem dX4_nextGroups_21 : decode cX4_nextGroups 21 = .ok (.iload_n 2, 1) := by decide +kernel
theorem dX4_nextGroups_22 : decode cX4_nextGroups 22 = .ok (.if_icmp .le 12, 3) := by decide +kernel
theorem dX4_nextGroups_25 : decode cX4_nextGroups 25 = .ok (.aload_n 0, 1) := by decide +kernel
theorem dX4_nextGroups_26 : decode cX4_nextGroups 26 = .ok (.getfield 29, 3) := by decide +kernel
theorem dX4_nextGroups_29 : decode cX4_nextGroups 29 = .ok (.iload_n 3, 1) := by decide +kernel
theorem dX4_nextGroups_30 : decode cX4_nextGroups 30 = .ok (.iaload, 1) := by decide +kernel
theorem dX4_nextGroups_31 : decode cX4_nextGroups 31 = .ok (.goto 4, 3) := by decide +kernel
theorem dX4_nextGroups_34 : decode cX4_nextGroups 34 = .ok (.iload_n 2, 1) := by decide +kernel
theorem dX4_nextGroups_35 : decode cX4_nextGroups 35 = .ok (.istore_n 2, 1) := by decide +kernel
theorem dX4_nextGroups_36 : decode cX4_nextGroups 36 = .ok (.iinc 3 1, 3) := by decide +kernel
theorem dX4_nextGroups_39 : decode cX4_nextGroups 39 = .ok (.goto (-29), 3) := by decide +kernel
theorem dX4_nextGroups_42 : decode cX4_nextGroups 42 = .ok (.aload_n 0, 1) := by decide +kernel
theorem dX4_nextGroups_43 : decode cX4_nextGroups 43 = .ok (.getfield 29, 3) := by decide +kernel
theorem dX4_nextGroups_46 : decode cX4_nextGroups 46 = .ok (.iload_n 1, 1) := by decide +kernel
theorem dX4_nextGroups_47 : decode cX4_nextGroups 47 = .ok (.iaload, 1) := by decide +kernel
theorem dX4_nextGroups_48 : decode cX4_nextGroups 48 = .ok (.iload_n 2, 1) := by decide +kernel
theorem dX4_nextGroups_49 : decode cX4_nextGroups 49 = .ok (.if_icmp .gt 38, 3) := by decide +kernel
theorem dX4_nextGroups_52 : decode cX4_nextGroups 52 = .ok (.aload_n 0, 1) := by decide +kernel
theorem dX4_nextGroups_53 : decode cX4_nextGroups 53 = .ok (.getfield 29, 3) := by decide +kernel
theorem dX4_nextGroups_56 : decode cX4_nextGroups 56 = .ok (.iload_n 1, 1) := by decide +kernel
theorem dX4_nextGroups_57 : decode cX4_nextGroups 57 = .ok (.dup2, 1) := by decide +kernel
theorem dX4_nextGroups_58 : decode cX4_nextGroups 58 = .ok (.iaload, 1) := by decide +kernel
theorem dX4_nextGroups_59 : decode cX4_nextGroups 59 = .ok (.iconst 1, 1) := by decide +kernel
theorem dX4_nextGroups_60 : decode cX4_nextGroups 60 = .ok (.iadd, 1) := by decide +kernel
theorem dX4_nextGroups_61 : decode cX4_nextGroups 61 = .ok (.iastore, 1) := by decide +kernel
theorem dX4_nextGroups_62 : decode cX4_nextGroups 62 = .ok (.iload_n 1, 1) := by decide +kernel
theorem dX4_nextGroups_63 : decode cX4_nextGroups 63 = .ok (.iconst 1, 1) := by decide +kernel
theorem dX4_nextGroups_64 : decode cX4_nextGroups 64 = .ok (.iadd, 1) := by decide +kernel
theorem dX4_nextGroups_65 : decode cX4_nextGroups 65 = .ok (.istore_n 3, 1) := by decide +kernel
theorem dX4_nextGroups_66 : decode cX4_nextGroups 66 = .ok (.iload_n 3, 1) := by decide +kernel
theorem dX4_nextGroups_67 : decode cX4_nextGroups 67 = .ok (.bipush 6, 2) := by decide +kernel
theorem dX4_nextGroups_69 : decode cX4_nextGroups 69 = .ok (.if_icmp .ge 16, 3) := by decide +kernel
theorem dX4_nextGroups_72 : decode cX4_nextGroups 72 = .ok (.aload_n 0, 1) := by decide +kernel
theorem dX4_nextGroups_73 : decode cX4_nextGroups 73 = .ok (.getfield 29, 3) := by decide +kernel
theorem dX4_nextGroups_76 : decode cX4_nextGroups 76 = .ok (.iload_n 3, 1) := by decide +kernel
theorem dX4_nextGroups_77 : decode cX4_nextGroups 77 = .ok (.iconst 0, 1) := by decide +kernel
theorem dX4_nextGroups_78 : decode cX4_nextGroups 78 = .ok (.iastore, 1) := by decide +kernel
theorem dX4_nextGroups_79 : decode cX4_nextGroups 79 = .ok (.iinc 3 1, 3) := by decide +kernel
theorem dX4_nextGroups_82 : decode cX4_nextGroups 82 = .ok (.goto (-16), 3) := by decide +kernel
theorem dX4_nextGroups_85 : decode cX4_nextGroups 85 = .ok (.iconst 1, 1) := by decide +kernel
theorem dX4_nextGroups_86 : decode cX4_nextGroups 86 = .ok (.ireturn, 1) := by decide +kernel
theorem dX4_nextGroups_87 : decode cX4_nextGroups 87 = .ok (.iinc 1 (-1), 3) := by decide +kernel
theorem dX4_nextGroups_90 : decode cX4_nextGroups 90 = .ok (.goto (-88), 3) := by decide +kernel
theorem dX4_nextGroups_93 : decode cX4_nextGroups 93 = .ok (.iconst 0, 1) := by decide +kernel
theorem dX4_nextGroups_94 : decode cX4_nextGroups 94 = .ok (.ireturn, 1) := by decide +kernel
theorem dX4_implies_0 : decode cX4_implies 0 = .ok (.aload_n 0, 1) := by decide +kernel
theorem dX4_implies_1 : decode cX4_implies 1 = .ok (.iconst 0, 1) := by decide +kernel
theorem dX4_implies_2 : decode cX4_implies 2 = .ok (.putfield 62, 3) := by decide +kernel
theorem dX4_implies_5 : decode cX4_implies 5 = .ok (.aload_n 0, 1) := by decide +kernel
theorem dX4_implies_6 : decode cX4_implies 6 = .ok (.iconst 1, 1) := by decide +kernel
theorem dX4_implies_7 : decode cX4_implies 7 = .ok (.putfield 109, 3) := by decide +kernel
theorem dX4_implies_10 : decode cX4_implies 10 = .ok (.aload_n 0, 1) := by decide +kernel
theorem dX4_implies_11 : decode cX4_implies 11 = .ok (.iconst 0, 1) := by decide +kernel
theorem dX4_implies_12 : decode cX4_implies 12 = .ok (.putfield 106, 3) := by decide +kernel
theorem dX4_implies_15 : decode cX4_implies 15 = .ok (.aload_n 0, 1) := by decide +kernel
theorem dX4_implies_16 : decode cX4_implies 16 = .ok (.iconst 0, 1) := by decide +kernel
theorem dX4_implies_17 : decode cX4_implies 17 = .ok (.invokevirtual 121, 3) := by decide +kernel
theorem dX4_implies_20 : decode cX4_implies 20 = .ok (.ifCond .ne 7, 3) := by decide +kernel
theorem dX4_implies_23 : decode cX4_implies 23 = .ok (.iconst 1, 1) := by decide +kernel
theorem dX4_implies_24 : decode cX4_implies 24 = .ok (.goto 4, 3) := by decide +kernel
theorem dX4_implies_27 : decode cX4_implies 27 = .ok (.iconst 0, 1) := by decide +kernel
theorem dX4_implies_28 : decode cX4_implies 28 = .ok (.ireturn, 1) := by decide +kernel
theorem dX4_sure_0 : decode cX4_sure 0 = .ok (.aload_n 0, 1) := by decide +kernel
theorem dX4_sure_1 : decode cX4_sure 1 = .ok (.iload_n 2, 1) := by decide +kernel
theorem dX4_sure_2 : decode cX4_sure 2 = .ok (.invokestatic 70, 3) := by decide +kernel
theorem dX4_sure_5 : decode cX4_sure 5 = .ok (.ifCond .ne 10, 3) := by decide +kernel
theorem dX4_sure_8 : decode cX4_sure 8 = .ok (.iload_n 3, 1) := by decide +kernel
theorem dX4_sure_9 : decode cX4_sure 9 = .ok (.invokestatic 70, 3) := by decide +kernel
theorem dX4_sure_12 : decode cX4_sure 12 = .ok (.ifCond .eq 7, 3) := by decide +kernel
theorem dX4_sure_15 : decode cX4_sure 15 = .ok (.iconst 1, 1) := by decide +kernel
theorem dX4_sure_16 : decode cX4_sure 16 = .ok (.goto 17, 3) := by decide +kernel
theorem dX4_sure_19 : decode cX4_sure 19 = .ok (.iload_n 1, 1) := by decide +kernel
theorem dX4_sure_20 : decode cX4_sure 20 = .ok (.ifCond .lt 8, 3) := by decide +kernel
theorem dX4_sure_23 : decode cX4_sure 23 = .ok (.iload_n 1, 1) := by decide +kernel
theorem dX4_sure_24 : decode cX4_sure 24 = .ok (.iconst 2, 1) := by decide +kernel
theorem dX4_sure_25 : decode cX4_sure 25 = .ok (.if_icmp .le 7, 3) := by decide +kernel
theorem dX4_sure_28 : decode cX4_sure 28 = .ok (.iconst 2, 1) := by decide +kernel
theorem dX4_sure_29 : decode cX4_sure 29 = .ok (.goto 4, 3) := by decide +kernel
theorem dX4_sure_32 : decode cX4_sure 32 = .ok (.iconst 0, 1) := by decide +kernel
theorem dX4_sure_33 : decode cX4_sure 33 = .ok (.putfield 62, 3) := by decide +kernel
theorem dX4_sure_36 : decode cX4_sure 36 = .ok (.aload_n 0, 1) := by decide +kernel
theorem dX4_sure_37 : decode cX4_sure 37 = .ok (.getfield 62, 3) := by decide +kernel
theorem dX4_sure_40 : decode cX4_sure 40 = .ok (.ifCond .le 5, 3) := by decide +kernel
theorem dX4_sure_43 : decode cX4_sure 43 = .ok (.iconst 0, 1) := by decide +kernel
theorem dX4_sure_44 : decode cX4_sure 44 = .ok (.ireturn, 1) := by decide +kernel
theorem dX4_sure_45 : decode cX4_sure 45 = .ok (.aload_n 0, 1) := by decide +kernel
theorem dX4_sure_46 : decode cX4_sure 46 = .ok (.iload_n 1, 1) := by decide +kernel
theorem dX4_sure_47 : decode cX4_sure 47 = .ok (.iconst 2, 1) := by decide +kernel
theorem dX4_sure_48 : decode cX4_sure 48 = .ok (.iadd, 1) := by decide +kernel
theorem dX4_sure_49 : decode cX4_sure 49 = .ok (.putfield 109, 3) := by decide +kernel
theorem dX4_sure_52 : decode cX4_sure 52 = .ok (.aload_n 0, 1) := by decide +kernel
theorem dX4_sure_53 : decode cX4_sure 53 = .ok (.iload_n 2, 1) := by decide +kernel
theorem dX4_sure_54 : decode cX4_sure 54 = .ok (.putfield 115, 3) := by decide +kernel
theorem dX4_sure_57 : decode cX4_sure 57 = .ok (.aload_n 0, 1) := by decide +kernel
theorem dX4_sure_58 : decode cX4_sure 58 = .ok (.iload_n 3, 1) := by decide +kernel
theorem dX4_sure_59 : decode cX4_sure 59 = .ok (.putfield 118, 3) := by decide +kernel
theorem dX4_sure_62 : decode cX4_sure 62 = .ok (.aload_n 0, 1) := by decide +kernel
theorem dX4_sure_63 : decode cX4_sure 63 = .ok (.iconst 0, 1) := by decide +kernel
theorem dX4_sure_64 : decode cX4_sure 64 = .ok (.invokevirtual 121, 3) := by decide +kernel
theorem dX4_sure_67 : decode cX4_sure 67 = .ok (.ifCond .ne 7, 3) := by decide +kernel
theorem dX4_sure_70 : decode cX4_sure 70 = .ok (.iconst 1, 1) := by decide +kernel
theorem dX4_sure_71 : decode cX4_sure 71 = .ok (.goto 4, 3) := by decide +kernel
theorem dX4_sure_74 : decode cX4_sure 74 = .ok (.iconst 0, 1) := by decide +kernel
theorem dX4_sure_75 : decode cX4_sure 75 = .ok (.ireturn, 1) := by decide +kernel
theorem dX4_frame_0 : decode cX4_frame 0 = .ok (.aload_n 0, 1) := by decide +kernel
theorem dX4_frame_1 : decode cX4_frame 1 = .ok (.iconst 0, 1) := by decide +kernel
theorem dX4_frame_2 : decode cX4_frame 2 = .ok (.putfield 62, 3) := by decide +kernel
theorem dX4_frame_5 : decode cX4_frame 5 = .ok (.aload_n 0, 1) := by decide +kernel
theorem dX4_frame_6 : decode cX4_frame 6 = .ok (.iconst 1, 1) := by decide +kernel
theorem dX4_frame_7 : decode cX4_frame 7 = .ok (.putfield 109, 3) := by decide +kernel
theorem dX4_frame_10 : decode cX4_frame 10 = .ok (.iconst 0, 1) := by decide +kernel
theorem dX4_frame_11 : decode cX4_frame 11 = .ok (.istore_n 1, 1) := by decide +kernel
theorem dX4_frame_12 : decode cX4_frame 12 = .ok (.iload_n 1, 1) := by decide +kernel
theorem dX4_frame_13 : decode cX4_frame 13 = .ok (.iconst 1, 1) := by decide +kernel
theorem dX4_frame_14 : decode cX4_frame 14 = .ok (.aload_n 0, 1) := by decide +kernel
theorem dX4_frame_15 : decode cX4_frame 15 = .ok (.getfield 16, 3) := by decide +kernel
theorem dX4_frame_18 : decode cX4_frame 18 = .ok (.iconst 0, 1) := by decide +kernel
theorem dX4_frame_19 : decode cX4_frame 19 = .ok (.iaload, 1) := by decide +kernel
theorem dX4_frame_20 : decode cX4_frame 20 = .ok (.ishl, 1) := by decide +kernel
theorem dX4_frame_21 : decode cX4_frame 21 = .ok (.if_icmp .ge 24, 3) := by decide +kernel
theorem dX4_frame_24 : decode cX4_frame 24 = .ok (.aload_n 0, 1) := by decide +kernel
theorem dX4_frame_25 : decode cX4_frame 25 = .ok (.iload_n 1, 1) := by decide +kernel
theorem dX4_frame_26 : decode cX4_frame 26 = .ok (.putfield 106, 3) := by decide +kernel
theorem dX4_frame_29 : decode cX4_frame 29 = .ok (.aload_n 0, 1) := by decide +kernel
theorem dX4_frame_30 : decode cX4_frame 30 = .ok (.iconst 0, 1) := by decide +kernel
theorem dX4_frame_31 : decode cX4_frame 31 = .ok (.invokevirtual 121, 3) := by decide +kernel
theorem dX4_frame_34 : decode cX4_frame 34 = .ok (.ifCond .ne 5, 3) := by decide +kernel
theorem dX4_frame_37 : decode cX4_frame 37 = .ok (.iload_n 1, 1) := by decide +kernel
theorem dX4_frame_38 : decode cX4_frame 38 = .ok (.ireturn, 1) := by decide +kernel
theorem dX4_frame_39 : decode cX4_frame 39 = .ok (.iinc 1 1, 3) := by decide +kernel
theorem dX4_frame_42 : decode cX4_frame 42 = .ok (.goto (-30), 3) := by decide +kernel
theorem dX4_frame_45 : decode cX4_frame 45 = .ok (.iconst (-1), 1) := by decide +kernel
theorem dX4_frame_46 : decode cX4_frame 46 = .ok (.ireturn, 1) := by decide +kernel
theorem dX4_give_0 : decode cX4_give 0 = .ok (.aload_n 0, 1) := by decide +kernel
theorem dX4_give_1 : decode cX4_give 1 = .ok (.iload_n 1, 1) := by decide +kernel
theorem dX4_give_2 : decode cX4_give 2 = .ok (.invokestatic 124, 3) := by decide +kernel
theorem dX4_give_5 : decode cX4_give 5 = .ok (.ifCond .eq 7, 3) := by decide +kernel
theorem dX4_give_8 : decode cX4_give 8 = .ok (.iconst 1, 1) := by decide +kernel
theorem dX4_give_9 : decode cX4_give 9 = .ok (.goto 18, 3) := by decide +kernel
theorem dX4_give_12 : decode cX4_give 12 = .ok (.iload_n 2, 1) := by decide +kernel
theorem dX4_give_13 : decode cX4_give 13 = .ok (.ifCond .lt 9, 3) := by decide +kernel
theorem dX4_give_16 : decode cX4_give 16 = .ok (.iload_n 2, 1) := by decide +kernel
theorem dX4_give_17 : decode cX4_give 17 = .ok (.bipush 9, 2) := by decide +kernel
theorem dX4_give_19 : decode cX4_give 19 = .ok (.if_icmp .le 7, 3) := by decide +kernel
theorem dX4_give_22 : decode cX4_give 22 = .ok (.iconst 2, 1) := by decide +kernel
theorem dX4_give_23 : decode cX4_give 23 = .ok (.goto 4, 3) := by decide +kernel
theorem dX4_give_26 : decode cX4_give 26 = .ok (.iconst 0, 1) := by decide +kernel
theorem dX4_give_27 : decode cX4_give 27 = .ok (.putfield 62, 3) := by decide +kernel
theorem dX4_give_30 : decode cX4_give 30 = .ok (.aload_n 0, 1) := by decide +kernel
theorem dX4_give_31 : decode cX4_give 31 = .ok (.getfield 62, 3) := by decide +kernel
theorem dX4_give_34 : decode cX4_give 34 = .ok (.ifCond .ne 10, 3) := by decide +kernel
theorem dX4_give_37 : decode cX4_give 37 = .ok (.aload_n 0, 1) := by decide +kernel
theorem dX4_give_38 : decode cX4_give 38 = .ok (.getfield 53, 3) := by decide +kernel
theorem dX4_give_41 : decode cX4_give 41 = .ok (.iload_n 1, 1) := by decide +kernel
theorem dX4_give_42 : decode cX4_give 42 = .ok (.iload_n 2, 1) := by decide +kernel
theorem dX4_give_43 : decode cX4_give 43 = .ok (.iastore, 1) := by decide +kernel
theorem dX4_give_44 : decode cX4_give 44 = .ok (.return_, 1) := by decide +kernel
theorem dX4_noVariable_0 : decode cX4_noVariable 0 = .ok (.iload_n 0, 1) := by decide +kernel
theorem dX4_noVariable_1 : decode cX4_noVariable 1 = .ok (.ifCond .lt 8, 3) := by decide +kernel
theorem dX4_noVariable_4 : decode cX4_noVariable 4 = .ok (.iload_n 0, 1) := by decide +kernel
theorem dX4_noVariable_5 : decode cX4_noVariable 5 = .ok (.iconst 4, 1) := by decide +kernel
theorem dX4_noVariable_6 : decode cX4_noVariable 6 = .ok (.if_icmp .le 7, 3) := by decide +kernel
theorem dX4_noVariable_9 : decode cX4_noVariable 9 = .ok (.iconst 1, 1) := by decide +kernel
theorem dX4_noVariable_10 : decode cX4_noVariable 10 = .ok (.goto 4, 3) := by decide +kernel
theorem dX4_noVariable_13 : decode cX4_noVariable 13 = .ok (.iconst 0, 1) := by decide +kernel
theorem dX4_noVariable_14 : decode cX4_noVariable 14 = .ok (.ireturn, 1) := by decide +kernel
theorem dX4_put_0 : decode cX4_put 0 = .ok (.aload_n 0, 1) := by decide +kernel
theorem dX4_put_1 : decode cX4_put 1 = .ok (.iload_n 1, 1) := by decide +kernel
theorem dX4_put_2 : decode cX4_put 2 = .ok (.iconst 1, 1) := by decide +kernel
theorem dX4_put_3 : decode cX4_put 3 = .ok (.if_icmp .lt 19, 3) := by decide +kernel
theorem dX4_put_6 : decode cX4_put 6 = .ok (.iload_n 1, 1) := by decide +kernel
theorem dX4_put_7 : decode cX4_put 7 = .ok (.bipush 9, 2) := by decide +kernel
theorem dX4_put_9 : decode cX4_put 9 = .ok (.if_icmp .gt 13, 3) := by decide +kernel
theorem dX4_put_12 : decode cX4_put 12 = .ok (.iload_n 2, 1) := by decide +kernel
theorem dX4_put_13 : decode cX4_put 13 = .ok (.ifCond .lt 9, 3) := by decide +kernel
theorem dX4_put_16 : decode cX4_put 16 = .ok (.iload_n 2, 1) := by decide +kernel
theorem dX4_put_17 : decode cX4_put 17 = .ok (.bipush 9, 2) := by decide +kernel
theorem dX4_put_19 : decode cX4_put 19 = .ok (.if_icmp .le 7, 3) := by decide +kernel
theorem dX4_put_22 : decode cX4_put 22 = .ok (.iconst 1, 1) := by decide +kernel
theorem dX4_put_23 : decode cX4_put 23 = .ok (.goto 4, 3) := by decide +kernel
theorem dX4_put_26 : decode cX4_put 26 = .ok (.iconst 0, 1) := by decide +kernel
theorem dX4_put_27 : decode cX4_put 27 = .ok (.putfield 62, 3) := by decide +kernel
theorem dX4_put_30 : decode cX4_put 30 = .ok (.aload_n 0, 1) := by decide +kernel
theorem dX4_put_31 : decode cX4_put 31 = .ok (.getfield 62, 3) := by decide +kernel
theorem dX4_put_34 : decode cX4_put 34 = .ok (.ifCond .ne 10, 3) := by decide +kernel
theorem dX4_put_37 : decode cX4_put 37 = .ok (.aload_n 0, 1) := by decide +kernel
theorem dX4_put_38 : decode cX4_put 38 = .ok (.getfield 56, 3) := by decide +kernel
theorem dX4_put_41 : decode cX4_put 41 = .ok (.iload_n 1, 1) := by decide +kernel
theorem dX4_put_42 : decode cX4_put 42 = .ok (.iload_n 2, 1) := by decide +kernel
theorem dX4_put_43 : decode cX4_put 43 = .ok (.iastore, 1) := by decide +kernel
theorem dX4_put_44 : decode cX4_put 44 = .ok (.return_, 1) := by decide +kernel
theorem dX4_holds_0 : decode cX4_holds 0 = .ok (.aload_n 0, 1) := by decide +kernel
theorem dX4_holds_1 : decode cX4_holds 1 = .ok (.iload_n 1, 1) := by decide +kernel
theorem dX4_holds_2 : decode cX4_holds 2 = .ok (.invokestatic 66, 3) := by decide +kernel
theorem dX4_holds_5 : decode cX4_holds 5 = .ok (.ifCond .eq 7, 3) := by decide +kernel
theorem dX4_holds_8 : decode cX4_holds 8 = .ok (.iconst 1, 1) := by decide +kernel
theorem dX4_holds_9 : decode cX4_holds 9 = .ok (.goto 4, 3) := by decide +kernel
theorem dX4_holds_12 : decode cX4_holds 12 = .ok (.iconst 0, 1) := by decide +kernel
theorem dX4_holds_13 : decode cX4_holds 13 = .ok (.putfield 62, 3) := by decide +kernel
theorem dX4_holds_16 : decode cX4_holds 16 = .ok (.aload_n 0, 1) := by decide +kernel
theorem dX4_holds_17 : decode cX4_holds 17 = .ok (.getfield 62, 3) := by decide +kernel
theorem dX4_holds_20 : decode cX4_holds 20 = .ok (.ifCond .le 5, 3) := by decide +kernel
theorem dX4_holds_23 : decode cX4_holds 23 = .ok (.iconst 0, 1) := by decide +kernel
theorem dX4_holds_24 : decode cX4_holds 24 = .ok (.ireturn, 1) := by decide +kernel
theorem dX4_holds_25 : decode cX4_holds 25 = .ok (.iconst 0, 1) := by decide +kernel
theorem dX4_holds_26 : decode cX4_holds 26 = .ok (.istore_n 2, 1) := by decide +kernel
theorem dX4_holds_27 : decode cX4_holds 27 = .ok (.iload_n 2, 1) := by decide +kernel
theorem dX4_holds_28 : decode cX4_holds 28 = .ok (.bipush 6, 2) := by decide +kernel
theorem dX4_holds_30 : decode cX4_holds 30 = .ok (.if_icmp .ge 88, 3) := by decide +kernel
theorem dX4_holds_33 : decode cX4_holds 33 = .ok (.iconst 0, 1) := by decide +kernel
theorem dX4_holds_34 : decode cX4_holds 34 = .ok (.istore_n 3, 1) := by decide +kernel
theorem dX4_holds_35 : decode cX4_holds 35 = .ok (.iload_n 3, 1) := by decide +kernel
theorem dX4_holds_36 : decode cX4_holds 36 = .ok (.bipush 6, 2) := by decide +kernel
theorem dX4_holds_38 : decode cX4_holds 38 = .ok (.if_icmp .ge 74, 3) := by decide +kernel
theorem dX4_holds_41 : decode cX4_holds 41 = .ok (.bipush 36, 2) := by decide +kernel
theorem dX4_holds_43 : decode cX4_holds 43 = .ok (.iload_n 1, 1) := by decide +kernel
theorem dX4_holds_44 : decode cX4_holds 44 = .ok (.imul, 1) := by decide +kernel
theorem dX4_holds_45 : decode cX4_holds 45 = .ok (.bipush 6, 2) := by decide +kernel
theorem dX4_holds_47 : decode cX4_holds 47 = .ok (.iload_n 2, 1) := by decide +kernel
theorem dX4_holds_48 : decode cX4_holds 48 = .ok (.imul, 1) := by decide +kernel
theorem dX4_holds_49 : decode cX4_holds 49 = .ok (.iadd, 1) := by decide +kernel
theorem dX4_holds_50 : decode cX4_holds 50 = .ok (.iload_n 3, 1) := by decide +kernel
theorem dX4_holds_51 : decode cX4_holds 51 = .ok (.iadd, 1) := by decide +kernel
theorem dX4_holds_52 : decode cX4_holds 52 = .ok (.istore 4, 2) := by decide +kernel
theorem dX4_holds_54 : decode cX4_holds 54 = .ok (.aload_n 0, 1) := by decide +kernel
theorem dX4_holds_55 : decode cX4_holds 55 = .ok (.iload_n 2, 1) := by decide +kernel
theorem dX4_holds_56 : decode cX4_holds 56 = .ok (.invokevirtual 127, 3) := by decide +kernel
theorem dX4_holds_59 : decode cX4_holds 59 = .ok (.aload_n 0, 1) := by decide +kernel
theorem dX4_holds_60 : decode cX4_holds 60 = .ok (.iload_n 3, 1) := by decide +kernel
theorem dX4_holds_61 : decode cX4_holds 61 = .ok (.invokevirtual 127, 3) := by decide +kernel
theorem dX4_holds_64 : decode cX4_holds 64 = .ok (.if_icmp .ne 7, 3) := by decide +kernel
theorem dX4_holds_67 : decode cX4_holds 67 = .ok (.iconst 1, 1) := by decide +kernel
theorem dX4_holds_68 : decode cX4_holds 68 = .ok (.goto 4, 3) := by decide +kernel
theorem dX4_holds_71 : decode cX4_holds 71 = .ok (.iconst 0, 1) := by decide +kernel
theorem dX4_holds_72 : decode cX4_holds 72 = .ok (.istore 5, 2) := by decide +kernel
theorem dX4_holds_74 : decode cX4_holds 74 = .ok (.aload_n 0, 1) := by decide +kernel
theorem dX4_holds_75 : decode cX4_holds 75 = .ok (.getfield 7, 3) := by decide +kernel
theorem dX4_holds_78 : decode cX4_holds 78 = .ok (.iload 4, 2) := by decide +kernel
theorem dX4_holds_80 : decode cX4_holds 80 = .ok (.baload, 1) := by decide +kernel
theorem dX4_holds_81 : decode cX4_holds 81 = .ok (.ifCond .eq 8, 3) := by decide +kernel
theorem dX4_holds_84 : decode cX4_holds 84 = .ok (.iload 5, 2) := by decide +kernel
theorem dX4_holds_86 : decode cX4_holds 86 = .ok (.ifCond .eq 18, 3) := by decide +kernel
theorem dX4_holds_89 : decode cX4_holds 89 = .ok (.aload_n 0, 1) := by decide +kernel
theorem dX4_holds_90 : decode cX4_holds 90 = .ok (.getfield 13, 3) := by decide +kernel
theorem dX4_holds_93 : decode cX4_holds 93 = .ok (.iload 4, 2) := by decide +kernel
theorem dX4_holds_95 : decode cX4_holds 95 = .ok (.baload, 1) := by decide +kernel
theorem dX4_holds_96 : decode cX4_holds 96 = .ok (.ifCond .eq 10, 3) := by decide +kernel
theorem dX4_holds_99 : decode cX4_holds 99 = .ok (.iload 5, 2) := by decide +kernel
theorem dX4_holds_101 : decode cX4_holds 101 = .ok (.ifCond .eq 5, 3) := by decide +kernel
theorem dX4_holds_104 : decode cX4_holds 104 = .ok (.iconst 0, 1) := by decide +kernel
theorem dX4_holds_105 : decode cX4_holds 105 = .ok (.ireturn, 1) := by decide +kernel
theorem dX4_holds_106 : decode cX4_holds 106 = .ok (.iinc 3 1, 3) := by decide +kernel
theorem dX4_holds_109 : decode cX4_holds 109 = .ok (.goto (-74), 3) := by decide +kernel
theorem dX4_holds_112 : decode cX4_holds 112 = .ok (.iinc 2 1, 3) := by decide +kernel
theorem dX4_holds_115 : decode cX4_holds 115 = .ok (.goto (-88), 3) := by decide +kernel
theorem dX4_holds_118 : decode cX4_holds 118 = .ok (.iconst 0, 1) := by decide +kernel
theorem dX4_holds_119 : decode cX4_holds 119 = .ok (.istore_n 2, 1) := by decide +kernel
theorem dX4_holds_120 : decode cX4_holds 120 = .ok (.iload_n 2, 1) := by decide +kernel
theorem dX4_holds_121 : decode cX4_holds 121 = .ok (.bipush 10, 2) := by decide +kernel
theorem dX4_holds_123 : decode cX4_holds 123 = .ok (.if_icmp .ge 16, 3) := by decide +kernel
theorem dX4_holds_126 : decode cX4_holds 126 = .ok (.aload_n 0, 1) := by decide +kernel
theorem dX4_holds_127 : decode cX4_holds 127 = .ok (.getfield 59, 3) := by decide +kernel
theorem dX4_holds_130 : decode cX4_holds 130 = .ok (.iload_n 2, 1) := by decide +kernel
theorem dX4_holds_131 : decode cX4_holds 131 = .ok (.iconst 0, 1) := by decide +kernel
theorem dX4_holds_132 : decode cX4_holds 132 = .ok (.bastore, 1) := by decide +kernel
theorem dX4_holds_133 : decode cX4_holds 133 = .ok (.iinc 2 1, 3) := by decide +kernel
theorem dX4_holds_136 : decode cX4_holds 136 = .ok (.goto (-16), 3) := by decide +kernel
theorem dX4_holds_139 : decode cX4_holds 139 = .ok (.iconst 5, 1) := by decide +kernel
theorem dX4_holds_140 : decode cX4_holds 140 = .ok (.iload_n 1, 1) := by decide +kernel
theorem dX4_holds_141 : decode cX4_holds 141 = .ok (.imul, 1) := by decide +kernel
theorem dX4_holds_142 : decode cX4_holds 142 = .ok (.istore_n 2, 1) := by decide +kernel
theorem dX4_holds_143 : decode cX4_holds 143 = .ok (.iload_n 2, 1) := by decide +kernel
theorem dX4_holds_144 : decode cX4_holds 144 = .ok (.iconst 5, 1) := by decide +kernel
theorem dX4_holds_145 : decode cX4_holds 145 = .ok (.iload_n 1, 1) := by decide +kernel
theorem dX4_holds_146 : decode cX4_holds 146 = .ok (.imul, 1) := by decide +kernel
theorem dX4_holds_147 : decode cX4_holds 147 = .ok (.aload_n 0, 1) := by decide +kernel
theorem dX4_holds_148 : decode cX4_holds 148 = .ok (.getfield 16, 3) := by decide +kernel
theorem dX4_holds_151 : decode cX4_holds 151 = .ok (.iload_n 1, 1) := by decide +kernel
theorem dX4_holds_152 : decode cX4_holds 152 = .ok (.iaload, 1) := by decide +kernel
theorem dX4_holds_153 : decode cX4_holds 153 = .ok (.iadd, 1) := by decide +kernel
theorem dX4_holds_154 : decode cX4_holds 154 = .ok (.if_icmp .ge 19, 3) := by decide +kernel
theorem dX4_holds_157 : decode cX4_holds 157 = .ok (.aload_n 0, 1) := by decide +kernel
theorem dX4_holds_158 : decode cX4_holds 158 = .ok (.iload_n 2, 1) := by decide +kernel
theorem dX4_holds_159 : decode cX4_holds 159 = .ok (.invokevirtual 131, 3) := by decide +kernel
theorem dX4_holds_162 : decode cX4_holds 162 = .ok (.ifCond .ne 5, 3) := by decide +kernel
theorem dX4_holds_165 : decode cX4_holds 165 = .ok (.iconst 0, 1) := by decide +kernel
theorem dX4_holds_166 : decode cX4_holds 166 = .ok (.ireturn, 1) := by decide +kernel
theorem dX4_holds_167 : decode cX4_holds 167 = .ok (.iinc 2 1, 3) := by decide +kernel
theorem dX4_holds_170 : decode cX4_holds 170 = .ok (.goto (-27), 3) := by decide +kernel
theorem dX4_holds_173 : decode cX4_holds 173 = .ok (.iconst 1, 1) := by decide +kernel
theorem dX4_holds_174 : decode cX4_holds 174 = .ok (.istore_n 2, 1) := by decide +kernel
theorem dX4_holds_175 : decode cX4_holds 175 = .ok (.iload_n 2, 1) := by decide +kernel
theorem dX4_holds_176 : decode cX4_holds 176 = .ok (.bipush 10, 2) := by decide +kernel
theorem dX4_holds_178 : decode cX4_holds 178 = .ok (.if_icmp .ge 29, 3) := by decide +kernel
theorem dX4_holds_181 : decode cX4_holds 181 = .ok (.aload_n 0, 1) := by decide +kernel
theorem dX4_holds_182 : decode cX4_holds 182 = .ok (.getfield 56, 3) := by decide +kernel
theorem dX4_holds_185 : decode cX4_holds 185 = .ok (.iload_n 2, 1) := by decide +kernel
theorem dX4_holds_186 : decode cX4_holds 186 = .ok (.iaload, 1) := by decide +kernel
theorem dX4_holds_187 : decode cX4_holds 187 = .ok (.ifCond .lt 14, 3) := by decide +kernel
theorem dX4_holds_190 : decode cX4_holds 190 = .ok (.aload_n 0, 1) := by decide +kernel
theorem dX4_holds_191 : decode cX4_holds 191 = .ok (.getfield 59, 3) := by decide +kernel
theorem dX4_holds_194 : decode cX4_holds 194 = .ok (.iload_n 2, 1) := by decide +kernel
theorem dX4_holds_195 : decode cX4_holds 195 = .ok (.baload, 1) := by decide +kernel
theorem dX4_holds_196 : decode cX4_holds 196 = .ok (.ifCond .ne 5, 3) := by decide +kernel
theorem dX4_holds_199 : decode cX4_holds 199 = .ok (.iconst 0, 1) := by decide +kernel
theorem dX4_holds_200 : decode cX4_holds 200 = .ok (.ireturn, 1) := by decide +kernel
theorem dX4_holds_201 : decode cX4_holds 201 = .ok (.iinc 2 1, 3) := by decide +kernel
theorem dX4_holds_204 : decode cX4_holds 204 = .ok (.goto (-29), 3) := by decide +kernel
theorem dX4_holds_207 : decode cX4_holds 207 = .ok (.iconst 1, 1) := by decide +kernel
theorem dX4_holds_208 : decode cX4_holds 208 = .ok (.ireturn, 1) := by decide +kernel
theorem dX4_valueOf_0 : decode cX4_valueOf 0 = .ok (.iload_n 1, 1) := by decide +kernel
theorem dX4_valueOf_1 : decode cX4_valueOf 1 = .ok (.iconst 5, 1) := by decide +kernel
theorem dX4_valueOf_2 : decode cX4_valueOf 2 = .ok (.if_icmp .ne 7, 3) := by decide +kernel
theorem dX4_valueOf_5 : decode cX4_valueOf 5 = .ok (.iconst 0, 1) := by decide +kernel
theorem dX4_valueOf_6 : decode cX4_valueOf 6 = .ok (.goto 9, 3) := by decide +kernel
theorem dX4_valueOf_9 : decode cX4_valueOf 9 = .ok (.aload_n 0, 1) := by decide +kernel
theorem dX4_valueOf_10 : decode cX4_valueOf 10 = .ok (.getfield 53, 3) := by decide +kernel
theorem dX4_valueOf_13 : decode cX4_valueOf 13 = .ok (.iload_n 1, 1) := by decide +kernel
theorem dX4_valueOf_14 : decode cX4_valueOf 14 = .ok (.iaload, 1) := by decide +kernel
theorem dX4_valueOf_15 : decode cX4_valueOf 15 = .ok (.ireturn, 1) := by decide +kernel
end
section
/-! decoded instructions -/
theorem dX4_takesAtHand_0 : decode cX4_takesAtHand 0 = .ok (.aload_n 0, 1) := by decide +kernel
theorem dX4_takesAtHand_1 : decode cX4_takesAtHand 1 = .ok (.aload_n 0, 1) := by decide +kernel
theorem dX4_takesAtHand_2 : decode cX4_takesAtHand 2 = .ok (.getfield 20, 3) := by decide +kernel
theorem dX4_takesAtHand_5 : decode cX4_takesAtHand 5 = .ok (.iload_n 1, 1) := by decide +kernel
theorem dX4_takesAtHand_6 : decode cX4_takesAtHand 6 = .ok (.iaload, 1) := by decide +kernel
theorem dX4_takesAtHand_7 : decode cX4_takesAtHand 7 = .ok (.invokevirtual 127, 3) := by decide +kernel
theorem dX4_takesAtHand_10 : decode cX4_takesAtHand 10 = .ok (.istore_n 2, 1) := by decide +kernel
theorem dX4_takesAtHand_11 : decode cX4_takesAtHand 11 = .ok (.aload_n 0, 1) := by decide +kernel
theorem dX4_takesAtHand_12 : decode cX4_takesAtHand 12 = .ok (.aload_n 0, 1) := by decide +kernel
theorem dX4_takesAtHand_13 : decode cX4_takesAtHand 13 = .ok (.getfield 23, 3) := by decide +kernel
theorem dX4_takesAtHand_16 : decode cX4_takesAtHand 16 = .ok (.iload_n 1, 1) := by decide +kernel
theorem dX4_takesAtHand_17 : decode cX4_takesAtHand 17 = .ok (.iaload, 1) := by decide +kernel
theorem dX4_takesAtHand_18 : decode cX4_takesAtHand 18 = .ok (.invokevirtual 127, 3) := by decide +kernel
theorem dX4_takesAtHand_21 : decode cX4_takesAtHand 21 = .ok (.istore_n 3, 1) := by decide +kernel
theorem dX4_takesAtHand_22 : decode cX4_takesAtHand 22 = .ok (.iconst 1, 1) := by decide +kernel
theorem dX4_takesAtHand_23 : decode cX4_takesAtHand 23 = .ok (.istore 4, 2) := by decide +kernel
theorem dX4_takesAtHand_25 : decode cX4_takesAtHand 25 = .ok (.aload_n 0, 1) := by decide +kernel
theorem dX4_takesAtHand_26 : decode cX4_takesAtHand 26 = .ok (.getfield 26, 3) := by decide +kernel
theorem dX4_takesAtHand_29 : decode cX4_takesAtHand 29 = .ok (.iload_n 1, 1) := by decide +kernel
theorem dX4_takesAtHand_30 : decode cX4_takesAtHand 30 = .ok (.baload, 1) := by decide +kernel
theorem dX4_takesAtHand_31 : decode cX4_takesAtHand 31 = .ok (.ifCond .eq 11, 3) := by decide +kernel
theorem dX4_takesAtHand_34 : decode cX4_takesAtHand 34 = .ok (.iload_n 2, 1) := by decide +kernel
theorem dX4_takesAtHand_35 : decode cX4_takesAtHand 35 = .ok (.iload_n 3, 1) := by decide +kernel
theorem dX4_takesAtHand_36 : decode cX4_takesAtHand 36 = .ok (.if_icmp .eq 51, 3) := by decide +kernel
theorem dX4_takesAtHand_39 : decode cX4_takesAtHand 39 = .ok (.goto 8, 3) := by decide +kernel
theorem dX4_takesAtHand_42 : decode cX4_takesAtHand 42 = .ok (.iload 4, 2) := by decide +kernel
theorem dX4_takesAtHand_44 : decode cX4_takesAtHand 44 = .ok (.ifCond .eq 43, 3) := by decide +kernel
theorem dX4_takesAtHand_47 : decode cX4_takesAtHand 47 = .ok (.aload_n 0, 1) := by decide +kernel
theorem dX4_takesAtHand_48 : decode cX4_takesAtHand 48 = .ok (.getfield 56, 3) := by decide +kernel
theorem dX4_takesAtHand_51 : decode cX4_takesAtHand 51 = .ok (.iload_n 2, 1) := by decide +kernel
theorem dX4_takesAtHand_52 : decode cX4_takesAtHand 52 = .ok (.iaload, 1) := by decide +kernel
theorem dX4_takesAtHand_53 : decode cX4_takesAtHand 53 = .ok (.ifCond .lt 12, 3) := by decide +kernel
theorem dX4_takesAtHand_56 : decode cX4_takesAtHand 56 = .ok (.aload_n 0, 1) := by decide +kernel
theorem dX4_takesAtHand_57 : decode cX4_takesAtHand 57 = .ok (.getfield 59, 3) := by decide +kernel
theorem dX4_takesAtHand_60 : decode cX4_takesAtHand 60 = .ok (.iload_n 2, 1) := by decide +kernel
theorem dX4_takesAtHand_61 : decode cX4_takesAtHand 61 = .ok (.baload, 1) := by decide +kernel
theorem dX4_takesAtHand_62 : decode cX4_takesAtHand 62 = .ok (.ifCond .eq 5, 3) := by decide +kernel
theorem dX4_takesAtHand_65 : decode cX4_takesAtHand 65 = .ok (.iconst 0, 1) := by decide +kernel
theorem dX4_takesAtHand_66 : decode cX4_takesAtHand 66 = .ok (.ireturn, 1) := by decide +kernel
theorem dX4_takesAtHand_67 : decode cX4_takesAtHand 67 = .ok (.aload_n 0, 1) := by decide +kernel
theorem dX4_takesAtHand_68 : decode cX4_takesAtHand 68 = .ok (.getfield 59, 3) := by decide +kernel
theorem dX4_takesAtHand_71 : decode cX4_takesAtHand 71 = .ok (.iload_n 2, 1) := by decide +kernel
theorem dX4_takesAtHand_72 : decode cX4_takesAtHand 72 = .ok (.iconst 1, 1) := by decide +kernel
theorem dX4_takesAtHand_73 : decode cX4_takesAtHand 73 = .ok (.bastore, 1) := by decide +kernel
theorem dX4_takesAtHand_74 : decode cX4_takesAtHand 74 = .ok (.aload_n 0, 1) := by decide +kernel
theorem dX4_takesAtHand_75 : decode cX4_takesAtHand 75 = .ok (.getfield 56, 3) := by decide +kernel
theorem dX4_takesAtHand_78 : decode cX4_takesAtHand 78 = .ok (.iload_n 2, 1) := by decide +kernel
theorem dX4_takesAtHand_79 : decode cX4_takesAtHand 79 = .ok (.iaload, 1) := by decide +kernel
theorem dX4_takesAtHand_80 : decode cX4_takesAtHand 80 = .ok (.istore_n 2, 1) := by decide +kernel
theorem dX4_takesAtHand_81 : decode cX4_takesAtHand 81 = .ok (.iconst 0, 1) := by decide +kernel
theorem dX4_takesAtHand_82 : decode cX4_takesAtHand 82 = .ok (.istore 4, 2) := by decide +kernel
theorem dX4_takesAtHand_84 : decode cX4_takesAtHand 84 = .ok (.goto (-59), 3) := by decide +kernel
theorem dX4_takesAtHand_87 : decode cX4_takesAtHand 87 = .ok (.iload_n 2, 1) := by decide +kernel
theorem dX4_takesAtHand_88 : decode cX4_takesAtHand 88 = .ok (.iload_n 3, 1) := by decide +kernel
theorem dX4_takesAtHand_89 : decode cX4_takesAtHand 89 = .ok (.if_icmp .ne 7, 3) := by decide +kernel
theorem dX4_takesAtHand_92 : decode cX4_takesAtHand 92 = .ok (.iconst 1, 1) := by decide +kernel
theorem dX4_takesAtHand_93 : decode cX4_takesAtHand 93 = .ok (.goto 4, 3) := by decide +kernel
theorem dX4_takesAtHand_96 : decode cX4_takesAtHand 96 = .ok (.iconst 0, 1) := by decide +kernel
theorem dX4_takesAtHand_97 : decode cX4_takesAtHand 97 = .ok (.ireturn, 1) := by decide +kernel
theorem dX4_copy_0 : decode cX4_copy 0 = .ok (.aload_n 0, 1) := by decide +kernel
theorem dX4_copy_1 : decode cX4_copy 1 = .ok (.iload_n 1, 1) := by decide +kernel
theorem dX4_copy_2 : decode cX4_copy 2 = .ok (.invokestatic 124, 3) := by decide +kernel
theorem dX4_copy_5 : decode cX4_copy 5 = .ok (.ifCond .ne 10, 3) := by decide +kernel
theorem dX4_copy_8 : decode cX4_copy 8 = .ok (.iload_n 2, 1) := by decide +kernel
theorem dX4_copy_9 : decode cX4_copy 9 = .ok (.invokestatic 70, 3) := by decide +kernel
theorem dX4_copy_12 : decode cX4_copy 12 = .ok (.ifCond .eq 7, 3) := by decide +kernel
theorem dX4_copy_15 : decode cX4_copy 15 = .ok (.iconst 1, 1) := by decide +kernel
theorem dX4_copy_16 : decode cX4_copy 16 = .ok (.goto 4, 3) := by decide +kernel
theorem dX4_copy_19 : decode cX4_copy 19 = .ok (.iconst 0, 1) := by decide +kernel
theorem dX4_copy_20 : decode cX4_copy 20 = .ok (.putfield 62, 3) := by decide +kernel
theorem dX4_copy_23 : decode cX4_copy 23 = .ok (.aload_n 0, 1) := by decide +kernel
theorem dX4_copy_24 : decode cX4_copy 24 = .ok (.getfield 62, 3) := by decide +kernel
theorem dX4_copy_27 : decode cX4_copy 27 = .ok (.ifCond .ne 14, 3) := by decide +kernel
theorem dX4_copy_30 : decode cX4_copy 30 = .ok (.aload_n 0, 1) := by decide +kernel
theorem dX4_copy_31 : decode cX4_copy 31 = .ok (.getfield 53, 3) := by decide +kernel
theorem dX4_copy_34 : decode cX4_copy 34 = .ok (.iload_n 1, 1) := by decide +kernel
theorem dX4_copy_35 : decode cX4_copy 35 = .ok (.aload_n 0, 1) := by decide +kernel
theorem dX4_copy_36 : decode cX4_copy 36 = .ok (.iload_n 2, 1) := by decide +kernel
theorem dX4_copy_37 : decode cX4_copy 37 = .ok (.invokevirtual 127, 3) := by decide +kernel
theorem dX4_copy_40 : decode cX4_copy 40 = .ok (.iastore, 1) := by decide +kernel
theorem dX4_copy_41 : decode cX4_copy 41 = .ok (.return_, 1) := by decide +kernel
theorem dX4_load_0 : decode cX4_load 0 = .ok (.aload_n 0, 1) := by decide +kernel
theorem dX4_load_1 : decode cX4_load 1 = .ok (.iload_n 1, 1) := by decide +kernel
theorem dX4_load_2 : decode cX4_load 2 = .ok (.invokestatic 124, 3) := by decide +kernel
theorem dX4_load_5 : decode cX4_load 5 = .ok (.ifCond .ne 10, 3) := by decide +kernel
theorem dX4_load_8 : decode cX4_load 8 = .ok (.iload_n 2, 1) := by decide +kernel
theorem dX4_load_9 : decode cX4_load 9 = .ok (.invokestatic 124, 3) := by decide +kernel
theorem dX4_load_12 : decode cX4_load 12 = .ok (.ifCond .eq 7, 3) := by decide +kernel
theorem dX4_load_15 : decode cX4_load 15 = .ok (.iconst 1, 1) := by decide +kernel
theorem dX4_load_16 : decode cX4_load 16 = .ok (.goto 22, 3) := by decide +kernel
theorem dX4_load_19 : decode cX4_load 19 = .ok (.aload_n 0, 1) := by decide +kernel
theorem dX4_load_20 : decode cX4_load 20 = .ok (.getfield 56, 3) := by decide +kernel
theorem dX4_load_23 : decode cX4_load 23 = .ok (.aload_n 0, 1) := by decide +kernel
theorem dX4_load_24 : decode cX4_load 24 = .ok (.getfield 53, 3) := by decide +kernel
theorem dX4_load_27 : decode cX4_load 27 = .ok (.iload_n 2, 1) := by decide +kernel
theorem dX4_load_28 : decode cX4_load 28 = .ok (.iaload, 1) := by decide +kernel
theorem dX4_load_29 : decode cX4_load 29 = .ok (.iaload, 1) := by decide +kernel
theorem dX4_load_30 : decode cX4_load 30 = .ok (.ifCond .ge 7, 3) := by decide +kernel
theorem dX4_load_33 : decode cX4_load 33 = .ok (.iconst 2, 1) := by decide +kernel
theorem dX4_load_34 : decode cX4_load 34 = .ok (.goto 4, 3) := by decide +kernel
theorem dX4_load_37 : decode cX4_load 37 = .ok (.iconst 0, 1) := by decide +kernel
theorem dX4_load_38 : decode cX4_load 38 = .ok (.putfield 62, 3) := by decide +kernel
theorem dX4_load_41 : decode cX4_load 41 = .ok (.aload_n 0, 1) := by decide +kernel
theorem dX4_load_42 : decode cX4_load 42 = .ok (.getfield 62, 3) := by decide +kernel
theorem dX4_load_45 : decode cX4_load 45 = .ok (.ifCond .ne 20, 3) := by decide +kernel
theorem dX4_load_48 : decode cX4_load 48 = .ok (.aload_n 0, 1) := by decide +kernel
theorem dX4_load_49 : decode cX4_load 49 = .ok (.getfield 53, 3) := by decide +kernel
theorem dX4_load_52 : decode cX4_load 52 = .ok (.iload_n 1, 1) := by decide +kernel
theorem dX4_load_53 : decode cX4_load 53 = .ok (.aload_n 0, 1) := by decide +kernel
theorem dX4_load_54 : decode cX4_load 54 = .ok (.getfield 56, 3) := by decide +kernel
theorem dX4_load_57 : decode cX4_load 57 = .ok (.aload_n 0, 1) := by decide +kernel
theorem dX4_load_58 : decode cX4_load 58 = .ok (.getfield 53, 3) := by decide +kernel
theorem dX4_load_61 : decode cX4_load 61 = .ok (.iload_n 2, 1) := by decide +kernel
theorem dX4_load_62 : decode cX4_load 62 = .ok (.iaload, 1) := by decide +kernel
theorem dX4_load_63 : decode cX4_load 63 = .ok (.iaload, 1) := by decide +kernel
theorem dX4_load_64 : decode cX4_load 64 = .ok (.iastore, 1) := by decide +kernel
theorem dX4_load_65 : decode cX4_load 65 = .ok (.return_, 1) := by decide +kernel
theorem dX4_store_0 : decode cX4_store 0 = .ok (.aload_n 0, 1) := by decide +kernel
theorem dX4_store_1 : decode cX4_store 1 = .ok (.iload_n 1, 1) := by decide +kernel
theorem dX4_store_2 : decode cX4_store 2 = .ok (.invokestatic 124, 3) := by decide +kernel
theorem dX4_store_5 : decode cX4_store 5 = .ok (.ifCond .ne 10, 3) := by decide +kernel
theorem dX4_store_8 : decode cX4_store 8 = .ok (.iload_n 2, 1) := by decide +kernel
theorem dX4_store_9 : decode cX4_store 9 = .ok (.invokestatic 70, 3) := by decide +kernel
theorem dX4_store_12 : decode cX4_store 12 = .ok (.ifCond .eq 7, 3) := by decide +kernel
theorem dX4_store_15 : decode cX4_store 15 = .ok (.iconst 1, 1) := by decide +kernel
theorem dX4_store_16 : decode cX4_store 16 = .ok (.goto 22, 3) := by decide +kernel
theorem dX4_store_19 : decode cX4_store 19 = .ok (.aload_n 0, 1) := by decide +kernel
theorem dX4_store_20 : decode cX4_store 20 = .ok (.getfield 56, 3) := by decide +kernel
theorem dX4_store_23 : decode cX4_store 23 = .ok (.aload_n 0, 1) := by decide +kernel
theorem dX4_store_24 : decode cX4_store 24 = .ok (.getfield 53, 3) := by decide +kernel
theorem dX4_store_27 : decode cX4_store 27 = .ok (.iload_n 1, 1) := by decide +kernel
theorem dX4_store_28 : decode cX4_store 28 = .ok (.iaload, 1) := by decide +kernel
theorem dX4_store_29 : decode cX4_store 29 = .ok (.iaload, 1) := by decide +kernel
theorem dX4_store_30 : decode cX4_store 30 = .ok (.ifCond .ge 7, 3) := by decide +kernel
theorem dX4_store_33 : decode cX4_store 33 = .ok (.iconst 2, 1) := by decide +kernel
theorem dX4_store_34 : decode cX4_store 34 = .ok (.goto 4, 3) := by decide +kernel
theorem dX4_store_37 : decode cX4_store 37 = .ok (.iconst 0, 1) := by decide +kernel
theorem dX4_store_38 : decode cX4_store 38 = .ok (.putfield 62, 3) := by decide +kernel
theorem dX4_store_41 : decode cX4_store 41 = .ok (.aload_n 0, 1) := by decide +kernel
theorem dX4_store_42 : decode cX4_store 42 = .ok (.getfield 62, 3) := by decide +kernel
theorem dX4_store_45 : decode cX4_store 45 = .ok (.ifCond .ne 19, 3) := by decide +kernel
theorem dX4_store_48 : decode cX4_store 48 = .ok (.aload_n 0, 1) := by decide +kernel
theorem dX4_store_49 : decode cX4_store 49 = .ok (.getfield 56, 3) := by decide +kernel
theorem dX4_store_52 : decode cX4_store 52 = .ok (.aload_n 0, 1) := by decide +kernel
theorem dX4_store_53 : decode cX4_store 53 = .ok (.getfield 53, 3) := by decide +kernel
theorem dX4_store_56 : decode cX4_store 56 = .ok (.iload_n 1, 1) := by decide +kernel
theorem dX4_store_57 : decode cX4_store 57 = .ok (.iaload, 1) := by decide +kernel
theorem dX4_store_58 : decode cX4_store 58 = .ok (.aload_n 0, 1) := by decide +kernel
theorem dX4_store_59 : decode cX4_store 59 = .ok (.iload_n 2, 1) := by decide +kernel
theorem dX4_store_60 : decode cX4_store 60 = .ok (.invokevirtual 127, 3) := by decide +kernel
theorem dX4_store_63 : decode cX4_store 63 = .ok (.iastore, 1) := by decide +kernel
theorem dX4_store_64 : decode cX4_store 64 = .ok (.return_, 1) := by decide +kernel
theorem dX4_make_0 : decode cX4_make 0 = .ok (.iconst 1, 1) := by decide +kernel
theorem dX4_make_1 : decode cX4_make 1 = .ok (.istore_n 2, 1) := by decide +kernel
theorem dX4_make_2 : decode cX4_make 2 = .ok (.iload_n 2, 1) := by decide +kernel
theorem dX4_make_3 : decode cX4_make 3 = .ok (.bipush 10, 2) := by decide +kernel
theorem dX4_make_5 : decode cX4_make 5 = .ok (.if_icmp .ge 18, 3) := by decide +kernel
theorem dX4_make_8 : decode cX4_make 8 = .ok (.aload_n 0, 1) := by decide +kernel
theorem dX4_make_9 : decode cX4_make 9 = .ok (.getfield 56, 3) := by decide +kernel
theorem dX4_make_12 : decode cX4_make 12 = .ok (.iload_n 2, 1) := by decide +kernel
theorem dX4_make_13 : decode cX4_make 13 = .ok (.iaload, 1) := by decide +kernel
theorem dX4_make_14 : decode cX4_make 14 = .ok (.ifCond .lt 9, 3) := by decide +kernel
theorem dX4_make_17 : decode cX4_make 17 = .ok (.iinc 2 1, 3) := by decide +kernel
theorem dX4_make_20 : decode cX4_make 20 = .ok (.goto (-18), 3) := by decide +kernel
theorem dX4_make_23 : decode cX4_make 23 = .ok (.aload_n 0, 1) := by decide +kernel
theorem dX4_make_24 : decode cX4_make 24 = .ok (.iload_n 1, 1) := by decide +kernel
theorem dX4_make_25 : decode cX4_make 25 = .ok (.invokestatic 124, 3) := by decide +kernel
theorem dX4_make_28 : decode cX4_make 28 = .ok (.ifCond .eq 7, 3) := by decide +kernel
theorem dX4_make_31 : decode cX4_make 31 = .ok (.iconst 1, 1) := by decide +kernel
theorem dX4_make_32 : decode cX4_make 32 = .ok (.goto 14, 3) := by decide +kernel
theorem dX4_make_35 : decode cX4_make 35 = .ok (.iload_n 2, 1) := by decide +kernel
theorem dX4_make_36 : decode cX4_make 36 = .ok (.bipush 10, 2) := by decide +kernel
theorem dX4_make_38 : decode cX4_make 38 = .ok (.if_icmp .ne 7, 3) := by decide +kernel
theorem dX4_make_41 : decode cX4_make 41 = .ok (.iconst 2, 1) := by decide +kernel
theorem dX4_make_42 : decode cX4_make 42 = .ok (.goto 4, 3) := by decide +kernel
theorem dX4_make_45 : decode cX4_make 45 = .ok (.iconst 0, 1) := by decide +kernel
theorem dX4_make_46 : decode cX4_make 46 = .ok (.putfield 62, 3) := by decide +kernel
theorem dX4_make_49 : decode cX4_make 49 = .ok (.aload_n 0, 1) := by decide +kernel
theorem dX4_make_50 : decode cX4_make 50 = .ok (.getfield 62, 3) := by decide +kernel
theorem dX4_make_53 : decode cX4_make 53 = .ok (.ifCond .le 4, 3) := by decide +kernel
theorem dX4_make_56 : decode cX4_make 56 = .ok (.return_, 1) := by decide +kernel
theorem dX4_make_57 : decode cX4_make 57 = .ok (.aload_n 0, 1) := by decide +kernel
theorem dX4_make_58 : decode cX4_make 58 = .ok (.getfield 56, 3) := by decide +kernel
theorem dX4_make_61 : decode cX4_make 61 = .ok (.iload_n 2, 1) := by decide +kernel
theorem dX4_make_62 : decode cX4_make 62 = .ok (.iconst 0, 1) := by decide +kernel
theorem dX4_make_63 : decode cX4_make 63 = .ok (.iastore, 1) := by decide +kernel
theorem dX4_make_64 : decode cX4_make 64 = .ok (.aload_n 0, 1) := by decide +kernel
theorem dX4_make_65 : decode cX4_make 65 = .ok (.getfield 53, 3) := by decide +kernel
theorem dX4_make_68 : decode cX4_make 68 = .ok (.iload_n 1, 1) := by decide +kernel
theorem dX4_make_69 : decode cX4_make 69 = .ok (.iload_n 2, 1) := by decide +kernel
theorem dX4_make_70 : decode cX4_make 70 = .ok (.iastore, 1) := by decide +kernel
theorem dX4_make_71 : decode cX4_make 71 = .ok (.return_, 1) := by decide +kernel
theorem dX4_drop_0 : decode cX4_drop 0 = .ok (.aload_n 0, 1) := by decide +kernel
theorem dX4_drop_1 : decode cX4_drop 1 = .ok (.iload_n 1, 1) := by decide +kernel
theorem dX4_drop_2 : decode cX4_drop 2 = .ok (.invokestatic 124, 3) := by decide +kernel
theorem dX4_drop_5 : decode cX4_drop 5 = .ok (.ifCond .eq 7, 3) := by decide +kernel
theorem dX4_drop_8 : decode cX4_drop 8 = .ok (.iconst 1, 1) := by decide +kernel
theorem dX4_drop_9 : decode cX4_drop 9 = .ok (.goto 22, 3) := by decide +kernel
theorem dX4_drop_12 : decode cX4_drop 12 = .ok (.aload_n 0, 1) := by decide +kernel
theorem dX4_drop_13 : decode cX4_drop 13 = .ok (.getfield 56, 3) := by decide +kernel
theorem dX4_drop_16 : decode cX4_drop 16 = .ok (.aload_n 0, 1) := by decide +kernel
theorem dX4_drop_17 : decode cX4_drop 17 = .ok (.getfield 53, 3) := by decide +kernel
theorem dX4_drop_20 : decode cX4_drop 20 = .ok (.iload_n 1, 1) := by decide +kernel
theorem dX4_drop_21 : decode cX4_drop 21 = .ok (.iaload, 1) := by decide +kernel
theorem dX4_drop_22 : decode cX4_drop 22 = .ok (.iaload, 1) := by decide +kernel
theorem dX4_drop_23 : decode cX4_drop 23 = .ok (.ifCond .ge 7, 3) := by decide +kernel
theorem dX4_drop_26 : decode cX4_drop 26 = .ok (.iconst 2, 1) := by decide +kernel
theorem dX4_drop_27 : decode cX4_drop 27 = .ok (.goto 4, 3) := by decide +kernel
theorem dX4_drop_30 : decode cX4_drop 30 = .ok (.iconst 0, 1) := by decide +kernel
theorem dX4_drop_31 : decode cX4_drop 31 = .ok (.putfield 62, 3) := by decide +kernel
theorem dX4_drop_34 : decode cX4_drop 34 = .ok (.aload_n 0, 1) := by decide +kernel
theorem dX4_drop_35 : decode cX4_drop 35 = .ok (.getfield 62, 3) := by decide +kernel
theorem dX4_drop_38 : decode cX4_drop 38 = .ok (.ifCond .ne 15, 3) := by decide +kernel
theorem dX4_drop_41 : decode cX4_drop 41 = .ok (.aload_n 0, 1) := by decide +kernel
theorem dX4_drop_42 : decode cX4_drop 42 = .ok (.getfield 56, 3) := by decide +kernel
theorem dX4_drop_45 : decode cX4_drop 45 = .ok (.aload_n 0, 1) := by decide +kernel
theorem dX4_drop_46 : decode cX4_drop 46 = .ok (.getfield 53, 3) := by decide +kernel
theorem dX4_drop_49 : decode cX4_drop 49 = .ok (.iload_n 1, 1) := by decide +kernel
theorem dX4_drop_50 : decode cX4_drop 50 = .ok (.iaload, 1) := by decide +kernel
theorem dX4_drop_51 : decode cX4_drop 51 = .ok (.iconst (-1), 1) := by decide +kernel
theorem dX4_drop_52 : decode cX4_drop 52 = .ok (.iastore, 1) := by decide +kernel
theorem dX4_drop_53 : decode cX4_drop 53 = .ok (.return_, 1) := by decide +kernel
theorem dX4_value_0 : decode cX4_value 0 = .ok (.aload_n 0, 1) := by decide +kernel
theorem dX4_value_1 : decode cX4_value 1 = .ok (.iload_n 1, 1) := by decide +kernel
theorem dX4_value_2 : decode cX4_value 2 = .ok (.invokestatic 70, 3) := by decide +kernel
theorem dX4_value_5 : decode cX4_value 5 = .ok (.ifCond .eq 7, 3) := by decide +kernel
theorem dX4_value_8 : decode cX4_value 8 = .ok (.iconst 1, 1) := by decide +kernel
theorem dX4_value_9 : decode cX4_value 9 = .ok (.goto 4, 3) := by decide +kernel
theorem dX4_value_12 : decode cX4_value 12 = .ok (.iconst 0, 1) := by decide +kernel
theorem dX4_value_13 : decode cX4_value 13 = .ok (.putfield 62, 3) := by decide +kernel
theorem dX4_value_16 : decode cX4_value 16 = .ok (.aload_n 0, 1) := by decide +kernel
theorem dX4_value_17 : decode cX4_value 17 = .ok (.getfield 62, 3) := by decide +kernel
theorem dX4_value_20 : decode cX4_value 20 = .ok (.ifCond .le 7, 3) := by decide +kernel
theorem dX4_value_23 : decode cX4_value 23 = .ok (.iconst 0, 1) := by decide +kernel
theorem dX4_value_24 : decode cX4_value 24 = .ok (.goto 8, 3) := by decide +kernel
theorem dX4_value_27 : decode cX4_value 27 = .ok (.aload_n 0, 1) := by decide +kernel
theorem dX4_value_28 : decode cX4_value 28 = .ok (.iload_n 1, 1) := by decide +kernel
theorem dX4_value_29 : decode cX4_value 29 = .ok (.invokevirtual 127, 3) := by decide +kernel
theorem dX4_value_32 : decode cX4_value 32 = .ok (.ireturn, 1) := by decide +kernel
theorem dX4_next_0 : decode cX4_next 0 = .ok (.aload_n 0, 1) := by decide +kernel
theorem dX4_next_1 : decode cX4_next 1 = .ok (.iconst 0, 1) := by decide +kernel
theorem dX4_next_2 : decode cX4_next 2 = .ok (.putfield 62, 3) := by decide +kernel
theorem dX4_next_5 : decode cX4_next 5 = .ok (.iload_n 1, 1) := by decide +kernel
theorem dX4_next_6 : decode cX4_next 6 = .ok (.iconst 1, 1) := by decide +kernel
theorem dX4_next_7 : decode cX4_next 7 = .ok (.if_icmp .lt 9, 3) := by decide +kernel
theorem dX4_next_10 : decode cX4_next 10 = .ok (.iload_n 1, 1) := by decide +kernel
theorem dX4_next_11 : decode cX4_next 11 = .ok (.bipush 9, 2) := by decide +kernel
theorem dX4_next_13 : decode cX4_next 13 = .ok (.if_icmp .le 7, 3) := by decide +kernel
theorem dX4_next_16 : decode cX4_next 16 = .ok (.iconst (-1), 1) := by decide +kernel
theorem dX4_next_17 : decode cX4_next 17 = .ok (.goto 9, 3) := by decide +kernel
theorem dX4_next_20 : decode cX4_next 20 = .ok (.aload_n 0, 1) := by decide +kernel
theorem dX4_next_21 : decode cX4_next 21 = .ok (.getfield 56, 3) := by decide +kernel
theorem dX4_next_24 : decode cX4_next 24 = .ok (.iload_n 1, 1) := by decide +kernel
theorem dX4_next_25 : decode cX4_next 25 = .ok (.iaload, 1) := by decide +kernel
theorem dX4_next_26 : decode cX4_next 26 = .ok (.ireturn, 1) := by decide +kernel
theorem dX4_count_0 : decode cX4_count 0 = .ok (.aload_n 0, 1) := by decide +kernel
theorem dX4_count_1 : decode cX4_count 1 = .ok (.iconst 0, 1) := by decide +kernel
theorem dX4_count_2 : decode cX4_count 2 = .ok (.putfield 62, 3) := by decide +kernel
theorem dX4_count_5 : decode cX4_count 5 = .ok (.iconst 0, 1) := by decide +kernel
theorem dX4_count_6 : decode cX4_count 6 = .ok (.istore_n 1, 1) := by decide +kernel
theorem dX4_count_7 : decode cX4_count 7 = .ok (.iconst 1, 1) := by decide +kernel
theorem dX4_count_8 : decode cX4_count 8 = .ok (.istore_n 2, 1) := by decide +kernel
theorem dX4_count_9 : decode cX4_count 9 = .ok (.iload_n 2, 1) := by decide +kernel
theorem dX4_count_10 : decode cX4_count 10 = .ok (.bipush 10, 2) := by decide +kernel
theorem dX4_count_12 : decode cX4_count 12 = .ok (.if_icmp .ge 26, 3) := by decide +kernel
theorem dX4_count_15 : decode cX4_count 15 = .ok (.aload_n 0, 1) := by decide +kernel
theorem dX4_count_16 : decode cX4_count 16 = .ok (.getfield 56, 3) := by decide +kernel
theorem dX4_count_19 : decode cX4_count 19 = .ok (.iload_n 2, 1) := by decide +kernel
theorem dX4_count_20 : decode cX4_count 20 = .ok (.iaload, 1) := by decide +kernel
theorem dX4_count_21 : decode cX4_count 21 = .ok (.ifCond .lt 9, 3) := by decide +kernel
theorem dX4_count_24 : decode cX4_count 24 = .ok (.iload_n 1, 1) := by decide +kernel
theorem dX4_count_25 : decode cX4_count 25 = .ok (.iconst 1, 1) := by decide +kernel
theorem dX4_count_26 : decode cX4_count 26 = .ok (.iadd, 1) := by decide +kernel
theorem dX4_count_27 : decode cX4_count 27 = .ok (.goto 4, 3) := by decide +kernel
theorem dX4_count_30 : decode cX4_count 30 = .ok (.iload_n 1, 1) := by decide +kernel
theorem dX4_count_31 : decode cX4_count 31 = .ok (.istore_n 1, 1) := by decide +kernel
theorem dX4_count_32 : decode cX4_count 32 = .ok (.iinc 2 1, 3) := by decide +kernel
theorem dX4_count_35 : decode cX4_count 35 = .ok (.goto (-26), 3) := by decide +kernel
theorem dX4_count_38 : decode cX4_count 38 = .ok (.iload_n 1, 1) := by decide +kernel
theorem dX4_count_39 : decode cX4_count 39 = .ok (.ireturn, 1) := by decide +kernel
end
section
/-! decoded instructions of the law -/
theorem dL_law_0 : decode cL_law 0 = .ok (.new 8, 3) := by decide +kernel
theorem dL_law_3 : decode cL_law 3 = .ok (.dup, 1) := by decide +kernel
theorem dL_law_4 : decode cL_law 4 = .ok (.invokespecial 69, 3) := by decide +kernel
theorem dL_law_7 : decode cL_law 7 = .ok (.astore_n 1, 1) := by decide +kernel
theorem dL_law_8 : decode cL_law 8 = .ok (.new 70, 3) := by decide +kernel
theorem dL_law_11 : decode cL_law 11 = .ok (.dup, 1) := by decide +kernel
theorem dL_law_12 : decode cL_law 12 = .ok (.invokespecial 72, 3) := by decide +kernel
theorem dL_law_15 : decode cL_law 15 = .ok (.astore_n 2, 1) := by decide +kernel
theorem dL_law_16 : decode cL_law 16 = .ok (.iconst 1, 1) := by decide +kernel
theorem dL_law_17 : decode cL_law 17 = .ok (.newarray .long, 2) := by decide +kernel
theorem dL_law_19 : decode cL_law 19 = .ok (.astore_n 3, 1) := by decide +kernel
theorem dL_law_20 : decode cL_law 20 = .ok (.iconst 0, 1) := by decide +kernel
theorem dL_law_21 : decode cL_law 21 = .ok (.istore 4, 2) := by decide +kernel
theorem dL_law_23 : decode cL_law 23 = .ok (.iload 4, 2) := by decide +kernel
theorem dL_law_25 : decode cL_law 25 = .ok (.aload_n 0, 1) := by decide +kernel
theorem dL_law_26 : decode cL_law 26 = .ok (.arraylength, 1) := by decide +kernel
theorem dL_law_27 : decode cL_law 27 = .ok (.iconst 5, 1) := by decide +kernel
theorem dL_law_28 : decode cL_law 28 = .ok (.isub, 1) := by decide +kernel
theorem dL_law_29 : decode cL_law 29 = .ok (.if_icmp .gt 1053, 3) := by decide +kernel
theorem dL_law_32 : decode cL_law 32 = .ok (.aload_n 0, 1) := by decide +kernel
theorem dL_law_33 : decode cL_law 33 = .ok (.iload 4, 2) := by decide +kernel
theorem dL_law_35 : decode cL_law 35 = .ok (.iaload, 1) := by decide +kernel
theorem dL_law_36 : decode cL_law 36 = .ok (.bipush 31, 2) := by decide +kernel
theorem dL_law_38 : decode cL_law 38 = .ok (.iand, 1) := by decide +kernel
theorem dL_law_39 : decode cL_law 39 = .ok (.tableswitch 1037 0 19 #[93, 181, 289, 325, 336, 392, 455, 468, 555, 568, 616, 664, 727, 775, 823, 871, 907, 943, 999, 1024], 93) := by decide +kernel
theorem dL_law_132 : decode cL_law 132 = .ok (.aload_n 1, 1) := by decide +kernel
theorem dL_law_133 : decode cL_law 133 = .ok (.aload_n 0, 1) := by decide +kernel
theorem dL_law_134 : decode cL_law 134 = .ok (.iload 4, 2) := by decide +kernel
theorem dL_law_136 : decode cL_law 136 = .ok (.iconst 1, 1) := by decide +kernel
theorem dL_law_137 : decode cL_law 137 = .ok (.iadd, 1) := by decide +kernel
theorem dL_law_138 : decode cL_law 138 = .ok (.iaload, 1) := by decide +kernel
theorem dL_law_139 : decode cL_law 139 = .ok (.aload_n 0, 1) := by decide +kernel
theorem dL_law_140 : decode cL_law 140 = .ok (.iload 4, 2) := by decide +kernel
theorem dL_law_142 : decode cL_law 142 = .ok (.iconst 2, 1) := by decide +kernel
theorem dL_law_143 : decode cL_law 143 = .ok (.iadd, 1) := by decide +kernel
theorem dL_law_144 : decode cL_law 144 = .ok (.iaload, 1) := by decide +kernel
theorem dL_law_145 : decode cL_law 145 = .ok (.aload_n 0, 1) := by decide +kernel
theorem dL_law_146 : decode cL_law 146 = .ok (.iload 4, 2) := by decide +kernel
theorem dL_law_148 : decode cL_law 148 = .ok (.iconst 3, 1) := by decide +kernel
theorem dL_law_149 : decode cL_law 149 = .ok (.iadd, 1) := by decide +kernel
theorem dL_law_150 : decode cL_law 150 = .ok (.iaload, 1) := by decide +kernel
theorem dL_law_151 : decode cL_law 151 = .ok (.aload_n 0, 1) := by decide +kernel
theorem dL_law_152 : decode cL_law 152 = .ok (.iload 4, 2) := by decide +kernel
theorem dL_law_154 : decode cL_law 154 = .ok (.iconst 4, 1) := by decide +kernel
theorem dL_law_155 : decode cL_law 155 = .ok (.iadd, 1) := by decide +kernel
theorem dL_law_156 : decode cL_law 156 = .ok (.iaload, 1) := by decide +kernel
theorem dL_law_157 : decode cL_law 157 = .ok (.ifCond .eq 7, 3) := by decide +kernel
theorem dL_law_160 : decode cL_law 160 = .ok (.iconst 1, 1) := by decide +kernel
theorem dL_law_161 : decode cL_law 161 = .ok (.goto 4, 3) := by decide +kernel
theorem dL_law_164 : decode cL_law 164 = .ok (.iconst 0, 1) := by decide +kernel
theorem dL_law_165 : decode cL_law 165 = .ok (.invokestatic 73, 3) := by decide +kernel
theorem dL_law_168 : decode cL_law 168 = .ok (.istore 5, 2) := by decide +kernel
theorem dL_law_170 : decode cL_law 170 = .ok (.aload_n 2, 1) := by decide +kernel
theorem dL_law_171 : decode cL_law 171 = .ok (.aload_n 0, 1) := by decide +kernel
theorem dL_law_172 : decode cL_law 172 = .ok (.iload 4, 2) := by decide +kernel
theorem dL_law_174 : decode cL_law 174 = .ok (.iconst 1, 1) := by decide +kernel
theorem dL_law_175 : decode cL_law 175 = .ok (.iadd, 1) := by decide +kernel
theorem dL_law_176 : decode cL_law 176 = .ok (.iaload, 1) := by decide +kernel
theorem dL_law_177 : decode cL_law 177 = .ok (.aload_n 0, 1) := by decide +kernel
theorem dL_law_178 : decode cL_law 178 = .ok (.iload 4, 2) := by decide +kernel
theorem dL_law_180 : decode cL_law 180 = .ok (.iconst 2, 1) := by decide +kernel
theorem dL_law_181 : decode cL_law 181 = .ok (.iadd, 1) := by decide +kernel
theorem dL_law_182 : decode cL_law 182 = .ok (.iaload, 1) := by decide +kernel
theorem dL_law_183 : decode cL_law 183 = .ok (.aload_n 0, 1) := by decide +kernel
theorem dL_law_184 : decode cL_law 184 = .ok (.iload 4, 2) := by decide +kernel
theorem dL_law_186 : decode cL_law 186 = .ok (.iconst 3, 1) := by decide +kernel
theorem dL_law_187 : decode cL_law 187 = .ok (.iadd, 1) := by decide +kernel
theorem dL_law_188 : decode cL_law 188 = .ok (.iaload, 1) := by decide +kernel
theorem dL_law_189 : decode cL_law 189 = .ok (.aload_n 0, 1) := by decide +kernel
theorem dL_law_190 : decode cL_law 190 = .ok (.iload 4, 2) := by decide +kernel
theorem dL_law_192 : decode cL_law 192 = .ok (.iconst 4, 1) := by decide +kernel
theorem dL_law_193 : decode cL_law 193 = .ok (.iadd, 1) := by decide +kernel
theorem dL_law_194 : decode cL_law 194 = .ok (.iaload, 1) := by decide +kernel
theorem dL_law_195 : decode cL_law 195 = .ok (.ifCond .eq 7, 3) := by decide +kernel
theorem dL_law_198 : decode cL_law 198 = .ok (.iconst 1, 1) := by decide +kernel
theorem dL_law_199 : decode cL_law 199 = .ok (.goto 4, 3) := by decide +kernel
theorem dL_law_202 : decode cL_law 202 = .ok (.iconst 0, 1) := by decide +kernel
theorem dL_law_203 : decode cL_law 203 = .ok (.invokevirtual 78, 3) := by decide +kernel
theorem dL_law_206 : decode cL_law 206 = .ok (.aload_n 2, 1) := by decide +kernel
theorem dL_law_207 : decode cL_law 207 = .ok (.invokevirtual 79, 3) := by decide +kernel
theorem dL_law_210 : decode cL_law 210 = .ok (.iload 5, 2) := by decide +kernel
theorem dL_law_212 : decode cL_law 212 = .ok (.if_icmp .eq 5, 3) := by decide +kernel
theorem dL_law_215 : decode cL_law 215 = .ok (.iconst 0, 1) := by decide +kernel
theorem dL_law_216 : decode cL_law 216 = .ok (.ireturn, 1) := by decide +kernel
theorem dL_law_217 : decode cL_law 217 = .ok (.goto 859, 3) := by decide +kernel
theorem dL_law_220 : decode cL_law 220 = .ok (.aload_n 1, 1) := by decide +kernel
theorem dL_law_221 : decode cL_law 221 = .ok (.aload_n 0, 1) := by decide +kernel
theorem dL_law_222 : decode cL_law 222 = .ok (.iload 4, 2) := by decide +kernel
theorem dL_law_224 : decode cL_law 224 = .ok (.iconst 1, 1) := by decide +kernel
theorem dL_law_225 : decode cL_law 225 = .ok (.iadd, 1) := by decide +kernel
theorem dL_law_226 : decode cL_law 226 = .ok (.iaload, 1) := by decide +kernel
theorem dL_law_227 : decode cL_law 227 = .ok (.aload_n 0, 1) := by decide +kernel
theorem dL_law_228 : decode cL_law 228 = .ok (.iload 4, 2) := by decide +kernel
theorem dL_law_230 : decode cL_law 230 = .ok (.iconst 2, 1) := by decide +kernel
theorem dL_law_231 : decode cL_law 231 = .ok (.iadd, 1) := by decide +kernel
theorem dL_law_232 : decode cL_law 232 = .ok (.iaload, 1) := by decide +kernel
theorem dL_law_233 : decode cL_law 233 = .ok (.aload_n 0, 1) := by decide +kernel
theorem dL_law_234 : decode cL_law 234 = .ok (.iload 4, 2) := by decide +kernel
theorem dL_law_236 : decode cL_law 236 = .ok (.iconst 3, 1) := by decide +kernel
theorem dL_law_237 : decode cL_law 237 = .ok (.iadd, 1) := by decide +kernel
theorem dL_law_238 : decode cL_law 238 = .ok (.iaload, 1) := by decide +kernel
theorem dL_law_239 : decode cL_law 239 = .ok (.aload_n 0, 1) := by decide +kernel
theorem dL_law_240 : decode cL_law 240 = .ok (.iload 4, 2) := by decide +kernel
theorem dL_law_242 : decode cL_law 242 = .ok (.iconst 4, 1) := by decide +kernel
theorem dL_law_243 : decode cL_law 243 = .ok (.iadd, 1) := by decide +kernel
theorem dL_law_244 : decode cL_law 244 = .ok (.iaload, 1) := by decide +kernel
theorem dL_law_245 : decode cL_law 245 = .ok (.ifCond .eq 7, 3) := by decide +kernel
theorem dL_law_248 : decode cL_law 248 = .ok (.iconst 1, 1) := by decide +kernel
theorem dL_law_249 : decode cL_law 249 = .ok (.goto 4, 3) := by decide +kernel
theorem dL_law_252 : decode cL_law 252 = .ok (.iconst 0, 1) := by decide +kernel
theorem dL_law_253 : decode cL_law 253 = .ok (.aload_n 3, 1) := by decide +kernel
theorem dL_law_254 : decode cL_law 254 = .ok (.invokestatic 83, 3) := by decide +kernel
theorem dL_law_257 : decode cL_law 257 = .ok (.istore 5, 2) := by decide +kernel
theorem dL_law_259 : decode cL_law 259 = .ok (.aload_n 2, 1) := by decide +kernel
theorem dL_law_260 : decode cL_law 260 = .ok (.aload_n 0, 1) := by decide +kernel
theorem dL_law_261 : decode cL_law 261 = .ok (.iload 4, 2) := by decide +kernel
theorem dL_law_263 : decode cL_law 263 = .ok (.iconst 1, 1) := by decide +kernel
theorem dL_law_264 : decode cL_law 264 = .ok (.iadd, 1) := by decide +kernel
theorem dL_law_265 : decode cL_law 265 = .ok (.iaload, 1) := by decide +kernel
theorem dL_law_266 : decode cL_law 266 = .ok (.aload_n 0, 1) := by decide +kernel
theorem dL_law_267 : decode cL_law 267 = .ok (.iload 4, 2) := by decide +kernel
theorem dL_law_269 : decode cL_law 269 = .ok (.iconst 2, 1) := by decide +kernel
theorem dL_law_270 : decode cL_law 270 = .ok (.iadd, 1) := by decide +kernel
theorem dL_law_271 : decode cL_law 271 = .ok (.iaload, 1) := by decide +kernel
theorem dL_law_272 : decode cL_law 272 = .ok (.aload_n 0, 1) := by decide +kernel
theorem dL_law_273 : decode cL_law 273 = .ok (.iload 4, 2) := by decide +kernel
theorem dL_law_275 : decode cL_law 275 = .ok (.iconst 3, 1) := by decide +kernel
theorem dL_law_276 : decode cL_law 276 = .ok (.iadd, 1) := by decide +kernel
theorem dL_law_277 : decode cL_law 277 = .ok (.iaload, 1) := by decide +kernel
theorem dL_law_278 : decode cL_law 278 = .ok (.aload_n 0, 1) := by decide +kernel
theorem dL_law_279 : decode cL_law 279 = .ok (.iload 4, 2) := by decide +kernel
theorem dL_law_281 : decode cL_law 281 = .ok (.iconst 4, 1) := by decide +kernel
theorem dL_law_282 : decode cL_law 282 = .ok (.iadd, 1) := by decide +kernel
theorem dL_law_283 : decode cL_law 283 = .ok (.iaload, 1) := by decide +kernel
theorem dL_law_284 : decode cL_law 284 = .ok (.ifCond .eq 7, 3) := by decide +kernel
theorem dL_law_287 : decode cL_law 287 = .ok (.iconst 1, 1) := by decide +kernel
theorem dL_law_288 : decode cL_law 288 = .ok (.goto 4, 3) := by decide +kernel
theorem dL_law_291 : decode cL_law 291 = .ok (.iconst 0, 1) := by decide +kernel
theorem dL_law_292 : decode cL_law 292 = .ok (.invokevirtual 86, 3) := by decide +kernel
theorem dL_law_295 : decode cL_law 295 = .ok (.istore 6, 2) := by decide +kernel
theorem dL_law_297 : decode cL_law 297 = .ok (.aload_n 2, 1) := by decide +kernel
theorem dL_law_298 : decode cL_law 298 = .ok (.invokevirtual 79, 3) := by decide +kernel
theorem dL_law_301 : decode cL_law 301 = .ok (.iload 5, 2) := by decide +kernel
theorem dL_law_303 : decode cL_law 303 = .ok (.if_icmp .eq 5, 3) := by decide +kernel
theorem dL_law_306 : decode cL_law 306 = .ok (.iconst 0, 1) := by decide +kernel
theorem dL_law_307 : decode cL_law 307 = .ok (.ireturn, 1) := by decide +kernel
theorem dL_law_308 : decode cL_law 308 = .ok (.iload 5, 2) := by decide +kernel
theorem dL_law_310 : decode cL_law 310 = .ok (.ifCond .ne 15, 3) := by decide +kernel
theorem dL_law_313 : decode cL_law 313 = .ok (.aload_n 3, 1) := by decide +kernel
theorem dL_law_314 : decode cL_law 314 = .ok (.iconst 0, 1) := by decide +kernel
theorem dL_law_315 : decode cL_law 315 = .ok (.laload, 1) := by decide +kernel
theorem dL_law_316 : decode cL_law 316 = .ok (.iload 6, 2) := by decide +kernel
theorem dL_law_318 : decode cL_law 318 = .ok (.i2l, 1) := by decide +kernel
theorem dL_law_319 : decode cL_law 319 = .ok (.lcmp, 1) := by decide +kernel
theorem dL_law_320 : decode cL_law 320 = .ok (.ifCond .eq 5, 3) := by decide +kernel
theorem dL_law_323 : decode cL_law 323 = .ok (.iconst 0, 1) := by decide +kernel
theorem dL_law_324 : decode cL_law 324 = .ok (.ireturn, 1) := by decide +kernel
theorem dL_law_325 : decode cL_law 325 = .ok (.goto 751, 3) := by decide +kernel
theorem dL_law_328 : decode cL_law 328 = .ok (.aload_n 1, 1) := by decide +kernel
theorem dL_law_329 : decode cL_law 329 = .ok (.aload_n 0, 1) := by decide +kernel
end
section
/-! decoded instructions of the law -/
theorem dL_law_330 : decode cL_law 330 = .ok (.iload 4, 2) := by decide +kernel
theorem dL_law_332 : decode cL_law 332 = .ok (.iconst 1, 1) := by decide +kernel
theorem dL_law_333 : decode cL_law 333 = .ok (.iadd, 1) := by decide +kernel
theorem dL_law_334 : decode cL_law 334 = .ok (.iaload, 1) := by decide +kernel
theorem dL_law_335 : decode cL_law 335 = .ok (.invokestatic 87, 3) := by decide +kernel
theorem dL_law_338 : decode cL_law 338 = .ok (.istore 5, 2) := by decide +kernel
theorem dL_law_340 : decode cL_law 340 = .ok (.aload_n 2, 1) := by decide +kernel
theorem dL_law_341 : decode cL_law 341 = .ok (.aload_n 0, 1) := by decide +kernel
theorem dL_law_342 : decode cL_law 342 = .ok (.iload 4, 2) := by decide +kernel
theorem dL_law_344 : decode cL_law 344 = .ok (.iconst 1, 1) := by decide +kernel
theorem dL_law_345 : decode cL_law 345 = .ok (.iadd, 1) := by decide +kernel
theorem dL_law_346 : decode cL_law 346 = .ok (.iaload, 1) := by decide +kernel
theorem dL_law_347 : decode cL_law 347 = .ok (.invokevirtual 90, 3) := by decide +kernel
theorem dL_law_350 : decode cL_law 350 = .ok (.aload_n 2, 1) := by decide +kernel
theorem dL_law_351 : decode cL_law 351 = .ok (.invokevirtual 79, 3) := by decide +kernel
theorem dL_law_354 : decode cL_law 354 = .ok (.iload 5, 2) := by decide +kernel
theorem dL_law_356 : decode cL_law 356 = .ok (.if_icmp .eq 5, 3) := by decide +kernel
theorem dL_law_359 : decode cL_law 359 = .ok (.iconst 0, 1) := by decide +kernel
theorem dL_law_360 : decode cL_law 360 = .ok (.ireturn, 1) := by decide +kernel
theorem dL_law_361 : decode cL_law 361 = .ok (.goto 715, 3) := by decide +kernel
theorem dL_law_364 : decode cL_law 364 = .ok (.aload_n 1, 1) := by decide +kernel
theorem dL_law_365 : decode cL_law 365 = .ok (.invokevirtual 91, 3) := by decide +kernel
theorem dL_law_368 : decode cL_law 368 = .ok (.aload_n 2, 1) := by decide +kernel
theorem dL_law_369 : decode cL_law 369 = .ok (.invokevirtual 94, 3) := by decide +kernel
theorem dL_law_372 : decode cL_law 372 = .ok (.goto 704, 3) := by decide +kernel
theorem dL_law_375 : decode cL_law 375 = .ok (.aload_n 1, 1) := by decide +kernel
theorem dL_law_376 : decode cL_law 376 = .ok (.aload_n 0, 1) := by decide +kernel
theorem dL_law_377 : decode cL_law 377 = .ok (.iload 4, 2) := by decide +kernel
theorem dL_law_379 : decode cL_law 379 = .ok (.iconst 1, 1) := by decide +kernel
theorem dL_law_380 : decode cL_law 380 = .ok (.iadd, 1) := by decide +kernel
theorem dL_law_381 : decode cL_law 381 = .ok (.iaload, 1) := by decide +kernel
theorem dL_law_382 : decode cL_law 382 = .ok (.aload_n 3, 1) := by decide +kernel
theorem dL_law_383 : decode cL_law 383 = .ok (.invokestatic 95, 3) := by decide +kernel
theorem dL_law_386 : decode cL_law 386 = .ok (.istore 5, 2) := by decide +kernel
theorem dL_law_388 : decode cL_law 388 = .ok (.aload_n 2, 1) := by decide +kernel
theorem dL_law_389 : decode cL_law 389 = .ok (.aload_n 0, 1) := by decide +kernel
theorem dL_law_390 : decode cL_law 390 = .ok (.iload 4, 2) := by decide +kernel
theorem dL_law_392 : decode cL_law 392 = .ok (.iconst 1, 1) := by decide +kernel
theorem dL_law_393 : decode cL_law 393 = .ok (.iadd, 1) := by decide +kernel
theorem dL_law_394 : decode cL_law 394 = .ok (.iaload, 1) := by decide +kernel
theorem dL_law_395 : decode cL_law 395 = .ok (.invokevirtual 98, 3) := by decide +kernel
theorem dL_law_398 : decode cL_law 398 = .ok (.istore 6, 2) := by decide +kernel
theorem dL_law_400 : decode cL_law 400 = .ok (.aload_n 2, 1) := by decide +kernel
theorem dL_law_401 : decode cL_law 401 = .ok (.invokevirtual 79, 3) := by decide +kernel
theorem dL_law_404 : decode cL_law 404 = .ok (.iload 5, 2) := by decide +kernel
theorem dL_law_406 : decode cL_law 406 = .ok (.if_icmp .eq 5, 3) := by decide +kernel
theorem dL_law_409 : decode cL_law 409 = .ok (.iconst 0, 1) := by decide +kernel
theorem dL_law_410 : decode cL_law 410 = .ok (.ireturn, 1) := by decide +kernel
theorem dL_law_411 : decode cL_law 411 = .ok (.iload 5, 2) := by decide +kernel
theorem dL_law_413 : decode cL_law 413 = .ok (.ifCond .ne 15, 3) := by decide +kernel
theorem dL_law_416 : decode cL_law 416 = .ok (.aload_n 3, 1) := by decide +kernel
theorem dL_law_417 : decode cL_law 417 = .ok (.iconst 0, 1) := by decide +kernel
theorem dL_law_418 : decode cL_law 418 = .ok (.laload, 1) := by decide +kernel
theorem dL_law_419 : decode cL_law 419 = .ok (.iload 6, 2) := by decide +kernel
theorem dL_law_421 : decode cL_law 421 = .ok (.i2l, 1) := by decide +kernel
theorem dL_law_422 : decode cL_law 422 = .ok (.lcmp, 1) := by decide +kernel
theorem dL_law_423 : decode cL_law 423 = .ok (.ifCond .eq 5, 3) := by decide +kernel
theorem dL_law_426 : decode cL_law 426 = .ok (.iconst 0, 1) := by decide +kernel
theorem dL_law_427 : decode cL_law 427 = .ok (.ireturn, 1) := by decide +kernel
theorem dL_law_428 : decode cL_law 428 = .ok (.goto 648, 3) := by decide +kernel
theorem dL_law_431 : decode cL_law 431 = .ok (.aload_n 1, 1) := by decide +kernel
theorem dL_law_432 : decode cL_law 432 = .ok (.aload_n 0, 1) := by decide +kernel
theorem dL_law_433 : decode cL_law 433 = .ok (.iload 4, 2) := by decide +kernel
theorem dL_law_435 : decode cL_law 435 = .ok (.iconst 1, 1) := by decide +kernel
theorem dL_law_436 : decode cL_law 436 = .ok (.iadd, 1) := by decide +kernel
theorem dL_law_437 : decode cL_law 437 = .ok (.iaload, 1) := by decide +kernel
theorem dL_law_438 : decode cL_law 438 = .ok (.aload_n 3, 1) := by decide +kernel
theorem dL_law_439 : decode cL_law 439 = .ok (.invokestatic 99, 3) := by decide +kernel
theorem dL_law_442 : decode cL_law 442 = .ok (.istore 5, 2) := by decide +kernel
theorem dL_law_444 : decode cL_law 444 = .ok (.aload_n 2, 1) := by decide +kernel
theorem dL_law_445 : decode cL_law 445 = .ok (.aload_n 0, 1) := by decide +kernel
theorem dL_law_446 : decode cL_law 446 = .ok (.iload 4, 2) := by decide +kernel
theorem dL_law_448 : decode cL_law 448 = .ok (.iconst 1, 1) := by decide +kernel
theorem dL_law_449 : decode cL_law 449 = .ok (.iadd, 1) := by decide +kernel
theorem dL_law_450 : decode cL_law 450 = .ok (.iaload, 1) := by decide +kernel
theorem dL_law_451 : decode cL_law 451 = .ok (.invokevirtual 101, 3) := by decide +kernel
theorem dL_law_454 : decode cL_law 454 = .ok (.istore 6, 2) := by decide +kernel
theorem dL_law_456 : decode cL_law 456 = .ok (.aload_n 2, 1) := by decide +kernel
theorem dL_law_457 : decode cL_law 457 = .ok (.invokevirtual 79, 3) := by decide +kernel
theorem dL_law_460 : decode cL_law 460 = .ok (.iload 5, 2) := by decide +kernel
theorem dL_law_462 : decode cL_law 462 = .ok (.if_icmp .eq 5, 3) := by decide +kernel
theorem dL_law_465 : decode cL_law 465 = .ok (.iconst 0, 1) := by decide +kernel
theorem dL_law_466 : decode cL_law 466 = .ok (.ireturn, 1) := by decide +kernel
theorem dL_law_467 : decode cL_law 467 = .ok (.iload 5, 2) := by decide +kernel
theorem dL_law_469 : decode cL_law 469 = .ok (.ifCond .ne 22, 3) := by decide +kernel
theorem dL_law_472 : decode cL_law 472 = .ok (.aload_n 3, 1) := by decide +kernel
theorem dL_law_473 : decode cL_law 473 = .ok (.iconst 0, 1) := by decide +kernel
theorem dL_law_474 : decode cL_law 474 = .ok (.laload, 1) := by decide +kernel
theorem dL_law_475 : decode cL_law 475 = .ok (.iload 6, 2) := by decide +kernel
theorem dL_law_477 : decode cL_law 477 = .ok (.ifCond .eq 7, 3) := by decide +kernel
theorem dL_law_480 : decode cL_law 480 = .ok (.lconst 1, 1) := by decide +kernel
theorem dL_law_481 : decode cL_law 481 = .ok (.goto 4, 3) := by decide +kernel
theorem dL_law_484 : decode cL_law 484 = .ok (.lconst 0, 1) := by decide +kernel
theorem dL_law_485 : decode cL_law 485 = .ok (.lcmp, 1) := by decide +kernel
theorem dL_law_486 : decode cL_law 486 = .ok (.ifCond .eq 5, 3) := by decide +kernel
theorem dL_law_489 : decode cL_law 489 = .ok (.iconst 0, 1) := by decide +kernel
theorem dL_law_490 : decode cL_law 490 = .ok (.ireturn, 1) := by decide +kernel
theorem dL_law_491 : decode cL_law 491 = .ok (.goto 585, 3) := by decide +kernel
theorem dL_law_494 : decode cL_law 494 = .ok (.aload_n 1, 1) := by decide +kernel
theorem dL_law_495 : decode cL_law 495 = .ok (.invokevirtual 102, 3) := by decide +kernel
theorem dL_law_498 : decode cL_law 498 = .ok (.aload_n 2, 1) := by decide +kernel
theorem dL_law_499 : decode cL_law 499 = .ok (.invokevirtual 106, 3) := by decide +kernel
theorem dL_law_502 : decode cL_law 502 = .ok (.if_icmp .eq 574, 3) := by decide +kernel
theorem dL_law_505 : decode cL_law 505 = .ok (.iconst 0, 1) := by decide +kernel
theorem dL_law_506 : decode cL_law 506 = .ok (.ireturn, 1) := by decide +kernel
theorem dL_law_507 : decode cL_law 507 = .ok (.aload_n 1, 1) := by decide +kernel
theorem dL_law_508 : decode cL_law 508 = .ok (.aload_n 0, 1) := by decide +kernel
theorem dL_law_509 : decode cL_law 509 = .ok (.iload 4, 2) := by decide +kernel
theorem dL_law_511 : decode cL_law 511 = .ok (.iconst 1, 1) := by decide +kernel
theorem dL_law_512 : decode cL_law 512 = .ok (.iadd, 1) := by decide +kernel
theorem dL_law_513 : decode cL_law 513 = .ok (.iaload, 1) := by decide +kernel
theorem dL_law_514 : decode cL_law 514 = .ok (.aload_n 0, 1) := by decide +kernel
theorem dL_law_515 : decode cL_law 515 = .ok (.iload 4, 2) := by decide +kernel
theorem dL_law_517 : decode cL_law 517 = .ok (.iconst 2, 1) := by decide +kernel
theorem dL_law_518 : decode cL_law 518 = .ok (.iadd, 1) := by decide +kernel
theorem dL_law_519 : decode cL_law 519 = .ok (.iaload, 1) := by decide +kernel
theorem dL_law_520 : decode cL_law 520 = .ok (.aload_n 0, 1) := by decide +kernel
theorem dL_law_521 : decode cL_law 521 = .ok (.iload 4, 2) := by decide +kernel
theorem dL_law_523 : decode cL_law 523 = .ok (.iconst 3, 1) := by decide +kernel
theorem dL_law_524 : decode cL_law 524 = .ok (.iadd, 1) := by decide +kernel
theorem dL_law_525 : decode cL_law 525 = .ok (.iaload, 1) := by decide +kernel
theorem dL_law_526 : decode cL_law 526 = .ok (.aload_n 3, 1) := by decide +kernel
theorem dL_law_527 : decode cL_law 527 = .ok (.invokestatic 107, 3) := by decide +kernel
theorem dL_law_530 : decode cL_law 530 = .ok (.istore 5, 2) := by decide +kernel
theorem dL_law_532 : decode cL_law 532 = .ok (.aload_n 2, 1) := by decide +kernel
theorem dL_law_533 : decode cL_law 533 = .ok (.aload_n 0, 1) := by decide +kernel
theorem dL_law_534 : decode cL_law 534 = .ok (.iload 4, 2) := by decide +kernel
theorem dL_law_536 : decode cL_law 536 = .ok (.iconst 1, 1) := by decide +kernel
theorem dL_law_537 : decode cL_law 537 = .ok (.iadd, 1) := by decide +kernel
theorem dL_law_538 : decode cL_law 538 = .ok (.iaload, 1) := by decide +kernel
theorem dL_law_539 : decode cL_law 539 = .ok (.aload_n 0, 1) := by decide +kernel
theorem dL_law_540 : decode cL_law 540 = .ok (.iload 4, 2) := by decide +kernel
theorem dL_law_542 : decode cL_law 542 = .ok (.iconst 2, 1) := by decide +kernel
theorem dL_law_543 : decode cL_law 543 = .ok (.iadd, 1) := by decide +kernel
theorem dL_law_544 : decode cL_law 544 = .ok (.iaload, 1) := by decide +kernel
theorem dL_law_545 : decode cL_law 545 = .ok (.aload_n 0, 1) := by decide +kernel
theorem dL_law_546 : decode cL_law 546 = .ok (.iload 4, 2) := by decide +kernel
theorem dL_law_548 : decode cL_law 548 = .ok (.iconst 3, 1) := by decide +kernel
theorem dL_law_549 : decode cL_law 549 = .ok (.iadd, 1) := by decide +kernel
theorem dL_law_550 : decode cL_law 550 = .ok (.iaload, 1) := by decide +kernel
theorem dL_law_551 : decode cL_law 551 = .ok (.invokevirtual 110, 3) := by decide +kernel
theorem dL_law_554 : decode cL_law 554 = .ok (.istore 6, 2) := by decide +kernel
theorem dL_law_556 : decode cL_law 556 = .ok (.aload_n 2, 1) := by decide +kernel
theorem dL_law_557 : decode cL_law 557 = .ok (.invokevirtual 79, 3) := by decide +kernel
theorem dL_law_560 : decode cL_law 560 = .ok (.iload 5, 2) := by decide +kernel
theorem dL_law_562 : decode cL_law 562 = .ok (.if_icmp .eq 5, 3) := by decide +kernel
theorem dL_law_565 : decode cL_law 565 = .ok (.iconst 0, 1) := by decide +kernel
theorem dL_law_566 : decode cL_law 566 = .ok (.ireturn, 1) := by decide +kernel
theorem dL_law_567 : decode cL_law 567 = .ok (.iload 5, 2) := by decide +kernel
theorem dL_law_569 : decode cL_law 569 = .ok (.ifCond .ne 22, 3) := by decide +kernel
theorem dL_law_572 : decode cL_law 572 = .ok (.aload_n 3, 1) := by decide +kernel
theorem dL_law_573 : decode cL_law 573 = .ok (.iconst 0, 1) := by decide +kernel
theorem dL_law_574 : decode cL_law 574 = .ok (.laload, 1) := by decide +kernel
theorem dL_law_575 : decode cL_law 575 = .ok (.iload 6, 2) := by decide +kernel
theorem dL_law_577 : decode cL_law 577 = .ok (.ifCond .eq 7, 3) := by decide +kernel
theorem dL_law_580 : decode cL_law 580 = .ok (.lconst 1, 1) := by decide +kernel
theorem dL_law_581 : decode cL_law 581 = .ok (.goto 4, 3) := by decide +kernel
theorem dL_law_584 : decode cL_law 584 = .ok (.lconst 0, 1) := by decide +kernel
theorem dL_law_585 : decode cL_law 585 = .ok (.lcmp, 1) := by decide +kernel
theorem dL_law_586 : decode cL_law 586 = .ok (.ifCond .eq 5, 3) := by decide +kernel
end
section
/-! decoded instructions of the law -/
theorem dL_law_589 : decode cL_law 589 = .ok (.iconst 0, 1) := by decide +kernel
theorem dL_law_590 : decode cL_law 590 = .ok (.ireturn, 1) := by decide +kernel
theorem dL_law_591 : decode cL_law 591 = .ok (.goto 485, 3) := by decide +kernel
theorem dL_law_594 : decode cL_law 594 = .ok (.aload_n 1, 1) := by decide +kernel
theorem dL_law_595 : decode cL_law 595 = .ok (.invokevirtual 111, 3) := by decide +kernel
theorem dL_law_598 : decode cL_law 598 = .ok (.aload_n 2, 1) := by decide +kernel
theorem dL_law_599 : decode cL_law 599 = .ok (.invokevirtual 114, 3) := by decide +kernel
theorem dL_law_602 : decode cL_law 602 = .ok (.if_icmp .eq 474, 3) := by decide +kernel
theorem dL_law_605 : decode cL_law 605 = .ok (.iconst 0, 1) := by decide +kernel
theorem dL_law_606 : decode cL_law 606 = .ok (.ireturn, 1) := by decide +kernel
theorem dL_law_607 : decode cL_law 607 = .ok (.aload_n 1, 1) := by decide +kernel
theorem dL_law_608 : decode cL_law 608 = .ok (.aload_n 0, 1) := by decide +kernel
theorem dL_law_609 : decode cL_law 609 = .ok (.iload 4, 2) := by decide +kernel
theorem dL_law_611 : decode cL_law 611 = .ok (.iconst 1, 1) := by decide +kernel
theorem dL_law_612 : decode cL_law 612 = .ok (.iadd, 1) := by decide +kernel
theorem dL_law_613 : decode cL_law 613 = .ok (.iaload, 1) := by decide +kernel
theorem dL_law_614 : decode cL_law 614 = .ok (.aload_n 0, 1) := by decide +kernel
theorem dL_law_615 : decode cL_law 615 = .ok (.iload 4, 2) := by decide +kernel
theorem dL_law_617 : decode cL_law 617 = .ok (.iconst 2, 1) := by decide +kernel
theorem dL_law_618 : decode cL_law 618 = .ok (.iadd, 1) := by decide +kernel
theorem dL_law_619 : decode cL_law 619 = .ok (.iaload, 1) := by decide +kernel
theorem dL_law_620 : decode cL_law 620 = .ok (.invokestatic 115, 3) := by decide +kernel
theorem dL_law_623 : decode cL_law 623 = .ok (.istore 5, 2) := by decide +kernel
theorem dL_law_625 : decode cL_law 625 = .ok (.aload_n 2, 1) := by decide +kernel
theorem dL_law_626 : decode cL_law 626 = .ok (.aload_n 0, 1) := by decide +kernel
theorem dL_law_627 : decode cL_law 627 = .ok (.iload 4, 2) := by decide +kernel
theorem dL_law_629 : decode cL_law 629 = .ok (.iconst 1, 1) := by decide +kernel
theorem dL_law_630 : decode cL_law 630 = .ok (.iadd, 1) := by decide +kernel
theorem dL_law_631 : decode cL_law 631 = .ok (.iaload, 1) := by decide +kernel
theorem dL_law_632 : decode cL_law 632 = .ok (.aload_n 0, 1) := by decide +kernel
theorem dL_law_633 : decode cL_law 633 = .ok (.iload 4, 2) := by decide +kernel
theorem dL_law_635 : decode cL_law 635 = .ok (.iconst 2, 1) := by decide +kernel
theorem dL_law_636 : decode cL_law 636 = .ok (.iadd, 1) := by decide +kernel
theorem dL_law_637 : decode cL_law 637 = .ok (.iaload, 1) := by decide +kernel
theorem dL_law_638 : decode cL_law 638 = .ok (.invokevirtual 118, 3) := by decide +kernel
theorem dL_law_641 : decode cL_law 641 = .ok (.aload_n 2, 1) := by decide +kernel
theorem dL_law_642 : decode cL_law 642 = .ok (.invokevirtual 79, 3) := by decide +kernel
theorem dL_law_645 : decode cL_law 645 = .ok (.iload 5, 2) := by decide +kernel
theorem dL_law_647 : decode cL_law 647 = .ok (.if_icmp .eq 5, 3) := by decide +kernel
theorem dL_law_650 : decode cL_law 650 = .ok (.iconst 0, 1) := by decide +kernel
theorem dL_law_651 : decode cL_law 651 = .ok (.ireturn, 1) := by decide +kernel
theorem dL_law_652 : decode cL_law 652 = .ok (.goto 424, 3) := by decide +kernel
theorem dL_law_655 : decode cL_law 655 = .ok (.aload_n 1, 1) := by decide +kernel
theorem dL_law_656 : decode cL_law 656 = .ok (.aload_n 0, 1) := by decide +kernel
theorem dL_law_657 : decode cL_law 657 = .ok (.iload 4, 2) := by decide +kernel
theorem dL_law_659 : decode cL_law 659 = .ok (.iconst 1, 1) := by decide +kernel
theorem dL_law_660 : decode cL_law 660 = .ok (.iadd, 1) := by decide +kernel
theorem dL_law_661 : decode cL_law 661 = .ok (.iaload, 1) := by decide +kernel
theorem dL_law_662 : decode cL_law 662 = .ok (.aload_n 0, 1) := by decide +kernel
theorem dL_law_663 : decode cL_law 663 = .ok (.iload 4, 2) := by decide +kernel
theorem dL_law_665 : decode cL_law 665 = .ok (.iconst 2, 1) := by decide +kernel
theorem dL_law_666 : decode cL_law 666 = .ok (.iadd, 1) := by decide +kernel
theorem dL_law_667 : decode cL_law 667 = .ok (.iaload, 1) := by decide +kernel
theorem dL_law_668 : decode cL_law 668 = .ok (.invokestatic 119, 3) := by decide +kernel
theorem dL_law_671 : decode cL_law 671 = .ok (.istore 5, 2) := by decide +kernel
theorem dL_law_673 : decode cL_law 673 = .ok (.aload_n 2, 1) := by decide +kernel
theorem dL_law_674 : decode cL_law 674 = .ok (.aload_n 0, 1) := by decide +kernel
theorem dL_law_675 : decode cL_law 675 = .ok (.iload 4, 2) := by decide +kernel
theorem dL_law_677 : decode cL_law 677 = .ok (.iconst 1, 1) := by decide +kernel
theorem dL_law_678 : decode cL_law 678 = .ok (.iadd, 1) := by decide +kernel
theorem dL_law_679 : decode cL_law 679 = .ok (.iaload, 1) := by decide +kernel
theorem dL_law_680 : decode cL_law 680 = .ok (.aload_n 0, 1) := by decide +kernel
theorem dL_law_681 : decode cL_law 681 = .ok (.iload 4, 2) := by decide +kernel
theorem dL_law_683 : decode cL_law 683 = .ok (.iconst 2, 1) := by decide +kernel
theorem dL_law_684 : decode cL_law 684 = .ok (.iadd, 1) := by decide +kernel
theorem dL_law_685 : decode cL_law 685 = .ok (.iaload, 1) := by decide +kernel
theorem dL_law_686 : decode cL_law 686 = .ok (.invokevirtual 121, 3) := by decide +kernel
theorem dL_law_689 : decode cL_law 689 = .ok (.aload_n 2, 1) := by decide +kernel
theorem dL_law_690 : decode cL_law 690 = .ok (.invokevirtual 79, 3) := by decide +kernel
theorem dL_law_693 : decode cL_law 693 = .ok (.iload 5, 2) := by decide +kernel
theorem dL_law_695 : decode cL_law 695 = .ok (.if_icmp .eq 5, 3) := by decide +kernel
theorem dL_law_698 : decode cL_law 698 = .ok (.iconst 0, 1) := by decide +kernel
theorem dL_law_699 : decode cL_law 699 = .ok (.ireturn, 1) := by decide +kernel
theorem dL_law_700 : decode cL_law 700 = .ok (.goto 376, 3) := by decide +kernel
theorem dL_law_703 : decode cL_law 703 = .ok (.aload_n 1, 1) := by decide +kernel
theorem dL_law_704 : decode cL_law 704 = .ok (.aload_n 0, 1) := by decide +kernel
theorem dL_law_705 : decode cL_law 705 = .ok (.iload 4, 2) := by decide +kernel
theorem dL_law_707 : decode cL_law 707 = .ok (.iconst 1, 1) := by decide +kernel
theorem dL_law_708 : decode cL_law 708 = .ok (.iadd, 1) := by decide +kernel
theorem dL_law_709 : decode cL_law 709 = .ok (.iaload, 1) := by decide +kernel
theorem dL_law_710 : decode cL_law 710 = .ok (.aload_n 3, 1) := by decide +kernel
theorem dL_law_711 : decode cL_law 711 = .ok (.invokestatic 122, 3) := by decide +kernel
theorem dL_law_714 : decode cL_law 714 = .ok (.istore 5, 2) := by decide +kernel
theorem dL_law_716 : decode cL_law 716 = .ok (.aload_n 2, 1) := by decide +kernel
theorem dL_law_717 : decode cL_law 717 = .ok (.aload_n 0, 1) := by decide +kernel
theorem dL_law_718 : decode cL_law 718 = .ok (.iload 4, 2) := by decide +kernel
theorem dL_law_720 : decode cL_law 720 = .ok (.iconst 1, 1) := by decide +kernel
theorem dL_law_721 : decode cL_law 721 = .ok (.iadd, 1) := by decide +kernel
theorem dL_law_722 : decode cL_law 722 = .ok (.iaload, 1) := by decide +kernel
theorem dL_law_723 : decode cL_law 723 = .ok (.invokevirtual 124, 3) := by decide +kernel
theorem dL_law_726 : decode cL_law 726 = .ok (.istore 6, 2) := by decide +kernel
theorem dL_law_728 : decode cL_law 728 = .ok (.aload_n 2, 1) := by decide +kernel
theorem dL_law_729 : decode cL_law 729 = .ok (.invokevirtual 79, 3) := by decide +kernel
theorem dL_law_732 : decode cL_law 732 = .ok (.iload 5, 2) := by decide +kernel
theorem dL_law_734 : decode cL_law 734 = .ok (.if_icmp .eq 5, 3) := by decide +kernel
theorem dL_law_737 : decode cL_law 737 = .ok (.iconst 0, 1) := by decide +kernel
theorem dL_law_738 : decode cL_law 738 = .ok (.ireturn, 1) := by decide +kernel
theorem dL_law_739 : decode cL_law 739 = .ok (.iload 5, 2) := by decide +kernel
theorem dL_law_741 : decode cL_law 741 = .ok (.ifCond .ne 22, 3) := by decide +kernel
theorem dL_law_744 : decode cL_law 744 = .ok (.aload_n 3, 1) := by decide +kernel
theorem dL_law_745 : decode cL_law 745 = .ok (.iconst 0, 1) := by decide +kernel
theorem dL_law_746 : decode cL_law 746 = .ok (.laload, 1) := by decide +kernel
theorem dL_law_747 : decode cL_law 747 = .ok (.iload 6, 2) := by decide +kernel
theorem dL_law_749 : decode cL_law 749 = .ok (.ifCond .eq 7, 3) := by decide +kernel
theorem dL_law_752 : decode cL_law 752 = .ok (.lconst 1, 1) := by decide +kernel
theorem dL_law_753 : decode cL_law 753 = .ok (.goto 4, 3) := by decide +kernel
theorem dL_law_756 : decode cL_law 756 = .ok (.lconst 0, 1) := by decide +kernel
theorem dL_law_757 : decode cL_law 757 = .ok (.lcmp, 1) := by decide +kernel
theorem dL_law_758 : decode cL_law 758 = .ok (.ifCond .eq 5, 3) := by decide +kernel
theorem dL_law_761 : decode cL_law 761 = .ok (.iconst 0, 1) := by decide +kernel
theorem dL_law_762 : decode cL_law 762 = .ok (.ireturn, 1) := by decide +kernel
theorem dL_law_763 : decode cL_law 763 = .ok (.goto 313, 3) := by decide +kernel
theorem dL_law_766 : decode cL_law 766 = .ok (.aload_n 1, 1) := by decide +kernel
theorem dL_law_767 : decode cL_law 767 = .ok (.aload_n 0, 1) := by decide +kernel
theorem dL_law_768 : decode cL_law 768 = .ok (.iload 4, 2) := by decide +kernel
theorem dL_law_770 : decode cL_law 770 = .ok (.iconst 1, 1) := by decide +kernel
theorem dL_law_771 : decode cL_law 771 = .ok (.iadd, 1) := by decide +kernel
theorem dL_law_772 : decode cL_law 772 = .ok (.iaload, 1) := by decide +kernel
theorem dL_law_773 : decode cL_law 773 = .ok (.aload_n 0, 1) := by decide +kernel
theorem dL_law_774 : decode cL_law 774 = .ok (.iload 4, 2) := by decide +kernel
theorem dL_law_776 : decode cL_law 776 = .ok (.iconst 2, 1) := by decide +kernel
theorem dL_law_777 : decode cL_law 777 = .ok (.iadd, 1) := by decide +kernel
theorem dL_law_778 : decode cL_law 778 = .ok (.iaload, 1) := by decide +kernel
theorem dL_law_779 : decode cL_law 779 = .ok (.invokestatic 125, 3) := by decide +kernel
theorem dL_law_782 : decode cL_law 782 = .ok (.istore 5, 2) := by decide +kernel
theorem dL_law_784 : decode cL_law 784 = .ok (.aload_n 2, 1) := by decide +kernel
theorem dL_law_785 : decode cL_law 785 = .ok (.aload_n 0, 1) := by decide +kernel
theorem dL_law_786 : decode cL_law 786 = .ok (.iload 4, 2) := by decide +kernel
theorem dL_law_788 : decode cL_law 788 = .ok (.iconst 1, 1) := by decide +kernel
theorem dL_law_789 : decode cL_law 789 = .ok (.iadd, 1) := by decide +kernel
theorem dL_law_790 : decode cL_law 790 = .ok (.iaload, 1) := by decide +kernel
theorem dL_law_791 : decode cL_law 791 = .ok (.aload_n 0, 1) := by decide +kernel
theorem dL_law_792 : decode cL_law 792 = .ok (.iload 4, 2) := by decide +kernel
theorem dL_law_794 : decode cL_law 794 = .ok (.iconst 2, 1) := by decide +kernel
theorem dL_law_795 : decode cL_law 795 = .ok (.iadd, 1) := by decide +kernel
theorem dL_law_796 : decode cL_law 796 = .ok (.iaload, 1) := by decide +kernel
theorem dL_law_797 : decode cL_law 797 = .ok (.invokevirtual 127, 3) := by decide +kernel
theorem dL_law_800 : decode cL_law 800 = .ok (.aload_n 2, 1) := by decide +kernel
theorem dL_law_801 : decode cL_law 801 = .ok (.invokevirtual 79, 3) := by decide +kernel
theorem dL_law_804 : decode cL_law 804 = .ok (.iload 5, 2) := by decide +kernel
theorem dL_law_806 : decode cL_law 806 = .ok (.if_icmp .eq 5, 3) := by decide +kernel
theorem dL_law_809 : decode cL_law 809 = .ok (.iconst 0, 1) := by decide +kernel
theorem dL_law_810 : decode cL_law 810 = .ok (.ireturn, 1) := by decide +kernel
theorem dL_law_811 : decode cL_law 811 = .ok (.goto 265, 3) := by decide +kernel
theorem dL_law_814 : decode cL_law 814 = .ok (.aload_n 1, 1) := by decide +kernel
theorem dL_law_815 : decode cL_law 815 = .ok (.aload_n 0, 1) := by decide +kernel
theorem dL_law_816 : decode cL_law 816 = .ok (.iload 4, 2) := by decide +kernel
theorem dL_law_818 : decode cL_law 818 = .ok (.iconst 1, 1) := by decide +kernel
theorem dL_law_819 : decode cL_law 819 = .ok (.iadd, 1) := by decide +kernel
theorem dL_law_820 : decode cL_law 820 = .ok (.iaload, 1) := by decide +kernel
theorem dL_law_821 : decode cL_law 821 = .ok (.aload_n 0, 1) := by decide +kernel
theorem dL_law_822 : decode cL_law 822 = .ok (.iload 4, 2) := by decide +kernel
theorem dL_law_824 : decode cL_law 824 = .ok (.iconst 2, 1) := by decide +kernel
theorem dL_law_825 : decode cL_law 825 = .ok (.iadd, 1) := by decide +kernel
theorem dL_law_826 : decode cL_law 826 = .ok (.iaload, 1) := by decide +kernel
theorem dL_law_827 : decode cL_law 827 = .ok (.invokestatic 128, 3) := by decide +kernel
theorem dL_law_830 : decode cL_law 830 = .ok (.istore 5, 2) := by decide +kernel
theorem dL_law_832 : decode cL_law 832 = .ok (.aload_n 2, 1) := by decide +kernel
theorem dL_law_833 : decode cL_law 833 = .ok (.aload_n 0, 1) := by decide +kernel
theorem dL_law_834 : decode cL_law 834 = .ok (.iload 4, 2) := by decide +kernel
end
section
/-! decoded instructions of the law -/
theorem dL_law_836 : decode cL_law 836 = .ok (.iconst 1, 1) := by decide +kernel
theorem dL_law_837 : decode cL_law 837 = .ok (.iadd, 1) := by decide +kernel
theorem dL_law_838 : decode cL_law 838 = .ok (.iaload, 1) := by decide +kernel
theorem dL_law_839 : decode cL_law 839 = .ok (.aload_n 0, 1) := by decide +kernel
theorem dL_law_840 : decode cL_law 840 = .ok (.iload 4, 2) := by decide +kernel
theorem dL_law_842 : decode cL_law 842 = .ok (.iconst 2, 1) := by decide +kernel
theorem dL_law_843 : decode cL_law 843 = .ok (.iadd, 1) := by decide +kernel
theorem dL_law_844 : decode cL_law 844 = .ok (.iaload, 1) := by decide +kernel
theorem dL_law_845 : decode cL_law 845 = .ok (.invokevirtual 130, 3) := by decide +kernel
theorem dL_law_848 : decode cL_law 848 = .ok (.aload_n 2, 1) := by decide +kernel
theorem dL_law_849 : decode cL_law 849 = .ok (.invokevirtual 79, 3) := by decide +kernel
theorem dL_law_852 : decode cL_law 852 = .ok (.iload 5, 2) := by decide +kernel
theorem dL_law_854 : decode cL_law 854 = .ok (.if_icmp .eq 5, 3) := by decide +kernel
theorem dL_law_857 : decode cL_law 857 = .ok (.iconst 0, 1) := by decide +kernel
theorem dL_law_858 : decode cL_law 858 = .ok (.ireturn, 1) := by decide +kernel
theorem dL_law_859 : decode cL_law 859 = .ok (.goto 217, 3) := by decide +kernel
theorem dL_law_862 : decode cL_law 862 = .ok (.aload_n 1, 1) := by decide +kernel
theorem dL_law_863 : decode cL_law 863 = .ok (.aload_n 0, 1) := by decide +kernel
theorem dL_law_864 : decode cL_law 864 = .ok (.iload 4, 2) := by decide +kernel
theorem dL_law_866 : decode cL_law 866 = .ok (.iconst 1, 1) := by decide +kernel
theorem dL_law_867 : decode cL_law 867 = .ok (.iadd, 1) := by decide +kernel
theorem dL_law_868 : decode cL_law 868 = .ok (.iaload, 1) := by decide +kernel
theorem dL_law_869 : decode cL_law 869 = .ok (.aload_n 0, 1) := by decide +kernel
theorem dL_law_870 : decode cL_law 870 = .ok (.iload 4, 2) := by decide +kernel
theorem dL_law_872 : decode cL_law 872 = .ok (.iconst 2, 1) := by decide +kernel
theorem dL_law_873 : decode cL_law 873 = .ok (.iadd, 1) := by decide +kernel
theorem dL_law_874 : decode cL_law 874 = .ok (.iaload, 1) := by decide +kernel
theorem dL_law_875 : decode cL_law 875 = .ok (.invokestatic 131, 3) := by decide +kernel
theorem dL_law_878 : decode cL_law 878 = .ok (.istore 5, 2) := by decide +kernel
theorem dL_law_880 : decode cL_law 880 = .ok (.aload_n 2, 1) := by decide +kernel
theorem dL_law_881 : decode cL_law 881 = .ok (.aload_n 0, 1) := by decide +kernel
theorem dL_law_882 : decode cL_law 882 = .ok (.iload 4, 2) := by decide +kernel
theorem dL_law_884 : decode cL_law 884 = .ok (.iconst 1, 1) := by decide +kernel
theorem dL_law_885 : decode cL_law 885 = .ok (.iadd, 1) := by decide +kernel
theorem dL_law_886 : decode cL_law 886 = .ok (.iaload, 1) := by decide +kernel
theorem dL_law_887 : decode cL_law 887 = .ok (.aload_n 0, 1) := by decide +kernel
theorem dL_law_888 : decode cL_law 888 = .ok (.iload 4, 2) := by decide +kernel
theorem dL_law_890 : decode cL_law 890 = .ok (.iconst 2, 1) := by decide +kernel
theorem dL_law_891 : decode cL_law 891 = .ok (.iadd, 1) := by decide +kernel
theorem dL_law_892 : decode cL_law 892 = .ok (.iaload, 1) := by decide +kernel
theorem dL_law_893 : decode cL_law 893 = .ok (.invokevirtual 133, 3) := by decide +kernel
theorem dL_law_896 : decode cL_law 896 = .ok (.aload_n 2, 1) := by decide +kernel
theorem dL_law_897 : decode cL_law 897 = .ok (.invokevirtual 79, 3) := by decide +kernel
theorem dL_law_900 : decode cL_law 900 = .ok (.iload 5, 2) := by decide +kernel
theorem dL_law_902 : decode cL_law 902 = .ok (.if_icmp .eq 5, 3) := by decide +kernel
theorem dL_law_905 : decode cL_law 905 = .ok (.iconst 0, 1) := by decide +kernel
theorem dL_law_906 : decode cL_law 906 = .ok (.ireturn, 1) := by decide +kernel
theorem dL_law_907 : decode cL_law 907 = .ok (.goto 169, 3) := by decide +kernel
theorem dL_law_910 : decode cL_law 910 = .ok (.aload_n 1, 1) := by decide +kernel
theorem dL_law_911 : decode cL_law 911 = .ok (.aload_n 0, 1) := by decide +kernel
theorem dL_law_912 : decode cL_law 912 = .ok (.iload 4, 2) := by decide +kernel
theorem dL_law_914 : decode cL_law 914 = .ok (.iconst 1, 1) := by decide +kernel
theorem dL_law_915 : decode cL_law 915 = .ok (.iadd, 1) := by decide +kernel
theorem dL_law_916 : decode cL_law 916 = .ok (.iaload, 1) := by decide +kernel
theorem dL_law_917 : decode cL_law 917 = .ok (.invokestatic 134, 3) := by decide +kernel
theorem dL_law_920 : decode cL_law 920 = .ok (.istore 5, 2) := by decide +kernel
theorem dL_law_922 : decode cL_law 922 = .ok (.aload_n 2, 1) := by decide +kernel
theorem dL_law_923 : decode cL_law 923 = .ok (.aload_n 0, 1) := by decide +kernel
theorem dL_law_924 : decode cL_law 924 = .ok (.iload 4, 2) := by decide +kernel
theorem dL_law_926 : decode cL_law 926 = .ok (.iconst 1, 1) := by decide +kernel
theorem dL_law_927 : decode cL_law 927 = .ok (.iadd, 1) := by decide +kernel
theorem dL_law_928 : decode cL_law 928 = .ok (.iaload, 1) := by decide +kernel
theorem dL_law_929 : decode cL_law 929 = .ok (.invokevirtual 136, 3) := by decide +kernel
theorem dL_law_932 : decode cL_law 932 = .ok (.aload_n 2, 1) := by decide +kernel
theorem dL_law_933 : decode cL_law 933 = .ok (.invokevirtual 79, 3) := by decide +kernel
theorem dL_law_936 : decode cL_law 936 = .ok (.iload 5, 2) := by decide +kernel
theorem dL_law_938 : decode cL_law 938 = .ok (.if_icmp .eq 5, 3) := by decide +kernel
theorem dL_law_941 : decode cL_law 941 = .ok (.iconst 0, 1) := by decide +kernel
theorem dL_law_942 : decode cL_law 942 = .ok (.ireturn, 1) := by decide +kernel
theorem dL_law_943 : decode cL_law 943 = .ok (.goto 133, 3) := by decide +kernel
theorem dL_law_946 : decode cL_law 946 = .ok (.aload_n 1, 1) := by decide +kernel
theorem dL_law_947 : decode cL_law 947 = .ok (.aload_n 0, 1) := by decide +kernel
theorem dL_law_948 : decode cL_law 948 = .ok (.iload 4, 2) := by decide +kernel
theorem dL_law_950 : decode cL_law 950 = .ok (.iconst 1, 1) := by decide +kernel
theorem dL_law_951 : decode cL_law 951 = .ok (.iadd, 1) := by decide +kernel
theorem dL_law_952 : decode cL_law 952 = .ok (.iaload, 1) := by decide +kernel
theorem dL_law_953 : decode cL_law 953 = .ok (.invokestatic 137, 3) := by decide +kernel
theorem dL_law_956 : decode cL_law 956 = .ok (.istore 5, 2) := by decide +kernel
theorem dL_law_958 : decode cL_law 958 = .ok (.aload_n 2, 1) := by decide +kernel
theorem dL_law_959 : decode cL_law 959 = .ok (.aload_n 0, 1) := by decide +kernel
theorem dL_law_960 : decode cL_law 960 = .ok (.iload 4, 2) := by decide +kernel
theorem dL_law_962 : decode cL_law 962 = .ok (.iconst 1, 1) := by decide +kernel
theorem dL_law_963 : decode cL_law 963 = .ok (.iadd, 1) := by decide +kernel
theorem dL_law_964 : decode cL_law 964 = .ok (.iaload, 1) := by decide +kernel
theorem dL_law_965 : decode cL_law 965 = .ok (.invokevirtual 139, 3) := by decide +kernel
theorem dL_law_968 : decode cL_law 968 = .ok (.aload_n 2, 1) := by decide +kernel
theorem dL_law_969 : decode cL_law 969 = .ok (.invokevirtual 79, 3) := by decide +kernel
theorem dL_law_972 : decode cL_law 972 = .ok (.iload 5, 2) := by decide +kernel
theorem dL_law_974 : decode cL_law 974 = .ok (.if_icmp .eq 5, 3) := by decide +kernel
theorem dL_law_977 : decode cL_law 977 = .ok (.iconst 0, 1) := by decide +kernel
theorem dL_law_978 : decode cL_law 978 = .ok (.ireturn, 1) := by decide +kernel
theorem dL_law_979 : decode cL_law 979 = .ok (.goto 97, 3) := by decide +kernel
theorem dL_law_982 : decode cL_law 982 = .ok (.aload_n 1, 1) := by decide +kernel
theorem dL_law_983 : decode cL_law 983 = .ok (.aload_n 0, 1) := by decide +kernel
theorem dL_law_984 : decode cL_law 984 = .ok (.iload 4, 2) := by decide +kernel
theorem dL_law_986 : decode cL_law 986 = .ok (.iconst 1, 1) := by decide +kernel
theorem dL_law_987 : decode cL_law 987 = .ok (.iadd, 1) := by decide +kernel
theorem dL_law_988 : decode cL_law 988 = .ok (.iaload, 1) := by decide +kernel
theorem dL_law_989 : decode cL_law 989 = .ok (.aload_n 3, 1) := by decide +kernel
theorem dL_law_990 : decode cL_law 990 = .ok (.invokestatic 140, 3) := by decide +kernel
theorem dL_law_993 : decode cL_law 993 = .ok (.istore 5, 2) := by decide +kernel
theorem dL_law_995 : decode cL_law 995 = .ok (.aload_n 2, 1) := by decide +kernel
theorem dL_law_996 : decode cL_law 996 = .ok (.aload_n 0, 1) := by decide +kernel
theorem dL_law_997 : decode cL_law 997 = .ok (.iload 4, 2) := by decide +kernel
theorem dL_law_999 : decode cL_law 999 = .ok (.iconst 1, 1) := by decide +kernel
theorem dL_law_1000 : decode cL_law 1000 = .ok (.iadd, 1) := by decide +kernel
theorem dL_law_1001 : decode cL_law 1001 = .ok (.iaload, 1) := by decide +kernel
theorem dL_law_1002 : decode cL_law 1002 = .ok (.invokevirtual 142, 3) := by decide +kernel
theorem dL_law_1005 : decode cL_law 1005 = .ok (.istore 6, 2) := by decide +kernel
theorem dL_law_1007 : decode cL_law 1007 = .ok (.aload_n 2, 1) := by decide +kernel
theorem dL_law_1008 : decode cL_law 1008 = .ok (.invokevirtual 79, 3) := by decide +kernel
theorem dL_law_1011 : decode cL_law 1011 = .ok (.iload 5, 2) := by decide +kernel
theorem dL_law_1013 : decode cL_law 1013 = .ok (.if_icmp .eq 5, 3) := by decide +kernel
theorem dL_law_1016 : decode cL_law 1016 = .ok (.iconst 0, 1) := by decide +kernel
theorem dL_law_1017 : decode cL_law 1017 = .ok (.ireturn, 1) := by decide +kernel
theorem dL_law_1018 : decode cL_law 1018 = .ok (.iload 5, 2) := by decide +kernel
theorem dL_law_1020 : decode cL_law 1020 = .ok (.ifCond .ne 15, 3) := by decide +kernel
theorem dL_law_1023 : decode cL_law 1023 = .ok (.aload_n 3, 1) := by decide +kernel
theorem dL_law_1024 : decode cL_law 1024 = .ok (.iconst 0, 1) := by decide +kernel
theorem dL_law_1025 : decode cL_law 1025 = .ok (.laload, 1) := by decide +kernel
theorem dL_law_1026 : decode cL_law 1026 = .ok (.iload 6, 2) := by decide +kernel
theorem dL_law_1028 : decode cL_law 1028 = .ok (.i2l, 1) := by decide +kernel
theorem dL_law_1029 : decode cL_law 1029 = .ok (.lcmp, 1) := by decide +kernel
theorem dL_law_1030 : decode cL_law 1030 = .ok (.ifCond .eq 5, 3) := by decide +kernel
theorem dL_law_1033 : decode cL_law 1033 = .ok (.iconst 0, 1) := by decide +kernel
theorem dL_law_1034 : decode cL_law 1034 = .ok (.ireturn, 1) := by decide +kernel
theorem dL_law_1035 : decode cL_law 1035 = .ok (.goto 41, 3) := by decide +kernel
theorem dL_law_1038 : decode cL_law 1038 = .ok (.aload_n 1, 1) := by decide +kernel
theorem dL_law_1039 : decode cL_law 1039 = .ok (.aload_n 0, 1) := by decide +kernel
theorem dL_law_1040 : decode cL_law 1040 = .ok (.iload 4, 2) := by decide +kernel
theorem dL_law_1042 : decode cL_law 1042 = .ok (.iconst 1, 1) := by decide +kernel
theorem dL_law_1043 : decode cL_law 1043 = .ok (.iadd, 1) := by decide +kernel
theorem dL_law_1044 : decode cL_law 1044 = .ok (.iaload, 1) := by decide +kernel
theorem dL_law_1045 : decode cL_law 1045 = .ok (.invokevirtual 143, 3) := by decide +kernel
theorem dL_law_1048 : decode cL_law 1048 = .ok (.aload_n 2, 1) := by decide +kernel
theorem dL_law_1049 : decode cL_law 1049 = .ok (.aload_n 0, 1) := by decide +kernel
theorem dL_law_1050 : decode cL_law 1050 = .ok (.iload 4, 2) := by decide +kernel
theorem dL_law_1052 : decode cL_law 1052 = .ok (.iconst 1, 1) := by decide +kernel
theorem dL_law_1053 : decode cL_law 1053 = .ok (.iadd, 1) := by decide +kernel
theorem dL_law_1054 : decode cL_law 1054 = .ok (.iaload, 1) := by decide +kernel
theorem dL_law_1055 : decode cL_law 1055 = .ok (.invokevirtual 146, 3) := by decide +kernel
theorem dL_law_1058 : decode cL_law 1058 = .ok (.if_icmp .eq 18, 3) := by decide +kernel
theorem dL_law_1061 : decode cL_law 1061 = .ok (.iconst 0, 1) := by decide +kernel
theorem dL_law_1062 : decode cL_law 1062 = .ok (.ireturn, 1) := by decide +kernel
theorem dL_law_1063 : decode cL_law 1063 = .ok (.aload_n 1, 1) := by decide +kernel
theorem dL_law_1064 : decode cL_law 1064 = .ok (.invokevirtual 147, 3) := by decide +kernel
theorem dL_law_1067 : decode cL_law 1067 = .ok (.aload_n 2, 1) := by decide +kernel
theorem dL_law_1068 : decode cL_law 1068 = .ok (.invokevirtual 150, 3) := by decide +kernel
theorem dL_law_1071 : decode cL_law 1071 = .ok (.if_icmp .eq 5, 3) := by decide +kernel
theorem dL_law_1074 : decode cL_law 1074 = .ok (.iconst 0, 1) := by decide +kernel
theorem dL_law_1075 : decode cL_law 1075 = .ok (.ireturn, 1) := by decide +kernel
theorem dL_law_1076 : decode cL_law 1076 = .ok (.iinc 4 5, 3) := by decide +kernel
theorem dL_law_1079 : decode cL_law 1079 = .ok (.goto (-1056), 3) := by decide +kernel
theorem dL_law_1082 : decode cL_law 1082 = .ok (.iconst 1, 1) := by decide +kernel
theorem dL_law_1083 : decode cL_law 1083 = .ok (.ireturn, 1) := by decide +kernel
end
section
/-! What every contract of this claim takes as given of a state; calls over the one list of words hwG. -/
def hz_isN : Cond → Bool
  | .fieldLinkNest .. => true
  | .methodLinkNest .. => true
  | _ => false
/-- the words on private members of the nest -/
def hzN : List Cond := tables_1.filter hz_isN
def hz_K (D : va_G) (cI cZ cJ : ClassId) (U : State) : Prop := va_K D vwCl [(cI, .int), (cZ, .boolean), (cJ, .long)] U ∧ ∀ w ∈ hzN, va_Nw w U
theorem hz_K.warm {D : va_G} {cI cZ cJ : ClassId} {s U : State} (hW : s.WarmedH U.vm) (h : hz_K D cI cZ cJ s) : hz_K D cI cZ cJ U := by
  refine ⟨va_K.moved hW.alike h.1, fun w hw => ?_⟩
  have h1 := h.2 w hw
  have h2 := (List.mem_filter.mp hw).2
  cases w <;> first | exact va_Nw.warmF hW h1 | exact va_Nw.warmM hW h1 | exact (Bool.noConfusion h2)
theorem hz_nest {w : Cond} (h : w ∈ tables_1) (hg : hz_isN w = true) : w ∈ hzN := List.mem_filter.mpr ⟨h, hg⟩
theorem hz_useF {a : String} {i : Nat} {b n d h : String} {A : Array Value} {D : va_G} {cI cZ cJ : ClassId} {s : State} (hz : hz_K D cI cZ cJ s) (hw : Cond.fieldLinkNest a i b n d h ∈ hzN) : (Cond.fieldLinkNest a i b n d h).before A s = true := va_Nw.use rfl (hz.2 _ hw)
theorem hz_useM {a : String} {i : Nat} {x : MethodName} {h : String} {A : Array Value} {D : va_G} {cI cZ cJ : ClassId} {s : State} (hz : hz_K D cI cZ cJ s) (hw : Cond.methodLinkNest a i x h ∈ hzN) : (Cond.methodLinkNest a i x h).before A s = true := va_Nw.use rfl (hz.2 _ hw)
/-- a method that only reads: the cells ws -/
def hp_R (av : List Value) (D : va_G) (cI cZ cJ : ClassId) (ws : va_W) : Array Value → State → Prop := va_Pc av (fun U => va_P D vwCl ws U.heap ∧ hz_K D cI cZ cJ U)
theorem hp_R_blind {av : List Value} {D : va_G} {cI cZ cJ : ClassId} {ws : va_W} : FrameBlind (hp_R av D cI cZ cJ ws) := fun a U g mk q => ⟨q.1, q.2.1, hz_K.warm (U := U.calling g mk a) (State.WarmedH.refl U) q.2.2⟩
theorem hp_R_pre {av : List Value} {D : va_G} {cI cZ cJ : ClassId} {ws : va_W} {H : Heap} {s : State} (hP : va_P D vwCl ws H) (hz : hz_K D cI cZ cJ s) : ∀ U : State, U.heap = H → s.WarmedH U.vm → hp_R av D cI cZ cJ ws av.toArray U := fun U hU hW => ⟨rfl, by rw [hU]; exact hP, hz.warm hW⟩
/-- a method that writes the cells ws -/
def hp_M (av : List Value) (D : va_G) (cI cZ cJ : ClassId) (ws : va_W) (sz : Nat) : Array Value → State → Prop := va_Pc av (fun U => U.heap.size = sz ∧ va_P D vwCl ws U.heap ∧ hz_K D cI cZ cJ U ∧ va_D (fun _ => True) ws)
theorem hp_M_blind {av : List Value} {D : va_G} {cI cZ cJ : ClassId} {ws : va_W} {sz : Nat} : FrameBlind (hp_M av D cI cZ cJ ws sz) := fun a U g mk q => ⟨q.1, q.2.1, q.2.2.1, hz_K.warm (U := U.calling g mk a) (State.WarmedH.refl U) q.2.2.2.1, q.2.2.2.2⟩
theorem hp_M_pre {av : List Value} {D : va_G} {cI cZ cJ : ClassId} {ws : va_W} {H : Heap} {s : State} {A : Nat → Prop} (hP : va_P D vwCl ws H) (hD : va_D A ws) (hz : hz_K D cI cZ cJ s) : ∀ U : State, U.heap = H → s.WarmedH U.vm → hp_M av D cI cZ cJ ws H.size av.toArray U :=
  fun U hU hW => ⟨rfl, by rw [hU], by rw [hU]; exact hP, hz.warm hW, hD.weaken (fun _ _ _ _ => trivial)⟩
/-- ws with w1 laid at the places is -/
def hp_putA : List Nat → va_W → va_W → va_W
  | [], ws, _ => ws
  | _ :: _, ws, [] => ws
  | i :: is, ws, x :: w1 => hp_putA is (ws.set i x) w1
abbrev hp_put (ws : va_W) (is : List Nat) (w1 : va_W) : va_W := hp_putA is ws w1
theorem hp_put_fst : ∀ (is : List Nat) (w1 ws : va_W), is.map (fun i => (ws[i]?).map (fun x => x.1)) = w1.map (fun x => some x.1) → (hp_put ws is w1).map (fun x => x.1) = ws.map (fun x => x.1) := by
  intro is
  induction is with
  | nil => intro w1 ws _; rfl
  | cons i is ih =>
    intro w1 ws h
    cases w1 with
    | nil => rfl
    | cons x w1 =>
      simp only [List.map_cons, List.cons.injEq] at h
      have hset : (ws.set i x).map (fun x => x.1) = ws.map (fun x => x.1) := by
        apply List.ext_getElem?
        intro k
        rw [List.getElem?_map, List.getElem?_map, List.getElem?_set]
        by_cases hik : i = k
        · rw [if_pos hik]
          by_cases hl : i < ws.length
          · rw [if_pos hl, ← hik, h.1]; rfl
          · rw [if_neg hl, ← hik, List.getElem?_eq_none (by omega)]
        · rw [if_neg hik]
      show (hp_put (ws.set i x) is w1).map (fun x => x.1) = _
      rw [ih w1 (ws.set i x) ?_, hset]
      rw [← h.2]
      apply List.map_congr_left
      intro j _
      rw [← List.getElem?_map, ← List.getElem?_map, hset]
theorem hp_put_in : ∀ (is : List Nat) (w1 ws : va_W), is.map (fun i => (ws[i]?).map (fun x => x.1)) = w1.map (fun x => some x.1) → ∀ (k : Nat) (q : Nat × va_E), (hp_put ws is w1)[k]? = some q → q ∈ w1 ∨ (ws[k]? = some q ∧ k ∉ is) := by
  intro is
  induction is with
  | nil => intro w1 ws _ k q h; exact Or.inr ⟨h, List.not_mem_nil⟩
  | cons i is ih =>
    intro w1 ws h k q hk
    cases w1 with
    | nil => simp at h
    | cons x w1 =>
      simp only [List.map_cons, List.cons.injEq] at h
      have hset : (ws.set i x).map (fun x => x.1) = ws.map (fun x => x.1) := by
        apply List.ext_getElem?
        intro k
        rw [List.getElem?_map, List.getElem?_map, List.getElem?_set]
        by_cases hik : i = k
        · rw [if_pos hik]
          by_cases hl : i < ws.length
          · rw [if_pos hl, ← hik, h.1]; rfl
          · rw [if_neg hl, ← hik, List.getElem?_eq_none (by omega)]
        · rw [if_neg hik]
      have h9 : is.map (fun i => ((ws.set i x)[i]?).map (fun x => x.1)) = is.map (fun i => ((ws.set i x)[i]?).map (fun x => x.1)) := rfl
      have h2 : is.map (fun j => ((ws.set i x)[j]?).map (fun x => x.1)) = w1.map (fun x => some x.1) := by
        rw [← h.2]
        apply List.map_congr_left
        intro j _
        rw [← List.getElem?_map, ← List.getElem?_map, hset]
      rcases ih w1 (ws.set i x) h2 k q hk with hq | ⟨hq, hn⟩
      · exact Or.inl (List.mem_cons_of_mem _ hq)
      · rw [List.getElem?_set] at hq
        by_cases hik : i = k
        · rw [if_pos hik] at hq
          by_cases hl : i < ws.length
          · rw [if_pos hl] at hq
            injection hq with hq
            exact Or.inl (by rw [← hq]; exact List.mem_cons_self)
          · rw [if_neg hl] at hq; cases hq
        · rw [if_neg hik] at hq
          exact Or.inr ⟨hq, fun hm => by
            rcases List.mem_cons.mp hm with hm | hm
            · exact hik hm.symm
            · exact hn hm⟩
/-- a callee has written its cells wc, which lie at the places is: they hold w1 now, the rest is as it was -/
theorem hp_join {A0 : Nat → Prop} {D : va_G} {cl : List vw_C} {ws wc w1 : va_W} {H H1 : Heap} (hP : va_P D cl ws H) (hD : va_D A0 ws) (is : List Nat) (hC : is.map (fun i => ws[i]?) = wc.map some) (h1 : w1.map (fun x => x.1) = wc.map (fun x => x.1))
    (hk : ∀ q : Nat, q < H.size → ¬ va_A wc H.size q → H1[q]? = H[q]?) (hP1 : va_P D cl w1 H1) : va_P D cl (hp_put ws is w1) H1 ∧ va_D A0 (hp_put ws is w1) := by
  have hA : is.map (fun i => (ws[i]?).map (fun x => x.1)) = w1.map (fun x => some x.1) := by
    have h2 : (is.map (fun i => ws[i]?)).map (fun o => o.map (fun x => x.1)) = (wc.map some).map (fun o => o.map (fun x => x.1)) := by rw [hC]
    rw [List.map_map, List.map_map] at h2
    have h3 : wc.map ((fun o : Option (Nat × va_E) => o.map (fun x => x.1)) ∘ some) = w1.map (fun x => some x.1) := by
      have h4 : wc.map ((fun o : Option (Nat × va_E) => o.map (fun x => x.1)) ∘ some) = (wc.map (fun x => x.1)).map some := by rw [List.map_map]; rfl
      rw [h4, ← h1, List.map_map]; rfl
    rw [← h3]; exact h2
  refine ⟨fun k q hq => ?_, ?_, ?_⟩
  · rcases hp_put_in is w1 ws hA k q hq with hm | ⟨hw, hn⟩
    · obtain ⟨j, hj⟩ := List.getElem?_of_mem hm
      exact hP1 j q hj
    · refine (hP k q hw).kept (hk q.1 (hP k q hw).lt ?_)
      rintro (⟨j, e, hj⟩ | hge)
      · have h5 : (is.map (fun i => ws[i]?))[j]? = some (some (q.1, e)) := by rw [hC, List.getElem?_map, hj]; rfl
        rw [List.getElem?_map] at h5
        cases hij : is[j]? with
        | none => rw [hij] at h5; cases h5
        | some i =>
          rw [hij] at h5
          injection h5 with h5
          have := hD.1 k i q (q.1, e) hw h5 rfl
          exact hn (by rw [this]; exact List.mem_of_getElem? hij)
      · exact absurd (hP k q hw).lt (Nat.not_lt.mpr hge)
  · intro i j p q hi hj hpq
    have hf := hp_put_fst is w1 ws hA
    have h5 : ((hp_put ws is w1).map (fun x => x.1))[i]? = some p.1 := by rw [List.getElem?_map, hi]; rfl
    have h6 : ((hp_put ws is w1).map (fun x => x.1))[j]? = some q.1 := by rw [List.getElem?_map, hj]; rfl
    rw [hf, List.getElem?_map] at h5 h6
    cases h7 : ws[i]? with
    | none => rw [h7] at h5; cases h5
    | some p' =>
      cases h8 : ws[j]? with
      | none => rw [h8] at h6; cases h6
      | some q' =>
        rw [h7] at h5; rw [h8] at h6
        injection h5 with h5; injection h6 with h6
        exact hD.1 i j p' q' h7 h8 (Eq.trans h5 (hpq.trans (Eq.symm h6)))
  · intro k q hq
    have hf := hp_put_fst is w1 ws hA
    have h5 : ((hp_put ws is w1).map (fun x => x.1))[k]? = some q.1 := by rw [List.getElem?_map, hq]; rfl
    rw [hf, List.getElem?_map] at h5
    cases h7 : ws[k]? with
    | none => rw [h7] at h5; cases h5
    | some p' =>
      rw [h7] at h5
      injection h5 with h5
      rw [← h5]
      exact hD.2 k p' h7
section HV
variable {p : Program} {l : Launch} {e : Env} {R : Room} {s : State} {m : MethodId} {args : Array Value} {below : List Frame} {meth : Method} {c : Code} {H : Heap} {locs : List Loc} {cells slots : Nat} {Q : State → Prop}
variable {cc : ByteArray} {pc : Nat} {ls : Array Slot} {rest st0 : List Value} {D : va_G} {A : Nat → Prop} {ws wc : va_W} {H0 : Heap} {nL mc ms n index maxL : Nat} {own C : String} {y : MethodName} {bytes : ByteArray} {ret : Option FieldType} {rm : Room} {Pc : Array Value → State → Prop} {Qc : Array Value → State → Outcome → State → Prop} {free : Addr → Prop} {b : Addr} {As : List Value} {a : Array Value}
theorem hg_V (w1 : Cond.methodLink own index y ∈ hwG) (w2 : Cond.instanceMethod y ∈ hwG) (w3 : Cond.selects C y y ∈ hwG) (w4 : Cond.initialized C ∈ hwG) (w5 : Cond.code y bytes maxL ret ∈ hwG) : GoodIn hwG (wsV own index C y (Cond.code y bytes maxL ret :: hwG)) := by
  intro w hw
  have h : w ∈ hwG := by
    rcases List.mem_append.mp hw with h | h
    · simp only [List.mem_cons, List.not_mem_nil, or_false] at h
      rcases h with h | h | h | h <;> rw [h] <;> assumption
    · rcases List.mem_cons.mp h with h | h
      · rw [h]; exact w5
      · exact h
  exact ⟨h, hwG_good w h⟩
theorem hg_S (w1 : Cond.methodLink own index y ∈ hwG) (w2 : Cond.static y ∈ hwG) (w4 : Cond.initialized y.cls ∈ hwG) (w5 : Cond.code y bytes maxL ret ∈ hwG) : GoodIn hwG (va_wsS own index y (Cond.code y bytes maxL ret :: hwG)) := by
  intro w hw
  have h : w ∈ hwG := by
    rcases List.mem_append.mp hw with h | h
    · simp only [List.mem_cons, List.not_mem_nil, or_false] at h
      rcases h with h | h | h <;> rw [h] <;> assumption
    · rcases List.mem_cons.mp h with h | h
      · rw [h]; exact w5
      · exact h
  exact ⟨h, hwG_good w h⟩
theorem hg_C (w5 : Cond.code y bytes maxL ret ∈ hwG) : GoodIn hwG (Cond.code y bytes maxL ret :: hwG) := by
  intro w hw
  have h : w ∈ hwG := by
    rcases List.mem_cons.mp hw with h | h
    · rw [h]; exact w5
    · exact h
  exact ⟨h, hwG_good w h⟩
/-- a call that writes the cells at the places is -/
theorem hv_callv {S : Type} {post : S → Prop} {w1 : S → va_W} (hr : va_Run p l e R s m args below meth c H locs cells slots mc ms (F0 m pc ls st0) rest (va_Qv post (fun u t => va_P D vwCl (w1 u) t.heap) (va_A wc H.size) a) (va_A wc H.size))
    (hP : va_P D vwCl ws H) (hD : va_D A ws) (hS : va_S A H0 H locs) (hA : ∀ q, H0.size ≤ q → A q) (is : List Nat) (hC : is.map (fun i => ws[i]?) = wc.map some) (h1 : ∀ u, (w1 u).map (fun x => x.1) = wc.map (fun x => x.1))
    (kk : ∀ (u : S) (H1 : Heap) (locs1 : List Loc), post u → va_P D vwCl (hp_put ws is (w1 u)) H1 → va_D A (hp_put ws is (w1 u)) → va_S A H0 H1 locs1 → W p l e R s m args below meth c H1 locs1 (cells + mc) (slots + ms) Q (F0 m (pc + 3) ls rest)) :
    W p l e R s m args below meth c H locs cells slots Q (F0 m pc ls st0) := by
  have hFc := va_free (wc := wc) hD hS hA is hC
  refine va_callv hr hS (fun q _ h => hFc q h) hFc (fun u t H1 locs1 ht hvm hp hB hz hk hS1 => ?_)
  rw [ht] at hB
  obtain ⟨hP1, hD1⟩ := hp_join hP hD is hC (h1 u) hk hB
  exact kk u H1 locs1 hp hP1 hD1 hS1
theorem hv_calli {S : Type} {post : Int32 → S → Prop} {w1 : S → va_W} (hr : va_Run p l e R s m args below meth c H locs cells slots mc ms (F0 m pc ls st0) rest (va_Qi post (fun u t => va_P D vwCl (w1 u) t.heap) (va_A wc H.size) a) (va_A wc H.size))
    (hP : va_P D vwCl ws H) (hD : va_D A ws) (hS : va_S A H0 H locs) (hA : ∀ q, H0.size ≤ q → A q) (is : List Nat) (hC : is.map (fun i => ws[i]?) = wc.map some) (h1 : ∀ u, (w1 u).map (fun x => x.1) = wc.map (fun x => x.1))
    (kk : ∀ (r : Int32) (u : S) (H1 : Heap) (locs1 : List Loc), post r u → va_P D vwCl (hp_put ws is (w1 u)) H1 → va_D A (hp_put ws is (w1 u)) → va_S A H0 H1 locs1 → W p l e R s m args below meth c H1 locs1 (cells + mc) (slots + ms) Q (F0 m (pc + 3) ls (.int r :: rest))) :
    W p l e R s m args below meth c H locs cells slots Q (F0 m pc ls st0) := by
  have hFc := va_free (wc := wc) hD hS hA is hC
  refine va_calli hr hS (fun q _ h => hFc q h) hFc (fun r u t H1 locs1 ht hvm hp hB hz hk hS1 => ?_)
  rw [ht] at hB
  obtain ⟨hP1, hD1⟩ := hp_join hP hD is hC (h1 u) hk hB
  exact kk r u H1 locs1 hp hP1 hD1 hS1
end HV
end
section
/-! the words, each by its place -/
theorem hm_0 : Cond.initialized RL ∈ hwG := hwG_of (List.mem_append_left _ (List.mem_of_getElem? (i := 0) rfl)) rfl
theorem hm_1 : Cond.initialized RX3 ∈ hwG := hwG_of (List.mem_append_left _ (List.mem_of_getElem? (i := 1) rfl)) rfl
theorem hm_2 : Cond.initialized RX1 ∈ hwG := hwG_of (List.mem_append_left _ (List.mem_of_getElem? (i := 2) rfl)) rfl
theorem hm_3 : Cond.initialized RX2 ∈ hwG := hwG_of (List.mem_append_left _ (List.mem_of_getElem? (i := 3) rfl)) rfl
theorem hm_4 : Cond.initialized RJ7 ∈ hwG := hwG_of (List.mem_append_left _ (List.mem_of_getElem? (i := 4) rfl)) rfl
theorem hm_5 : Cond.initialized RX0 ∈ hwG := hwG_of (List.mem_append_left _ (List.mem_of_getElem? (i := 5) rfl)) rfl
theorem hm_6 : Cond.initialized RX4 ∈ hwG := hwG_of (List.mem_append_left _ (List.mem_of_getElem? (i := 6) rfl)) rfl
theorem hm_7 : Cond.initialized "java/lang/Throwable" ∈ hwG := hwG_of (List.mem_append_left _ (List.mem_of_getElem? (i := 7) rfl)) rfl
theorem hm_8 : Cond.initialized "java/lang/Exception" ∈ hwG := hwG_of (List.mem_append_left _ (List.mem_of_getElem? (i := 8) rfl)) rfl
theorem hm_9 : Cond.initialized "java/lang/RuntimeException" ∈ hwG := hwG_of (List.mem_append_left _ (List.mem_of_getElem? (i := 9) rfl)) rfl
theorem hm_10 : Cond.initialized "java/lang/IndexOutOfBoundsException" ∈ hwG := hwG_of (List.mem_append_left _ (List.mem_of_getElem? (i := 10) rfl)) rfl
theorem hm_11 : Cond.initialized "java/lang/IllegalStateException" ∈ hwG := hwG_of (List.mem_append_left _ (List.mem_of_getElem? (i := 11) rfl)) rfl
theorem hm_12 : Cond.initialized "java/lang/Math" ∈ hwG := hwG_of (List.mem_append_left _ (List.mem_of_getElem? (i := 12) rfl)) rfl
theorem hm_13 : Cond.initialized "java/lang/IllegalArgumentException" ∈ hwG := hwG_of (List.mem_append_left _ (List.mem_of_getElem? (i := 13) rfl)) rfl
theorem hm_14 : Cond.initialized "java/lang/UnsupportedOperationException" ∈ hwG := hwG_of (List.mem_append_left _ (List.mem_of_getElem? (i := 14) rfl)) rfl
theorem hm_15 : Cond.initialized RJ6 ∈ hwG := hwG_of (List.mem_append_left _ (List.mem_of_getElem? (i := 15) rfl)) rfl
theorem hm_16 : Cond.classLink RL 8 RX3 ∈ hwG := hwG_of (List.mem_append_left _ (List.mem_of_getElem? (i := 16) rfl)) rfl
theorem hm_17 : Cond.instantiable RX3 4 ∈ hwG := hwG_of (List.mem_append_left _ (List.mem_of_getElem? (i := 17) rfl)) rfl
theorem hm_18 : Cond.methodLink RL 69 yX3_init ∈ hwG := hwG_of (List.mem_append_left _ (List.mem_of_getElem? (i := 18) rfl)) rfl
theorem hm_19 : Cond.instanceMethod yX3_init ∈ hwG := hwG_of (List.mem_append_left _ (List.mem_of_getElem? (i := 19) rfl)) rfl
theorem hm_20 : Cond.code yX3_init cX3_init 1 none ∈ hwG := hwG_of (List.mem_append_left _ (List.mem_of_getElem? (i := 20) rfl)) rfl
theorem hm_21 : Cond.methodLink RX3 1 ⟨"java/lang/Object", "<init>", "()V"⟩ ∈ hwG := hwG_of (List.mem_append_left _ (List.mem_of_getElem? (i := 21) rfl)) rfl
theorem hm_22 : Cond.instanceMethod ⟨"java/lang/Object", "<init>", "()V"⟩ ∈ hwG := hwG_of (List.mem_append_left _ (List.mem_of_getElem? (i := 22) rfl)) rfl
theorem hm_23 : Cond.code ⟨"java/lang/Object", "<init>", "()V"⟩ object_method_1_code 1 none ∈ hwG := hwG_of (List.mem_append_left _ (List.mem_of_getElem? (i := 23) rfl)) rfl
theorem hm_24 : Cond.classLink RX3 7 RX1 ∈ hwG := hwG_of (List.mem_append_left _ (List.mem_of_getElem? (i := 24) rfl)) rfl
theorem hm_25 : Cond.instantiable RX1 7 ∈ hwG := hwG_of (List.mem_append_left _ (List.mem_of_getElem? (i := 25) rfl)) rfl
theorem hn_26 : Cond.methodLinkNest RX3 9 yX1_init "HeapClaims" ∈ hzN := hz_nest (List.mem_append_left _ (List.mem_of_getElem? (i := 26) rfl)) rfl
theorem hm_27 : Cond.instanceMethod yX1_init ∈ hwG := hwG_of (List.mem_append_left _ (List.mem_of_getElem? (i := 27) rfl)) rfl
theorem hm_28 : Cond.code yX1_init cX1_init 1 none ∈ hwG := hwG_of (List.mem_append_left _ (List.mem_of_getElem? (i := 28) rfl)) rfl
theorem hm_29 : Cond.methodLink RX1 3 ⟨"java/lang/Object", "<init>", "()V"⟩ ∈ hwG := hwG_of (List.mem_append_left _ (List.mem_of_getElem? (i := 29) rfl)) rfl
theorem hm_30 : Cond.fieldLink RX1 9 "HeapClaims$Claim" "same" "[I" ∈ hwG := hwG_of (List.mem_append_left _ (List.mem_of_getElem? (i := 30) rfl)) rfl
theorem hm_31 : Cond.fieldLink RX1 15 "HeapClaims$Claim" "other" "[I" ∈ hwG := hwG_of (List.mem_append_left _ (List.mem_of_getElem? (i := 31) rfl)) rfl
theorem hm_32 : Cond.fieldLink RX1 18 "HeapClaims$Claim" "from" "[I" ∈ hwG := hwG_of (List.mem_append_left _ (List.mem_of_getElem? (i := 32) rfl)) rfl
theorem hn_33 : Cond.fieldLinkNest RX0 56 "HeapClaims$Claim" "from" "[I" "HeapClaims" ∈ hzN := hz_nest (List.mem_append_left _ (List.mem_of_getElem? (i := 33) rfl)) rfl
theorem hn_34 : Cond.fieldLinkNest RX2 51 "HeapClaims$Claim" "from" "[I" "HeapClaims" ∈ hzN := hz_nest (List.mem_append_left _ (List.mem_of_getElem? (i := 34) rfl)) rfl
theorem hm_35 : Cond.fieldLink RX1 21 "HeapClaims$Claim" "to" "[I" ∈ hwG := hwG_of (List.mem_append_left _ (List.mem_of_getElem? (i := 35) rfl)) rfl
theorem hn_36 : Cond.fieldLinkNest RX0 59 "HeapClaims$Claim" "to" "[I" "HeapClaims" ∈ hzN := hz_nest (List.mem_append_left _ (List.mem_of_getElem? (i := 36) rfl)) rfl
theorem hn_37 : Cond.fieldLinkNest RX2 54 "HeapClaims$Claim" "to" "[I" "HeapClaims" ∈ hzN := hz_nest (List.mem_append_left _ (List.mem_of_getElem? (i := 37) rfl)) rfl
theorem hm_38 : Cond.fieldLink RX1 24 "HeapClaims$Claim" "list" "[Z" ∈ hwG := hwG_of (List.mem_append_left _ (List.mem_of_getElem? (i := 38) rfl)) rfl
theorem hn_39 : Cond.fieldLinkNest RX0 62 "HeapClaims$Claim" "list" "[Z" "HeapClaims" ∈ hzN := hz_nest (List.mem_append_left _ (List.mem_of_getElem? (i := 39) rfl)) rfl
theorem hn_40 : Cond.fieldLinkNest RX2 57 "HeapClaims$Claim" "list" "[Z" "HeapClaims" ∈ hzN := hz_nest (List.mem_append_left _ (List.mem_of_getElem? (i := 40) rfl)) rfl
theorem hm_41 : Cond.fieldLink RX1 32 "HeapClaims$Claim" "size" "I" ∈ hwG := hwG_of (List.mem_append_left _ (List.mem_of_getElem? (i := 41) rfl)) rfl
theorem hn_42 : Cond.fieldLinkNest RX3 46 "HeapClaims$Claim" "size" "I" "HeapClaims" ∈ hzN := hz_nest (List.mem_append_left _ (List.mem_of_getElem? (i := 42) rfl)) rfl
theorem hn_43 : Cond.fieldLinkNest RX0 53 "HeapClaims$Claim" "size" "I" "HeapClaims" ∈ hzN := hz_nest (List.mem_append_left _ (List.mem_of_getElem? (i := 43) rfl)) rfl
theorem hn_44 : Cond.fieldLinkNest RX2 48 "HeapClaims$Claim" "size" "I" "HeapClaims" ∈ hzN := hz_nest (List.mem_append_left _ (List.mem_of_getElem? (i := 44) rfl)) rfl
theorem hm_45 : Cond.fieldLink RX1 28 "HeapClaims$Claim" "named" "I" ∈ hwG := hwG_of (List.mem_append_left _ (List.mem_of_getElem? (i := 45) rfl)) rfl
theorem hn_46 : Cond.fieldLinkNest RX3 63 "HeapClaims$Claim" "named" "I" "HeapClaims" ∈ hzN := hz_nest (List.mem_append_left _ (List.mem_of_getElem? (i := 46) rfl)) rfl
theorem hm_62 : Cond.arrayClass .int ∈ hwG := hwG_of (List.mem_append_left _ (List.mem_of_getElem? (i := 62) rfl)) rfl
theorem hm_63 : Cond.arrayClass .boolean ∈ hwG := hwG_of (List.mem_append_left _ (List.mem_of_getElem? (i := 63) rfl)) rfl
theorem hm_64 : Cond.classLink RX3 19 RX2 ∈ hwG := hwG_of (List.mem_append_left _ (List.mem_of_getElem? (i := 64) rfl)) rfl
theorem hm_65 : Cond.instantiable RX2 6 ∈ hwG := hwG_of (List.mem_append_left _ (List.mem_of_getElem? (i := 65) rfl)) rfl
theorem hm_66 : Cond.methodLink RX3 21 yX2_init ∈ hwG := hwG_of (List.mem_append_left _ (List.mem_of_getElem? (i := 66) rfl)) rfl
theorem hm_67 : Cond.instanceMethod yX2_init ∈ hwG := hwG_of (List.mem_append_left _ (List.mem_of_getElem? (i := 67) rfl)) rfl
theorem hm_68 : Cond.code yX2_init cX2_init 2 none ∈ hwG := hwG_of (List.mem_append_left _ (List.mem_of_getElem? (i := 68) rfl)) rfl
theorem hm_69 : Cond.methodLink RX2 3 ⟨"java/lang/Object", "<init>", "()V"⟩ ∈ hwG := hwG_of (List.mem_append_left _ (List.mem_of_getElem? (i := 69) rfl)) rfl
theorem hm_70 : Cond.methodLink RX2 29 yJ7_fill ∈ hwG := hwG_of (List.mem_append_left _ (List.mem_of_getElem? (i := 70) rfl)) rfl
theorem hm_71 : Cond.static yJ7_fill ∈ hwG := hwG_of (List.mem_append_left _ (List.mem_of_getElem? (i := 71) rfl)) rfl
theorem hm_72 : Cond.code yJ7_fill cJ7_fill 4 none ∈ hwG := hwG_of (List.mem_append_left _ (List.mem_of_getElem? (i := 72) rfl)) rfl
theorem hm_73 : Cond.fieldLink RX2 9 "HeapClaims$Heap" "values" "[I" ∈ hwG := hwG_of (List.mem_append_left _ (List.mem_of_getElem? (i := 73) rfl)) rfl
theorem hn_74 : Cond.fieldLinkNest RX0 24 "HeapClaims$Heap" "values" "[I" "HeapClaims" ∈ hzN := hz_nest (List.mem_append_left _ (List.mem_of_getElem? (i := 74) rfl)) rfl
theorem hn_75 : Cond.fieldLinkNest RX3 96 "HeapClaims$Heap" "values" "[I" "HeapClaims" ∈ hzN := hz_nest (List.mem_append_left _ (List.mem_of_getElem? (i := 75) rfl)) rfl
theorem hm_76 : Cond.fieldLink RX2 15 "HeapClaims$Heap" "greatest" "I" ∈ hwG := hwG_of (List.mem_append_left _ (List.mem_of_getElem? (i := 76) rfl)) rfl
theorem hm_77 : Cond.fieldLink RX2 19 "HeapClaims$Heap" "ends" "[I" ∈ hwG := hwG_of (List.mem_append_left _ (List.mem_of_getElem? (i := 77) rfl)) rfl
theorem hn_78 : Cond.fieldLinkNest RX3 116 "HeapClaims$Heap" "ends" "[I" "HeapClaims" ∈ hzN := hz_nest (List.mem_append_left _ (List.mem_of_getElem? (i := 78) rfl)) rfl
theorem hm_79 : Cond.fieldLink RX2 22 "HeapClaims$Heap" "isLong" "[Z" ∈ hwG := hwG_of (List.mem_append_left _ (List.mem_of_getElem? (i := 79) rfl)) rfl
theorem hm_80 : Cond.fieldLink RX2 26 "HeapClaims$Heap" "bits" "[I" ∈ hwG := hwG_of (List.mem_append_left _ (List.mem_of_getElem? (i := 80) rfl)) rfl
theorem hm_81 : Cond.fieldLink RX2 39 "HeapClaims$Heap" "filled" "I" ∈ hwG := hwG_of (List.mem_append_left _ (List.mem_of_getElem? (i := 81) rfl)) rfl
theorem hn_82 : Cond.fieldLinkNest RX3 110 "HeapClaims$Heap" "filled" "I" "HeapClaims" ∈ hzN := hz_nest (List.mem_append_left _ (List.mem_of_getElem? (i := 82) rfl)) rfl
theorem hm_96 : Cond.classLink RX3 28 RX0 ∈ hwG := hwG_of (List.mem_append_left _ (List.mem_of_getElem? (i := 96) rfl)) rfl
theorem hm_97 : Cond.instantiable RX0 2 ∈ hwG := hwG_of (List.mem_append_left _ (List.mem_of_getElem? (i := 97) rfl)) rfl
theorem hn_98 : Cond.methodLinkNest RX3 30 yX0_init "HeapClaims" ∈ hzN := hz_nest (List.mem_append_left _ (List.mem_of_getElem? (i := 98) rfl)) rfl
theorem hm_99 : Cond.instanceMethod yX0_init ∈ hwG := hwG_of (List.mem_append_left _ (List.mem_of_getElem? (i := 99) rfl)) rfl
theorem hm_100 : Cond.code yX0_init cX0_init 1 none ∈ hwG := hwG_of (List.mem_append_left _ (List.mem_of_getElem? (i := 100) rfl)) rfl
theorem hm_101 : Cond.methodLink RX0 3 ⟨"java/lang/Object", "<init>", "()V"⟩ ∈ hwG := hwG_of (List.mem_append_left _ (List.mem_of_getElem? (i := 101) rfl)) rfl
theorem hm_102 : Cond.classLink RX0 9 RX2 ∈ hwG := hwG_of (List.mem_append_left _ (List.mem_of_getElem? (i := 102) rfl)) rfl
theorem hm_103 : Cond.methodLink RX0 11 yX2_init ∈ hwG := hwG_of (List.mem_append_left _ (List.mem_of_getElem? (i := 103) rfl)) rfl
theorem hm_104 : Cond.fieldLink RX0 14 "HeapClaims$Cases" "heap" "LHeapClaims$Heap;" ∈ hwG := hwG_of (List.mem_append_left _ (List.mem_of_getElem? (i := 104) rfl)) rfl
theorem hn_105 : Cond.fieldLinkNest RX3 153 "HeapClaims$Cases" "heap" "LHeapClaims$Heap;" "HeapClaims" ∈ hzN := hz_nest (List.mem_append_left _ (List.mem_of_getElem? (i := 105) rfl)) rfl
theorem hm_106 : Cond.fieldLink RX0 20 "HeapClaims$Cases" "named" "I" ∈ hwG := hwG_of (List.mem_append_left _ (List.mem_of_getElem? (i := 106) rfl)) rfl
theorem hm_112 : Cond.fieldLink RX3 10 "HeapClaims" "left" "LHeapClaims$Claim;" ∈ hwG := hwG_of (List.mem_append_left _ (List.mem_of_getElem? (i := 112) rfl)) rfl
theorem hm_113 : Cond.fieldLink RX3 16 "HeapClaims" "right" "LHeapClaims$Claim;" ∈ hwG := hwG_of (List.mem_append_left _ (List.mem_of_getElem? (i := 113) rfl)) rfl
theorem hm_114 : Cond.fieldLink RX3 24 "HeapClaims" "state" "LHeapClaims$Heap;" ∈ hwG := hwG_of (List.mem_append_left _ (List.mem_of_getElem? (i := 114) rfl)) rfl
theorem hm_115 : Cond.fieldLink RX3 31 "HeapClaims" "cases" "LHeapClaims$Cases;" ∈ hwG := hwG_of (List.mem_append_left _ (List.mem_of_getElem? (i := 115) rfl)) rfl
theorem hm_125 : Cond.methodLink RL 91 yX3_swap ∈ hwG := hwG_of (List.mem_append_left _ (List.mem_of_getElem? (i := 125) rfl)) rfl
theorem hm_126 : Cond.instanceMethod yX3_swap ∈ hwG := hwG_of (List.mem_append_left _ (List.mem_of_getElem? (i := 126) rfl)) rfl
theorem hm_127 : Cond.selects RX3 yX3_swap yX3_swap ∈ hwG := hwG_of (List.mem_append_left _ (List.mem_of_getElem? (i := 127) rfl)) rfl
theorem hm_128 : Cond.code yX3_swap cX3_swap 2 none ∈ hwG := hwG_of (List.mem_append_left _ (List.mem_of_getElem? (i := 128) rfl)) rfl
theorem hm_129 : Cond.methodLink RL 102 yX3_implies ∈ hwG := hwG_of (List.mem_append_left _ (List.mem_of_getElem? (i := 129) rfl)) rfl
theorem hm_130 : Cond.instanceMethod yX3_implies ∈ hwG := hwG_of (List.mem_append_left _ (List.mem_of_getElem? (i := 130) rfl)) rfl
theorem hm_131 : Cond.selects RX3 yX3_implies yX3_implies ∈ hwG := hwG_of (List.mem_append_left _ (List.mem_of_getElem? (i := 131) rfl)) rfl
theorem hm_132 : Cond.code yX3_implies cX3_implies 1 (some .boolean) ∈ hwG := hwG_of (List.mem_append_left _ (List.mem_of_getElem? (i := 132) rfl)) rfl
theorem hm_133 : Cond.methodLink RX3 77 yX3_leastFrame ∈ hwG := hwG_of (List.mem_append_left _ (List.mem_of_getElem? (i := 133) rfl)) rfl
theorem hm_135 : Cond.instanceMethod yX3_leastFrame ∈ hwG := hwG_of (List.mem_append_left _ (List.mem_of_getElem? (i := 135) rfl)) rfl
theorem hm_136 : Cond.code yX3_leastFrame cX3_leastFrame 6 (some .int) ∈ hwG := hwG_of (List.mem_append_left _ (List.mem_of_getElem? (i := 136) rfl)) rfl
theorem hm_137 : Cond.methodLink RX3 66 yX0_begin ∈ hwG := hwG_of (List.mem_append_left _ (List.mem_of_getElem? (i := 137) rfl)) rfl
theorem hm_138 : Cond.instanceMethod yX0_begin ∈ hwG := hwG_of (List.mem_append_left _ (List.mem_of_getElem? (i := 138) rfl)) rfl
theorem hm_139 : Cond.selects RX0 yX0_begin yX0_begin ∈ hwG := hwG_of (List.mem_append_left _ (List.mem_of_getElem? (i := 139) rfl)) rfl
theorem hm_140 : Cond.code yX0_begin cX0_begin 2 none ∈ hwG := hwG_of (List.mem_append_left _ (List.mem_of_getElem? (i := 140) rfl)) rfl
theorem hm_141 : Cond.methodLink RX0 28 yJ7_fill ∈ hwG := hwG_of (List.mem_append_left _ (List.mem_of_getElem? (i := 141) rfl)) rfl
theorem hm_142 : Cond.methodLink RX3 69 yX0_draw ∈ hwG := hwG_of (List.mem_append_left _ (List.mem_of_getElem? (i := 142) rfl)) rfl
theorem hm_143 : Cond.instanceMethod yX0_draw ∈ hwG := hwG_of (List.mem_append_left _ (List.mem_of_getElem? (i := 143) rfl)) rfl
theorem hm_144 : Cond.selects RX0 yX0_draw yX0_draw ∈ hwG := hwG_of (List.mem_append_left _ (List.mem_of_getElem? (i := 144) rfl)) rfl
theorem hm_145 : Cond.code yX0_draw cX0_draw 6 (some .boolean) ∈ hwG := hwG_of (List.mem_append_left _ (List.mem_of_getElem? (i := 145) rfl)) rfl
theorem hm_146 : Cond.methodLink RX0 44 yX1_pairsFit ∈ hwG := hwG_of (List.mem_append_left _ (List.mem_of_getElem? (i := 146) rfl)) rfl
theorem hm_147 : Cond.instanceMethod yX1_pairsFit ∈ hwG := hwG_of (List.mem_append_left _ (List.mem_of_getElem? (i := 147) rfl)) rfl
theorem hm_148 : Cond.selects RX1 yX1_pairsFit yX1_pairsFit ∈ hwG := hwG_of (List.mem_append_left _ (List.mem_of_getElem? (i := 148) rfl)) rfl
theorem hm_149 : Cond.code yX1_pairsFit cX1_pairsFit 4 (some .boolean) ∈ hwG := hwG_of (List.mem_append_left _ (List.mem_of_getElem? (i := 149) rfl)) rfl
theorem hm_150 : Cond.methodLink RX1 41 yX1_termsEqualTo ∈ hwG := hwG_of (List.mem_append_left _ (List.mem_of_getElem? (i := 150) rfl)) rfl
theorem hm_151 : Cond.static yX1_termsEqualTo ∈ hwG := hwG_of (List.mem_append_left _ (List.mem_of_getElem? (i := 151) rfl)) rfl
theorem hm_152 : Cond.code yX1_termsEqualTo cX1_termsEqualTo 4 (some .int) ∈ hwG := hwG_of (List.mem_append_left _ (List.mem_of_getElem? (i := 152) rfl)) rfl
theorem hm_153 : Cond.methodLink RX0 50 yX2_removeAll ∈ hwG := hwG_of (List.mem_append_left _ (List.mem_of_getElem? (i := 153) rfl)) rfl
theorem hm_154 : Cond.instanceMethod yX2_removeAll ∈ hwG := hwG_of (List.mem_append_left _ (List.mem_of_getElem? (i := 154) rfl)) rfl
theorem hm_155 : Cond.selects RX2 yX2_removeAll yX2_removeAll ∈ hwG := hwG_of (List.mem_append_left _ (List.mem_of_getElem? (i := 155) rfl)) rfl
theorem hm_156 : Cond.code yX2_removeAll cX2_removeAll 1 none ∈ hwG := hwG_of (List.mem_append_left _ (List.mem_of_getElem? (i := 156) rfl)) rfl
theorem hm_157 : Cond.methodLink RX0 66 yX2_hasCell ∈ hwG := hwG_of (List.mem_append_left _ (List.mem_of_getElem? (i := 157) rfl)) rfl
theorem hm_158 : Cond.instanceMethod yX2_hasCell ∈ hwG := hwG_of (List.mem_append_left _ (List.mem_of_getElem? (i := 158) rfl)) rfl
theorem hm_159 : Cond.selects RX2 yX2_hasCell yX2_hasCell ∈ hwG := hwG_of (List.mem_append_left _ (List.mem_of_getElem? (i := 159) rfl)) rfl
theorem hm_160 : Cond.code yX2_hasCell cX2_hasCell 2 (some .boolean) ∈ hwG := hwG_of (List.mem_append_left _ (List.mem_of_getElem? (i := 160) rfl)) rfl
theorem hm_161 : Cond.methodLink RX0 70 yX2_setStretch ∈ hwG := hwG_of (List.mem_append_left _ (List.mem_of_getElem? (i := 161) rfl)) rfl
theorem hm_162 : Cond.instanceMethod yX2_setStretch ∈ hwG := hwG_of (List.mem_append_left _ (List.mem_of_getElem? (i := 162) rfl)) rfl
theorem hm_163 : Cond.selects RX2 yX2_setStretch yX2_setStretch ∈ hwG := hwG_of (List.mem_append_left _ (List.mem_of_getElem? (i := 163) rfl)) rfl
theorem hm_164 : Cond.code yX2_setStretch cX2_setStretch 5 none ∈ hwG := hwG_of (List.mem_append_left _ (List.mem_of_getElem? (i := 164) rfl)) rfl
theorem hm_165 : Cond.methodLink RX3 106 yX2_takenBy ∈ hwG := hwG_of (List.mem_append_left _ (List.mem_of_getElem? (i := 165) rfl)) rfl
theorem hm_166 : Cond.instanceMethod yX2_takenBy ∈ hwG := hwG_of (List.mem_append_left _ (List.mem_of_getElem? (i := 166) rfl)) rfl
theorem hm_167 : Cond.selects RX2 yX2_takenBy yX2_takenBy ∈ hwG := hwG_of (List.mem_append_left _ (List.mem_of_getElem? (i := 167) rfl)) rfl
theorem hm_168 : Cond.code yX2_takenBy cX2_takenBy 7 (some .int) ∈ hwG := hwG_of (List.mem_append_left _ (List.mem_of_getElem? (i := 168) rfl)) rfl
theorem hm_169 : Cond.methodLink RX2 42 yX1_pairsFit ∈ hwG := hwG_of (List.mem_append_left _ (List.mem_of_getElem? (i := 169) rfl)) rfl
theorem hm_170 : Cond.methodLink RX2 60 yX2_takenByList ∈ hwG := hwG_of (List.mem_append_left _ (List.mem_of_getElem? (i := 170) rfl)) rfl
theorem hm_172 : Cond.instanceMethod yX2_takenByList ∈ hwG := hwG_of (List.mem_append_left _ (List.mem_of_getElem? (i := 172) rfl)) rfl
theorem hm_173 : Cond.code yX2_takenByList cX2_takenByList 7 (some .int) ∈ hwG := hwG_of (List.mem_append_left _ (List.mem_of_getElem? (i := 173) rfl)) rfl
theorem hm_174 : Cond.methodLink RX2 67 yX2_hasCell ∈ hwG := hwG_of (List.mem_append_left _ (List.mem_of_getElem? (i := 174) rfl)) rfl
theorem hm_175 : Cond.methodLink RX2 64 yX2_takenByCell ∈ hwG := hwG_of (List.mem_append_left _ (List.mem_of_getElem? (i := 175) rfl)) rfl
theorem hm_177 : Cond.instanceMethod yX2_takenByCell ∈ hwG := hwG_of (List.mem_append_left _ (List.mem_of_getElem? (i := 177) rfl)) rfl
theorem hm_178 : Cond.code yX2_takenByCell cX2_takenByCell 3 (some .int) ∈ hwG := hwG_of (List.mem_append_left _ (List.mem_of_getElem? (i := 178) rfl)) rfl
theorem hm_179 : Cond.methodLink RX3 73 yX0_advance ∈ hwG := hwG_of (List.mem_append_left _ (List.mem_of_getElem? (i := 179) rfl)) rfl
theorem hm_180 : Cond.instanceMethod yX0_advance ∈ hwG := hwG_of (List.mem_append_left _ (List.mem_of_getElem? (i := 180) rfl)) rfl
theorem hm_181 : Cond.selects RX0 yX0_advance yX0_advance ∈ hwG := hwG_of (List.mem_append_left _ (List.mem_of_getElem? (i := 181) rfl)) rfl
theorem hm_182 : Cond.code yX0_advance cX0_advance 3 (some .boolean) ∈ hwG := hwG_of (List.mem_append_left _ (List.mem_of_getElem? (i := 182) rfl)) rfl
theorem hm_183 : Cond.methodLink RX0 34 yX0_greatestBefore ∈ hwG := hwG_of (List.mem_append_left _ (List.mem_of_getElem? (i := 183) rfl)) rfl
theorem hm_185 : Cond.instanceMethod yX0_greatestBefore ∈ hwG := hwG_of (List.mem_append_left _ (List.mem_of_getElem? (i := 185) rfl)) rfl
theorem hm_186 : Cond.code yX0_greatestBefore cX0_greatestBefore 4 (some .int) ∈ hwG := hwG_of (List.mem_append_left _ (List.mem_of_getElem? (i := 186) rfl)) rfl
theorem hm_187 : Cond.methodLink RX0 38 ⟨"java/lang/Math", "max", "(II)I"⟩ ∈ hwG := hwG_of (List.mem_append_left _ (List.mem_of_getElem? (i := 187) rfl)) rfl
theorem hm_188 : Cond.static ⟨"java/lang/Math", "max", "(II)I"⟩ ∈ hwG := hwG_of (List.mem_append_left _ (List.mem_of_getElem? (i := 188) rfl)) rfl
theorem hm_189 : Cond.code ⟨"java/lang/Math", "max", "(II)I"⟩ prog_12_method_65_code 2 (some .int) ∈ hwG := hwG_of (List.mem_append_left _ (List.mem_of_getElem? (i := 189) rfl)) rfl
theorem hm_190 : Cond.methodLink RL 111 yX3_frame ∈ hwG := hwG_of (List.mem_append_left _ (List.mem_of_getElem? (i := 190) rfl)) rfl
theorem hm_191 : Cond.instanceMethod yX3_frame ∈ hwG := hwG_of (List.mem_append_left _ (List.mem_of_getElem? (i := 191) rfl)) rfl
theorem hm_192 : Cond.selects RX3 yX3_frame yX3_frame ∈ hwG := hwG_of (List.mem_append_left _ (List.mem_of_getElem? (i := 192) rfl)) rfl
theorem hm_193 : Cond.code yX3_frame cX3_frame 1 (some .int) ∈ hwG := hwG_of (List.mem_append_left _ (List.mem_of_getElem? (i := 193) rfl)) rfl
theorem hm_194 : Cond.methodLink RL 143 yX3_next ∈ hwG := hwG_of (List.mem_append_left _ (List.mem_of_getElem? (i := 194) rfl)) rfl
theorem hm_195 : Cond.instanceMethod yX3_next ∈ hwG := hwG_of (List.mem_append_left _ (List.mem_of_getElem? (i := 195) rfl)) rfl
theorem hm_196 : Cond.selects RX3 yX3_next yX3_next ∈ hwG := hwG_of (List.mem_append_left _ (List.mem_of_getElem? (i := 196) rfl)) rfl
theorem hm_197 : Cond.code yX3_next cX3_next 2 (some .int) ∈ hwG := hwG_of (List.mem_append_left _ (List.mem_of_getElem? (i := 197) rfl)) rfl
theorem hm_198 : Cond.methodLink RX3 130 yX2_hasCell ∈ hwG := hwG_of (List.mem_append_left _ (List.mem_of_getElem? (i := 198) rfl)) rfl
theorem hm_199 : Cond.methodLink RL 147 yX3_count ∈ hwG := hwG_of (List.mem_append_left _ (List.mem_of_getElem? (i := 199) rfl)) rfl
theorem hm_200 : Cond.instanceMethod yX3_count ∈ hwG := hwG_of (List.mem_append_left _ (List.mem_of_getElem? (i := 200) rfl)) rfl
theorem hm_201 : Cond.selects RX3 yX3_count yX3_count ∈ hwG := hwG_of (List.mem_append_left _ (List.mem_of_getElem? (i := 201) rfl)) rfl
theorem hm_202 : Cond.code yX3_count cX3_count 1 (some .int) ∈ hwG := hwG_of (List.mem_append_left _ (List.mem_of_getElem? (i := 202) rfl)) rfl
theorem hm_203 : Cond.methodLink RX3 134 yJ6_bitCount ∈ hwG := hwG_of (List.mem_append_left _ (List.mem_of_getElem? (i := 203) rfl)) rfl
theorem hm_204 : Cond.static yJ6_bitCount ∈ hwG := hwG_of (List.mem_append_left _ (List.mem_of_getElem? (i := 204) rfl)) rfl
theorem hm_205 : Cond.code yJ6_bitCount cJ6_bitCount 1 (some .int) ∈ hwG := hwG_of (List.mem_append_left _ (List.mem_of_getElem? (i := 205) rfl)) rfl
theorem hm_206 : Cond.constant RJ6 265 1431655765 ∈ hwG := hwG_of (List.mem_append_left _ (List.mem_of_getElem? (i := 206) rfl)) rfl
theorem hm_207 : Cond.constant RJ6 266 858993459 ∈ hwG := hwG_of (List.mem_append_left _ (List.mem_of_getElem? (i := 207) rfl)) rfl
theorem hm_208 : Cond.constant RJ6 267 252645135 ∈ hwG := hwG_of (List.mem_append_left _ (List.mem_of_getElem? (i := 208) rfl)) rfl
theorem hm_209 : Cond.methodLink RL 73 yL_pair ∈ hwG := hwG_of (List.mem_append_left _ (List.mem_of_getElem? (i := 209) rfl)) rfl
theorem hm_210 : Cond.static yL_pair ∈ hwG := hwG_of (List.mem_append_left _ (List.mem_of_getElem? (i := 210) rfl)) rfl
theorem hm_211 : Cond.codeWith yL_pair cL_pair 6 (some .int) [(0, 9, 12, 13)] ∈ hwG := hwG_of (List.mem_append_left _ (List.mem_of_getElem? (i := 211) rfl)) rfl
theorem hm_212 : Cond.classLink RL 13 "java/lang/IndexOutOfBoundsException" ∈ hwG := hwG_of (List.mem_append_left _ (List.mem_of_getElem? (i := 212) rfl)) rfl
theorem hm_213 : Cond.methodLink RL 7 yX3_pair ∈ hwG := hwG_of (List.mem_append_left _ (List.mem_of_getElem? (i := 213) rfl)) rfl
theorem hm_214 : Cond.instanceMethod yX3_pair ∈ hwG := hwG_of (List.mem_append_left _ (List.mem_of_getElem? (i := 214) rfl)) rfl
theorem hm_215 : Cond.selects RX3 yX3_pair yX3_pair ∈ hwG := hwG_of (List.mem_append_left _ (List.mem_of_getElem? (i := 215) rfl)) rfl
theorem hm_216 : Cond.code yX3_pair cX3_pair 6 none ∈ hwG := hwG_of (List.mem_append_left _ (List.mem_of_getElem? (i := 216) rfl)) rfl
theorem hm_217 : Cond.methodLink RX3 35 yX3_claimAt ∈ hwG := hwG_of (List.mem_append_left _ (List.mem_of_getElem? (i := 217) rfl)) rfl
theorem hm_219 : Cond.instanceMethod yX3_claimAt ∈ hwG := hwG_of (List.mem_append_left _ (List.mem_of_getElem? (i := 219) rfl)) rfl
theorem hm_220 : Cond.code yX3_claimAt cX3_claimAt 2 (some (.object "HeapClaims$Claim")) ∈ hwG := hwG_of (List.mem_append_left _ (List.mem_of_getElem? (i := 220) rfl)) rfl
theorem hm_221 : Cond.classLink RX3 140 "java/lang/IndexOutOfBoundsException" ∈ hwG := hwG_of (List.mem_append_left _ (List.mem_of_getElem? (i := 221) rfl)) rfl
theorem hm_222 : Cond.instantiable "java/lang/IndexOutOfBoundsException" 6 ∈ hwG := hwG_of (List.mem_append_left _ (List.mem_of_getElem? (i := 222) rfl)) rfl
theorem hm_230 : Cond.selects "java/lang/IndexOutOfBoundsException" ⟨"java/lang/Throwable", "fillInStackTrace", "(I)Ljava/lang/Throwable;"⟩ ⟨"java/lang/Throwable", "fillInStackTrace", "(I)Ljava/lang/Throwable;"⟩ ∈ hwG := hwG_of (List.mem_append_left _ (List.mem_of_getElem? (i := 230) rfl)) rfl
theorem hm_231 : Cond.selects "java/lang/IndexOutOfBoundsException" ⟨"java/lang/Throwable", "fillInStackTrace", "()Ljava/lang/Throwable;"⟩ ⟨"java/lang/Throwable", "fillInStackTrace", "()Ljava/lang/Throwable;"⟩ ∈ hwG := hwG_of (List.mem_append_left _ (List.mem_of_getElem? (i := 231) rfl)) rfl
theorem hm_242 : Cond.fieldLink "java/lang/Throwable" 198 "java/lang/Throwable" "backtrace" "Ljava/lang/Object;" ∈ hwG := hwG_of (List.mem_append_right _ (List.mem_append_left _ (List.mem_of_getElem? (i := 2) rfl))) rfl
theorem hm_244 : Cond.instanceMethod ⟨"java/lang/Throwable", "<init>", "()V"⟩ ∈ hwG := hwG_of (List.mem_append_right _ (List.mem_append_left _ (List.mem_of_getElem? (i := 4) rfl))) rfl
theorem hm_245 : Cond.code ⟨"java/lang/Throwable", "<init>", "()V"⟩ prog_15_method_1_code 1 none ∈ hwG := hwG_of (List.mem_append_right _ (List.mem_append_left _ (List.mem_of_getElem? (i := 5) rfl))) rfl
theorem hm_246 : Cond.methodLink "java/lang/Throwable" 1 ⟨"java/lang/Object", "<init>", "()V"⟩ ∈ hwG := hwG_of (List.mem_append_right _ (List.mem_append_left _ (List.mem_of_getElem? (i := 6) rfl))) rfl
theorem hm_247 : Cond.fieldLink "java/lang/Throwable" 13 "java/lang/Throwable" "UNASSIGNED_STACK" "[Ljava/lang/StackTraceElement;" ∈ hwG := hwG_of (List.mem_append_right _ (List.mem_append_left _ (List.mem_of_getElem? (i := 7) rfl))) rfl
theorem hm_249 : Cond.fieldLink "java/lang/Throwable" 20 "java/lang/Throwable" "SUPPRESSED_SENTINEL" "Ljava/util/List;" ∈ hwG := hwG_of (List.mem_append_right _ (List.mem_append_left _ (List.mem_of_getElem? (i := 9) rfl))) rfl
theorem hm_251 : Cond.methodLink "java/lang/Throwable" 27 ⟨"java/lang/Throwable", "fillInStackTrace", "()Ljava/lang/Throwable;"⟩ ∈ hwG := hwG_of (List.mem_append_right _ (List.mem_append_left _ (List.mem_of_getElem? (i := 11) rfl))) rfl
theorem hm_252 : Cond.instanceMethod ⟨"java/lang/Throwable", "fillInStackTrace", "()Ljava/lang/Throwable;"⟩ ∈ hwG := hwG_of (List.mem_append_right _ (List.mem_append_left _ (List.mem_of_getElem? (i := 12) rfl))) rfl
theorem hm_254 : Cond.selects "java/lang/IllegalArgumentException" ⟨"java/lang/Throwable", "fillInStackTrace", "()Ljava/lang/Throwable;"⟩ ⟨"java/lang/Throwable", "fillInStackTrace", "()Ljava/lang/Throwable;"⟩ ∈ hwG := hwG_of (List.mem_append_right _ (List.mem_append_left _ (List.mem_of_getElem? (i := 14) rfl))) rfl
theorem hm_255 : Cond.selects "java/lang/IllegalStateException" ⟨"java/lang/Throwable", "fillInStackTrace", "()Ljava/lang/Throwable;"⟩ ⟨"java/lang/Throwable", "fillInStackTrace", "()Ljava/lang/Throwable;"⟩ ∈ hwG := hwG_of (List.mem_append_right _ (List.mem_append_left _ (List.mem_of_getElem? (i := 15) rfl))) rfl
theorem hm_256 : Cond.selects "java/lang/UnsupportedOperationException" ⟨"java/lang/Throwable", "fillInStackTrace", "()Ljava/lang/Throwable;"⟩ ⟨"java/lang/Throwable", "fillInStackTrace", "()Ljava/lang/Throwable;"⟩ ∈ hwG := hwG_of (List.mem_append_right _ (List.mem_append_left _ (List.mem_of_getElem? (i := 16) rfl))) rfl
theorem hm_258 : Cond.methodLink "java/lang/Throwable" 202 ⟨"java/lang/Throwable", "fillInStackTrace", "(I)Ljava/lang/Throwable;"⟩ ∈ hwG := hwG_of (List.mem_append_right _ (List.mem_append_left _ (List.mem_of_getElem? (i := 18) rfl))) rfl
theorem hm_260 : Cond.instanceMethod ⟨"java/lang/Throwable", "fillInStackTrace", "(I)Ljava/lang/Throwable;"⟩ ∈ hwG := hwG_of (List.mem_append_right _ (List.mem_append_left _ (List.mem_of_getElem? (i := 20) rfl))) rfl
theorem hm_261 : Cond.instantiable "java/lang/Throwable" 6 ∈ hwG := hwG_of (List.mem_append_right _ (List.mem_append_left _ (List.mem_of_getElem? (i := 21) rfl))) rfl
theorem hm_264 : Cond.methodLink RX3 144 ⟨"java/lang/IndexOutOfBoundsException", "<init>", "(Ljava/lang/String;)V"⟩ ∈ hwG := hwG_of (List.mem_append_right _ (List.mem_append_left _ (List.mem_of_getElem? (i := 24) rfl))) rfl
theorem hm_265 : Cond.instanceMethod ⟨"java/lang/IndexOutOfBoundsException", "<init>", "(Ljava/lang/String;)V"⟩ ∈ hwG := hwG_of (List.mem_append_right _ (List.mem_append_left _ (List.mem_of_getElem? (i := 25) rfl))) rfl
theorem hm_266 : Cond.code ⟨"java/lang/IndexOutOfBoundsException", "<init>", "(Ljava/lang/String;)V"⟩ prog_10_method_2_code 2 none ∈ hwG := hwG_of (List.mem_append_right _ (List.mem_append_left _ (List.mem_of_getElem? (i := 26) rfl))) rfl
theorem hm_267 : Cond.methodLink "java/lang/IndexOutOfBoundsException" 7 ⟨"java/lang/RuntimeException", "<init>", "(Ljava/lang/String;)V"⟩ ∈ hwG := hwG_of (List.mem_append_right _ (List.mem_append_left _ (List.mem_of_getElem? (i := 27) rfl))) rfl
theorem hm_268 : Cond.instanceMethod ⟨"java/lang/RuntimeException", "<init>", "(Ljava/lang/String;)V"⟩ ∈ hwG := hwG_of (List.mem_append_right _ (List.mem_append_left _ (List.mem_of_getElem? (i := 28) rfl))) rfl
theorem hm_269 : Cond.code ⟨"java/lang/RuntimeException", "<init>", "(Ljava/lang/String;)V"⟩ prog_13_method_2_code 2 none ∈ hwG := hwG_of (List.mem_append_right _ (List.mem_append_left _ (List.mem_of_getElem? (i := 29) rfl))) rfl
theorem hm_270 : Cond.methodLink "java/lang/RuntimeException" 7 ⟨"java/lang/Exception", "<init>", "(Ljava/lang/String;)V"⟩ ∈ hwG := hwG_of (List.mem_append_right _ (List.mem_append_left _ (List.mem_of_getElem? (i := 30) rfl))) rfl
theorem hm_271 : Cond.instanceMethod ⟨"java/lang/Exception", "<init>", "(Ljava/lang/String;)V"⟩ ∈ hwG := hwG_of (List.mem_append_right _ (List.mem_append_left _ (List.mem_of_getElem? (i := 31) rfl))) rfl
theorem hm_272 : Cond.code ⟨"java/lang/Exception", "<init>", "(Ljava/lang/String;)V"⟩ prog_7_method_2_code 2 none ∈ hwG := hwG_of (List.mem_append_right _ (List.mem_append_left _ (List.mem_of_getElem? (i := 32) rfl))) rfl
theorem hm_273 : Cond.methodLink "java/lang/Exception" 7 ⟨"java/lang/Throwable", "<init>", "(Ljava/lang/String;)V"⟩ ∈ hwG := hwG_of (List.mem_append_right _ (List.mem_append_left _ (List.mem_of_getElem? (i := 33) rfl))) rfl
theorem hm_274 : Cond.instanceMethod ⟨"java/lang/Throwable", "<init>", "(Ljava/lang/String;)V"⟩ ∈ hwG := hwG_of (List.mem_append_right _ (List.mem_append_left _ (List.mem_of_getElem? (i := 34) rfl))) rfl
theorem hm_275 : Cond.code ⟨"java/lang/Throwable", "<init>", "(Ljava/lang/String;)V"⟩ prog_15_method_2_code 2 none ∈ hwG := hwG_of (List.mem_append_right _ (List.mem_append_left _ (List.mem_of_getElem? (i := 35) rfl))) rfl
theorem hm_277 : Cond.fieldLink "java/lang/Throwable" 31 "java/lang/Throwable" "detailMessage" "Ljava/lang/String;" ∈ hwG := hwG_of (List.mem_append_right _ (List.mem_append_left _ (List.mem_of_getElem? (i := 37) rfl))) rfl
theorem hm_278 : Cond.fieldLink "java/lang/Throwable" 7 "java/lang/Throwable" "cause" "Ljava/lang/Throwable;" ∈ hwG := hwG_of (List.mem_append_right _ (List.mem_append_left _ (List.mem_of_getElem? (i := 38) rfl))) rfl
theorem hm_279 : Cond.fieldLink "java/lang/Throwable" 17 "java/lang/Throwable" "stackTrace" "[Ljava/lang/StackTraceElement;" ∈ hwG := hwG_of (List.mem_append_right _ (List.mem_append_left _ (List.mem_of_getElem? (i := 39) rfl))) rfl
theorem hm_280 : Cond.fieldLink "java/lang/Throwable" 24 "java/lang/Throwable" "suppressedExceptions" "Ljava/util/List;" ∈ hwG := hwG_of (List.mem_append_right _ (List.mem_append_left _ (List.mem_of_getElem? (i := 40) rfl))) rfl
theorem hm_289 : Cond.arrayClass .byte ∈ hwG := hwG_of (List.mem_append_right _ (List.mem_append_left _ (List.mem_of_getElem? (i := 49) rfl))) rfl
theorem hm_290 : Cond.methodLink RX3 39 yX3_checkTerm ∈ hwG := hwG_of (List.mem_append_right _ (List.mem_append_left _ (List.mem_of_getElem? (i := 50) rfl))) rfl
theorem hm_292 : Cond.instanceMethod yX3_checkTerm ∈ hwG := hwG_of (List.mem_append_right _ (List.mem_append_left _ (List.mem_of_getElem? (i := 52) rfl))) rfl
theorem hm_293 : Cond.code yX3_checkTerm cX3_checkTerm 2 none ∈ hwG := hwG_of (List.mem_append_right _ (List.mem_append_left _ (List.mem_of_getElem? (i := 53) rfl))) rfl
theorem hm_295 : Cond.methodLink RX3 42 yX1_addPair ∈ hwG := hwG_of (List.mem_append_right _ (List.mem_append_left _ (List.mem_of_getElem? (i := 55) rfl))) rfl
theorem hm_296 : Cond.instanceMethod yX1_addPair ∈ hwG := hwG_of (List.mem_append_right _ (List.mem_append_left _ (List.mem_of_getElem? (i := 56) rfl))) rfl
theorem hm_297 : Cond.selects RX1 yX1_addPair yX1_addPair ∈ hwG := hwG_of (List.mem_append_right _ (List.mem_append_left _ (List.mem_of_getElem? (i := 57) rfl))) rfl
theorem hm_298 : Cond.code yX1_addPair cX1_addPair 4 none ∈ hwG := hwG_of (List.mem_append_right _ (List.mem_append_left _ (List.mem_of_getElem? (i := 58) rfl))) rfl
theorem hm_299 : Cond.methodLink RL 83 yL_piece ∈ hwG := hwG_of (List.mem_append_right _ (List.mem_append_left _ (List.mem_of_getElem? (i := 59) rfl))) rfl
theorem hm_300 : Cond.static yL_piece ∈ hwG := hwG_of (List.mem_append_right _ (List.mem_append_left _ (List.mem_of_getElem? (i := 60) rfl))) rfl
theorem hm_301 : Cond.codeWith yL_piece cL_piece 7 (some .int) [(0, 14, 17, 13), (0, 14, 21, 19)] ∈ hwG := hwG_of (List.mem_append_right _ (List.mem_append_left _ (List.mem_of_getElem? (i := 61) rfl))) rfl
theorem hm_302 : Cond.classLink RL 19 "java/lang/IllegalStateException" ∈ hwG := hwG_of (List.mem_append_right _ (List.mem_append_left _ (List.mem_of_getElem? (i := 62) rfl))) rfl
theorem hm_303 : Cond.methodLink RL 15 yX3_piece ∈ hwG := hwG_of (List.mem_append_right _ (List.mem_append_left _ (List.mem_of_getElem? (i := 63) rfl))) rfl
theorem hm_304 : Cond.instanceMethod yX3_piece ∈ hwG := hwG_of (List.mem_append_right _ (List.mem_append_left _ (List.mem_of_getElem? (i := 64) rfl))) rfl
theorem hm_305 : Cond.selects RX3 yX3_piece yX3_piece ∈ hwG := hwG_of (List.mem_append_right _ (List.mem_append_left _ (List.mem_of_getElem? (i := 65) rfl))) rfl
theorem hm_306 : Cond.code yX3_piece cX3_piece 6 (some .int) ∈ hwG := hwG_of (List.mem_append_right _ (List.mem_append_left _ (List.mem_of_getElem? (i := 66) rfl))) rfl
theorem hm_307 : Cond.classLink RX3 50 "java/lang/IllegalStateException" ∈ hwG := hwG_of (List.mem_append_right _ (List.mem_append_left _ (List.mem_of_getElem? (i := 67) rfl))) rfl
theorem hm_308 : Cond.instantiable "java/lang/IllegalStateException" 6 ∈ hwG := hwG_of (List.mem_append_right _ (List.mem_append_left _ (List.mem_of_getElem? (i := 68) rfl))) rfl
theorem hm_310 : Cond.selects "java/lang/IllegalStateException" ⟨"java/lang/Throwable", "fillInStackTrace", "(I)Ljava/lang/Throwable;"⟩ ⟨"java/lang/Throwable", "fillInStackTrace", "(I)Ljava/lang/Throwable;"⟩ ∈ hwG := hwG_of (List.mem_append_right _ (List.mem_append_left _ (List.mem_of_getElem? (i := 70) rfl))) rfl
theorem hm_317 : Cond.methodLink RX3 54 ⟨"java/lang/IllegalStateException", "<init>", "(Ljava/lang/String;)V"⟩ ∈ hwG := hwG_of (List.mem_append_right _ (List.mem_append_left _ (List.mem_of_getElem? (i := 77) rfl))) rfl
theorem hm_318 : Cond.instanceMethod ⟨"java/lang/IllegalStateException", "<init>", "(Ljava/lang/String;)V"⟩ ∈ hwG := hwG_of (List.mem_append_right _ (List.mem_append_left _ (List.mem_of_getElem? (i := 78) rfl))) rfl
theorem hm_319 : Cond.code ⟨"java/lang/IllegalStateException", "<init>", "(Ljava/lang/String;)V"⟩ prog_9_method_2_code 2 none ∈ hwG := hwG_of (List.mem_append_right _ (List.mem_append_left _ (List.mem_of_getElem? (i := 79) rfl))) rfl
theorem hm_320 : Cond.methodLink "java/lang/IllegalStateException" 7 ⟨"java/lang/RuntimeException", "<init>", "(Ljava/lang/String;)V"⟩ ∈ hwG := hwG_of (List.mem_append_right _ (List.mem_append_left _ (List.mem_of_getElem? (i := 80) rfl))) rfl
theorem hm_323 : Cond.methodLink RX3 57 yX1_addPiece ∈ hwG := hwG_of (List.mem_append_right _ (List.mem_append_left _ (List.mem_of_getElem? (i := 83) rfl))) rfl
theorem hm_324 : Cond.instanceMethod yX1_addPiece ∈ hwG := hwG_of (List.mem_append_right _ (List.mem_append_left _ (List.mem_of_getElem? (i := 84) rfl))) rfl
theorem hm_325 : Cond.selects RX1 yX1_addPiece yX1_addPiece ∈ hwG := hwG_of (List.mem_append_right _ (List.mem_append_left _ (List.mem_of_getElem? (i := 85) rfl))) rfl
theorem hm_326 : Cond.code yX1_addPiece cX1_addPiece 4 none ∈ hwG := hwG_of (List.mem_append_right _ (List.mem_append_left _ (List.mem_of_getElem? (i := 86) rfl))) rfl
theorem hm_327 : Cond.methodLink RL 87 yL_clear ∈ hwG := hwG_of (List.mem_append_right _ (List.mem_append_left _ (List.mem_of_getElem? (i := 87) rfl))) rfl
theorem hm_328 : Cond.static yL_clear ∈ hwG := hwG_of (List.mem_append_right _ (List.mem_append_left _ (List.mem_of_getElem? (i := 88) rfl))) rfl
theorem hm_329 : Cond.codeWith yL_clear cL_clear 3 (some .int) [(0, 5, 8, 13)] ∈ hwG := hwG_of (List.mem_append_right _ (List.mem_append_left _ (List.mem_of_getElem? (i := 89) rfl))) rfl
theorem hm_330 : Cond.methodLink RL 21 yX3_clear ∈ hwG := hwG_of (List.mem_append_right _ (List.mem_append_left _ (List.mem_of_getElem? (i := 90) rfl))) rfl
theorem hm_331 : Cond.instanceMethod yX3_clear ∈ hwG := hwG_of (List.mem_append_right _ (List.mem_append_left _ (List.mem_of_getElem? (i := 91) rfl))) rfl
theorem hm_332 : Cond.selects RX3 yX3_clear yX3_clear ∈ hwG := hwG_of (List.mem_append_right _ (List.mem_append_left _ (List.mem_of_getElem? (i := 92) rfl))) rfl
theorem hm_333 : Cond.code yX3_clear cX3_clear 2 none ∈ hwG := hwG_of (List.mem_append_right _ (List.mem_append_left _ (List.mem_of_getElem? (i := 93) rfl))) rfl
theorem hm_334 : Cond.methodLink RX3 60 yX1_forgetAll ∈ hwG := hwG_of (List.mem_append_right _ (List.mem_append_left _ (List.mem_of_getElem? (i := 94) rfl))) rfl
theorem hm_335 : Cond.instanceMethod yX1_forgetAll ∈ hwG := hwG_of (List.mem_append_right _ (List.mem_append_left _ (List.mem_of_getElem? (i := 95) rfl))) rfl
theorem hm_336 : Cond.selects RX1 yX1_forgetAll yX1_forgetAll ∈ hwG := hwG_of (List.mem_append_right _ (List.mem_append_left _ (List.mem_of_getElem? (i := 96) rfl))) rfl
theorem hm_337 : Cond.code yX1_forgetAll cX1_forgetAll 1 none ∈ hwG := hwG_of (List.mem_append_right _ (List.mem_append_left _ (List.mem_of_getElem? (i := 97) rfl))) rfl
theorem hm_338 : Cond.methodLink RX1 35 yJ7_fill ∈ hwG := hwG_of (List.mem_append_right _ (List.mem_append_left _ (List.mem_of_getElem? (i := 98) rfl))) rfl
theorem hm_339 : Cond.methodLink RL 95 yL_pieces ∈ hwG := hwG_of (List.mem_append_right _ (List.mem_append_left _ (List.mem_of_getElem? (i := 99) rfl))) rfl
theorem hm_340 : Cond.static yL_pieces ∈ hwG := hwG_of (List.mem_append_right _ (List.mem_append_left _ (List.mem_of_getElem? (i := 100) rfl))) rfl
theorem hm_341 : Cond.codeWith yL_pieces cL_pieces 4 (some .int) [(0, 9, 12, 13)] ∈ hwG := hwG_of (List.mem_append_right _ (List.mem_append_left _ (List.mem_of_getElem? (i := 101) rfl))) rfl
theorem hm_342 : Cond.methodLink RL 25 yX3_pieces ∈ hwG := hwG_of (List.mem_append_right _ (List.mem_append_left _ (List.mem_of_getElem? (i := 102) rfl))) rfl
theorem hm_343 : Cond.instanceMethod yX3_pieces ∈ hwG := hwG_of (List.mem_append_right _ (List.mem_append_left _ (List.mem_of_getElem? (i := 103) rfl))) rfl
theorem hm_344 : Cond.selects RX3 yX3_pieces yX3_pieces ∈ hwG := hwG_of (List.mem_append_right _ (List.mem_append_left _ (List.mem_of_getElem? (i := 104) rfl))) rfl
theorem hm_345 : Cond.code yX3_pieces cX3_pieces 2 (some .int) ∈ hwG := hwG_of (List.mem_append_right _ (List.mem_append_left _ (List.mem_of_getElem? (i := 105) rfl))) rfl
theorem hm_346 : Cond.methodLink RL 99 yL_possible ∈ hwG := hwG_of (List.mem_append_right _ (List.mem_append_left _ (List.mem_of_getElem? (i := 106) rfl))) rfl
theorem hm_347 : Cond.static yL_possible ∈ hwG := hwG_of (List.mem_append_right _ (List.mem_append_left _ (List.mem_of_getElem? (i := 107) rfl))) rfl
theorem hm_348 : Cond.codeWith yL_possible cL_possible 4 (some .int) [(0, 16, 19, 13)] ∈ hwG := hwG_of (List.mem_append_right _ (List.mem_append_left _ (List.mem_of_getElem? (i := 108) rfl))) rfl
theorem hm_349 : Cond.methodLink RL 29 yX3_possible ∈ hwG := hwG_of (List.mem_append_right _ (List.mem_append_left _ (List.mem_of_getElem? (i := 109) rfl))) rfl
theorem hm_350 : Cond.instanceMethod yX3_possible ∈ hwG := hwG_of (List.mem_append_right _ (List.mem_append_left _ (List.mem_of_getElem? (i := 110) rfl))) rfl
theorem hm_351 : Cond.selects RX3 yX3_possible yX3_possible ∈ hwG := hwG_of (List.mem_append_right _ (List.mem_append_left _ (List.mem_of_getElem? (i := 111) rfl))) rfl
theorem hm_352 : Cond.code yX3_possible cX3_possible 5 (some .boolean) ∈ hwG := hwG_of (List.mem_append_right _ (List.mem_append_left _ (List.mem_of_getElem? (i := 112) rfl))) rfl
theorem hm_353 : Cond.methodLink RL 107 yL_sure ∈ hwG := hwG_of (List.mem_append_right _ (List.mem_append_left _ (List.mem_of_getElem? (i := 113) rfl))) rfl
theorem hm_354 : Cond.static yL_sure ∈ hwG := hwG_of (List.mem_append_right _ (List.mem_append_left _ (List.mem_of_getElem? (i := 114) rfl))) rfl
theorem hm_355 : Cond.codeWith yL_sure cL_sure 6 (some .int) [(0, 19, 22, 13), (0, 19, 26, 37)] ∈ hwG := hwG_of (List.mem_append_right _ (List.mem_append_left _ (List.mem_of_getElem? (i := 115) rfl))) rfl
theorem hm_356 : Cond.classLink RL 37 "java/lang/IllegalArgumentException" ∈ hwG := hwG_of (List.mem_append_right _ (List.mem_append_left _ (List.mem_of_getElem? (i := 116) rfl))) rfl
theorem hm_357 : Cond.methodLink RL 33 yX3_sure ∈ hwG := hwG_of (List.mem_append_right _ (List.mem_append_left _ (List.mem_of_getElem? (i := 117) rfl))) rfl
theorem hm_358 : Cond.instanceMethod yX3_sure ∈ hwG := hwG_of (List.mem_append_right _ (List.mem_append_left _ (List.mem_of_getElem? (i := 118) rfl))) rfl
theorem hm_359 : Cond.selects RX3 yX3_sure yX3_sure ∈ hwG := hwG_of (List.mem_append_right _ (List.mem_append_left _ (List.mem_of_getElem? (i := 119) rfl))) rfl
theorem hm_360 : Cond.code yX3_sure cX3_sure 6 (some .boolean) ∈ hwG := hwG_of (List.mem_append_right _ (List.mem_append_left _ (List.mem_of_getElem? (i := 120) rfl))) rfl
theorem hm_361 : Cond.classLink RX3 81 "java/lang/IllegalArgumentException" ∈ hwG := hwG_of (List.mem_append_right _ (List.mem_append_left _ (List.mem_of_getElem? (i := 121) rfl))) rfl
theorem hm_362 : Cond.instantiable "java/lang/IllegalArgumentException" 6 ∈ hwG := hwG_of (List.mem_append_right _ (List.mem_append_left _ (List.mem_of_getElem? (i := 122) rfl))) rfl
theorem hm_364 : Cond.selects "java/lang/IllegalArgumentException" ⟨"java/lang/Throwable", "fillInStackTrace", "(I)Ljava/lang/Throwable;"⟩ ⟨"java/lang/Throwable", "fillInStackTrace", "(I)Ljava/lang/Throwable;"⟩ ∈ hwG := hwG_of (List.mem_append_right _ (List.mem_append_left _ (List.mem_of_getElem? (i := 124) rfl))) rfl
theorem hm_371 : Cond.methodLink RX3 85 ⟨"java/lang/IllegalArgumentException", "<init>", "(Ljava/lang/String;)V"⟩ ∈ hwG := hwG_of (List.mem_append_right _ (List.mem_append_left _ (List.mem_of_getElem? (i := 131) rfl))) rfl
theorem hm_372 : Cond.instanceMethod ⟨"java/lang/IllegalArgumentException", "<init>", "(Ljava/lang/String;)V"⟩ ∈ hwG := hwG_of (List.mem_append_right _ (List.mem_append_left _ (List.mem_of_getElem? (i := 132) rfl))) rfl
theorem hm_373 : Cond.code ⟨"java/lang/IllegalArgumentException", "<init>", "(Ljava/lang/String;)V"⟩ prog_8_method_2_code 2 none ∈ hwG := hwG_of (List.mem_append_right _ (List.mem_append_left _ (List.mem_of_getElem? (i := 133) rfl))) rfl
theorem hm_374 : Cond.methodLink "java/lang/IllegalArgumentException" 7 ⟨"java/lang/RuntimeException", "<init>", "(Ljava/lang/String;)V"⟩ ∈ hwG := hwG_of (List.mem_append_right _ (List.mem_append_left _ (List.mem_of_getElem? (i := 134) rfl))) rfl
theorem hm_377 : Cond.methodLink RX3 86 yX3_isSo ∈ hwG := hwG_of (List.mem_append_right _ (List.mem_append_left _ (List.mem_of_getElem? (i := 137) rfl))) rfl
theorem hm_379 : Cond.instanceMethod yX3_isSo ∈ hwG := hwG_of (List.mem_append_right _ (List.mem_append_left _ (List.mem_of_getElem? (i := 139) rfl))) rfl
theorem hm_380 : Cond.code yX3_isSo cX3_isSo 5 (some .boolean) ∈ hwG := hwG_of (List.mem_append_right _ (List.mem_append_left _ (List.mem_of_getElem? (i := 140) rfl))) rfl
theorem hm_381 : Cond.methodLink RL 115 yL_give ∈ hwG := hwG_of (List.mem_append_right _ (List.mem_append_left _ (List.mem_of_getElem? (i := 141) rfl))) rfl
theorem hm_382 : Cond.static yL_give ∈ hwG := hwG_of (List.mem_append_right _ (List.mem_append_left _ (List.mem_of_getElem? (i := 142) rfl))) rfl
theorem hm_383 : Cond.codeWith yL_give cL_give 4 (some .int) [(0, 6, 9, 13), (0, 6, 12, 37)] ∈ hwG := hwG_of (List.mem_append_right _ (List.mem_append_left _ (List.mem_of_getElem? (i := 143) rfl))) rfl
theorem hm_384 : Cond.methodLink RL 39 yX3_give ∈ hwG := hwG_of (List.mem_append_right _ (List.mem_append_left _ (List.mem_of_getElem? (i := 144) rfl))) rfl
theorem hm_385 : Cond.instanceMethod yX3_give ∈ hwG := hwG_of (List.mem_append_right _ (List.mem_append_left _ (List.mem_of_getElem? (i := 145) rfl))) rfl
theorem hm_386 : Cond.selects RX3 yX3_give yX3_give ∈ hwG := hwG_of (List.mem_append_right _ (List.mem_append_left _ (List.mem_of_getElem? (i := 146) rfl))) rfl
theorem hm_387 : Cond.code yX3_give cX3_give 3 none ∈ hwG := hwG_of (List.mem_append_right _ (List.mem_append_left _ (List.mem_of_getElem? (i := 147) rfl))) rfl
theorem hm_388 : Cond.methodLink RX3 90 yX3_checkVariable ∈ hwG := hwG_of (List.mem_append_right _ (List.mem_append_left _ (List.mem_of_getElem? (i := 148) rfl))) rfl
theorem hm_390 : Cond.instanceMethod yX3_checkVariable ∈ hwG := hwG_of (List.mem_append_right _ (List.mem_append_left _ (List.mem_of_getElem? (i := 150) rfl))) rfl
theorem hm_391 : Cond.code yX3_checkVariable cX3_checkVariable 2 none ∈ hwG := hwG_of (List.mem_append_right _ (List.mem_append_left _ (List.mem_of_getElem? (i := 151) rfl))) rfl
theorem hm_393 : Cond.methodLink RX3 93 yX3_checkValue ∈ hwG := hwG_of (List.mem_append_right _ (List.mem_append_left _ (List.mem_of_getElem? (i := 153) rfl))) rfl
theorem hm_395 : Cond.instanceMethod yX3_checkValue ∈ hwG := hwG_of (List.mem_append_right _ (List.mem_append_left _ (List.mem_of_getElem? (i := 155) rfl))) rfl
theorem hm_396 : Cond.code yX3_checkValue cX3_checkValue 2 none ∈ hwG := hwG_of (List.mem_append_right _ (List.mem_append_left _ (List.mem_of_getElem? (i := 156) rfl))) rfl
theorem hm_398 : Cond.methodLink RL 119 yL_put ∈ hwG := hwG_of (List.mem_append_right _ (List.mem_append_left _ (List.mem_of_getElem? (i := 158) rfl))) rfl
theorem hm_399 : Cond.static yL_put ∈ hwG := hwG_of (List.mem_append_right _ (List.mem_append_left _ (List.mem_of_getElem? (i := 159) rfl))) rfl
theorem hm_400 : Cond.codeWith yL_put cL_put 4 (some .int) [(0, 6, 9, 37)] ∈ hwG := hwG_of (List.mem_append_right _ (List.mem_append_left _ (List.mem_of_getElem? (i := 160) rfl))) rfl
theorem hm_401 : Cond.methodLink RL 43 yX3_put ∈ hwG := hwG_of (List.mem_append_right _ (List.mem_append_left _ (List.mem_of_getElem? (i := 161) rfl))) rfl
theorem hm_402 : Cond.instanceMethod yX3_put ∈ hwG := hwG_of (List.mem_append_right _ (List.mem_append_left _ (List.mem_of_getElem? (i := 162) rfl))) rfl
theorem hm_403 : Cond.selects RX3 yX3_put yX3_put ∈ hwG := hwG_of (List.mem_append_right _ (List.mem_append_left _ (List.mem_of_getElem? (i := 163) rfl))) rfl
theorem hm_404 : Cond.code yX3_put cX3_put 3 none ∈ hwG := hwG_of (List.mem_append_right _ (List.mem_append_left _ (List.mem_of_getElem? (i := 164) rfl))) rfl
theorem hm_406 : Cond.methodLink RX3 102 yX2_setCell ∈ hwG := hwG_of (List.mem_append_right _ (List.mem_append_left _ (List.mem_of_getElem? (i := 166) rfl))) rfl
theorem hm_407 : Cond.instanceMethod yX2_setCell ∈ hwG := hwG_of (List.mem_append_right _ (List.mem_append_left _ (List.mem_of_getElem? (i := 167) rfl))) rfl
theorem hm_408 : Cond.selects RX2 yX2_setCell yX2_setCell ∈ hwG := hwG_of (List.mem_append_right _ (List.mem_append_left _ (List.mem_of_getElem? (i := 168) rfl))) rfl
theorem hm_409 : Cond.code yX2_setCell cX2_setCell 3 none ∈ hwG := hwG_of (List.mem_append_right _ (List.mem_append_left _ (List.mem_of_getElem? (i := 169) rfl))) rfl
theorem hm_410 : Cond.methodLink RX2 35 yX2_setStretch ∈ hwG := hwG_of (List.mem_append_right _ (List.mem_append_left _ (List.mem_of_getElem? (i := 170) rfl))) rfl
theorem hm_411 : Cond.methodLink RL 122 yL_holds ∈ hwG := hwG_of (List.mem_append_right _ (List.mem_append_left _ (List.mem_of_getElem? (i := 171) rfl))) rfl
theorem hm_412 : Cond.static yL_holds ∈ hwG := hwG_of (List.mem_append_right _ (List.mem_append_left _ (List.mem_of_getElem? (i := 172) rfl))) rfl
theorem hm_413 : Cond.codeWith yL_holds cL_holds 4 (some .int) [(0, 16, 19, 13)] ∈ hwG := hwG_of (List.mem_append_right _ (List.mem_append_left _ (List.mem_of_getElem? (i := 173) rfl))) rfl
theorem hm_414 : Cond.methodLink RL 46 yX3_holds ∈ hwG := hwG_of (List.mem_append_right _ (List.mem_append_left _ (List.mem_of_getElem? (i := 174) rfl))) rfl
theorem hm_415 : Cond.instanceMethod yX3_holds ∈ hwG := hwG_of (List.mem_append_right _ (List.mem_append_left _ (List.mem_of_getElem? (i := 175) rfl))) rfl
theorem hm_416 : Cond.selects RX3 yX3_holds yX3_holds ∈ hwG := hwG_of (List.mem_append_right _ (List.mem_append_left _ (List.mem_of_getElem? (i := 176) rfl))) rfl
theorem hm_417 : Cond.code yX3_holds cX3_holds 2 (some .boolean) ∈ hwG := hwG_of (List.mem_append_right _ (List.mem_append_left _ (List.mem_of_getElem? (i := 177) rfl))) rfl
theorem hm_418 : Cond.methodLink RL 125 yL_copy ∈ hwG := hwG_of (List.mem_append_right _ (List.mem_append_left _ (List.mem_of_getElem? (i := 178) rfl))) rfl
theorem hm_419 : Cond.static yL_copy ∈ hwG := hwG_of (List.mem_append_right _ (List.mem_append_left _ (List.mem_of_getElem? (i := 179) rfl))) rfl
theorem hm_420 : Cond.codeWith yL_copy cL_copy 4 (some .int) [(0, 6, 9, 13)] ∈ hwG := hwG_of (List.mem_append_right _ (List.mem_append_left _ (List.mem_of_getElem? (i := 180) rfl))) rfl
theorem hm_421 : Cond.methodLink RL 49 yX3_copy ∈ hwG := hwG_of (List.mem_append_right _ (List.mem_append_left _ (List.mem_of_getElem? (i := 181) rfl))) rfl
theorem hm_422 : Cond.instanceMethod yX3_copy ∈ hwG := hwG_of (List.mem_append_right _ (List.mem_append_left _ (List.mem_of_getElem? (i := 182) rfl))) rfl
theorem hm_423 : Cond.selects RX3 yX3_copy yX3_copy ∈ hwG := hwG_of (List.mem_append_right _ (List.mem_append_left _ (List.mem_of_getElem? (i := 183) rfl))) rfl
theorem hm_424 : Cond.code yX3_copy cX3_copy 3 none ∈ hwG := hwG_of (List.mem_append_right _ (List.mem_append_left _ (List.mem_of_getElem? (i := 184) rfl))) rfl
theorem hm_425 : Cond.methodLink RL 128 yL_load ∈ hwG := hwG_of (List.mem_append_right _ (List.mem_append_left _ (List.mem_of_getElem? (i := 185) rfl))) rfl
theorem hm_426 : Cond.static yL_load ∈ hwG := hwG_of (List.mem_append_right _ (List.mem_append_left _ (List.mem_of_getElem? (i := 186) rfl))) rfl
theorem hm_427 : Cond.codeWith yL_load cL_load 4 (some .int) [(0, 6, 9, 13), (0, 6, 12, 19)] ∈ hwG := hwG_of (List.mem_append_right _ (List.mem_append_left _ (List.mem_of_getElem? (i := 187) rfl))) rfl
theorem hm_428 : Cond.methodLink RL 52 yX3_load ∈ hwG := hwG_of (List.mem_append_right _ (List.mem_append_left _ (List.mem_of_getElem? (i := 188) rfl))) rfl
theorem hm_429 : Cond.instanceMethod yX3_load ∈ hwG := hwG_of (List.mem_append_right _ (List.mem_append_left _ (List.mem_of_getElem? (i := 189) rfl))) rfl
theorem hm_430 : Cond.selects RX3 yX3_load yX3_load ∈ hwG := hwG_of (List.mem_append_right _ (List.mem_append_left _ (List.mem_of_getElem? (i := 190) rfl))) rfl
theorem hm_431 : Cond.code yX3_load cX3_load 3 none ∈ hwG := hwG_of (List.mem_append_right _ (List.mem_append_left _ (List.mem_of_getElem? (i := 191) rfl))) rfl
theorem hm_432 : Cond.methodLink RX3 113 yX3_checkCell ∈ hwG := hwG_of (List.mem_append_right _ (List.mem_append_left _ (List.mem_of_getElem? (i := 192) rfl))) rfl
theorem hm_434 : Cond.instanceMethod yX3_checkCell ∈ hwG := hwG_of (List.mem_append_right _ (List.mem_append_left _ (List.mem_of_getElem? (i := 194) rfl))) rfl
theorem hm_435 : Cond.code yX3_checkCell cX3_checkCell 2 none ∈ hwG := hwG_of (List.mem_append_right _ (List.mem_append_left _ (List.mem_of_getElem? (i := 195) rfl))) rfl
theorem hm_437 : Cond.methodLink RL 131 yL_store ∈ hwG := hwG_of (List.mem_append_right _ (List.mem_append_left _ (List.mem_of_getElem? (i := 197) rfl))) rfl
theorem hm_438 : Cond.static yL_store ∈ hwG := hwG_of (List.mem_append_right _ (List.mem_append_left _ (List.mem_of_getElem? (i := 198) rfl))) rfl
theorem hm_439 : Cond.codeWith yL_store cL_store 4 (some .int) [(0, 6, 9, 13), (0, 6, 12, 19)] ∈ hwG := hwG_of (List.mem_append_right _ (List.mem_append_left _ (List.mem_of_getElem? (i := 199) rfl))) rfl
theorem hm_440 : Cond.methodLink RL 55 yX3_store ∈ hwG := hwG_of (List.mem_append_right _ (List.mem_append_left _ (List.mem_of_getElem? (i := 200) rfl))) rfl
theorem hm_441 : Cond.instanceMethod yX3_store ∈ hwG := hwG_of (List.mem_append_right _ (List.mem_append_left _ (List.mem_of_getElem? (i := 201) rfl))) rfl
theorem hm_442 : Cond.selects RX3 yX3_store yX3_store ∈ hwG := hwG_of (List.mem_append_right _ (List.mem_append_left _ (List.mem_of_getElem? (i := 202) rfl))) rfl
theorem hm_443 : Cond.code yX3_store cX3_store 3 none ∈ hwG := hwG_of (List.mem_append_right _ (List.mem_append_left _ (List.mem_of_getElem? (i := 203) rfl))) rfl
theorem hm_444 : Cond.methodLink RL 134 yL_make ∈ hwG := hwG_of (List.mem_append_right _ (List.mem_append_left _ (List.mem_of_getElem? (i := 204) rfl))) rfl
theorem hm_445 : Cond.static yL_make ∈ hwG := hwG_of (List.mem_append_right _ (List.mem_append_left _ (List.mem_of_getElem? (i := 205) rfl))) rfl
theorem hm_446 : Cond.codeWith yL_make cL_make 3 (some .int) [(0, 5, 8, 13), (0, 5, 11, 61)] ∈ hwG := hwG_of (List.mem_append_right _ (List.mem_append_left _ (List.mem_of_getElem? (i := 206) rfl))) rfl
theorem hm_447 : Cond.classLink RL 61 "java/lang/UnsupportedOperationException" ∈ hwG := hwG_of (List.mem_append_right _ (List.mem_append_left _ (List.mem_of_getElem? (i := 207) rfl))) rfl
theorem hm_448 : Cond.methodLink RL 58 yX3_make ∈ hwG := hwG_of (List.mem_append_right _ (List.mem_append_left _ (List.mem_of_getElem? (i := 208) rfl))) rfl
theorem hm_449 : Cond.instanceMethod yX3_make ∈ hwG := hwG_of (List.mem_append_right _ (List.mem_append_left _ (List.mem_of_getElem? (i := 209) rfl))) rfl
theorem hm_450 : Cond.selects RX3 yX3_make yX3_make ∈ hwG := hwG_of (List.mem_append_right _ (List.mem_append_left _ (List.mem_of_getElem? (i := 210) rfl))) rfl
theorem hm_451 : Cond.code yX3_make cX3_make 3 none ∈ hwG := hwG_of (List.mem_append_right _ (List.mem_append_left _ (List.mem_of_getElem? (i := 211) rfl))) rfl
theorem hm_452 : Cond.methodLink RX3 119 yX2_leastFreeAddress ∈ hwG := hwG_of (List.mem_append_right _ (List.mem_append_left _ (List.mem_of_getElem? (i := 212) rfl))) rfl
theorem hm_453 : Cond.instanceMethod yX2_leastFreeAddress ∈ hwG := hwG_of (List.mem_append_right _ (List.mem_append_left _ (List.mem_of_getElem? (i := 213) rfl))) rfl
theorem hm_454 : Cond.selects RX2 yX2_leastFreeAddress yX2_leastFreeAddress ∈ hwG := hwG_of (List.mem_append_right _ (List.mem_append_left _ (List.mem_of_getElem? (i := 214) rfl))) rfl
theorem hm_455 : Cond.code yX2_leastFreeAddress cX2_leastFreeAddress 2 (some .int) ∈ hwG := hwG_of (List.mem_append_right _ (List.mem_append_left _ (List.mem_of_getElem? (i := 215) rfl))) rfl
theorem hm_456 : Cond.classLink RX3 122 "java/lang/UnsupportedOperationException" ∈ hwG := hwG_of (List.mem_append_right _ (List.mem_append_left _ (List.mem_of_getElem? (i := 216) rfl))) rfl
theorem hm_457 : Cond.instantiable "java/lang/UnsupportedOperationException" 6 ∈ hwG := hwG_of (List.mem_append_right _ (List.mem_append_left _ (List.mem_of_getElem? (i := 217) rfl))) rfl
theorem hm_459 : Cond.selects "java/lang/UnsupportedOperationException" ⟨"java/lang/Throwable", "fillInStackTrace", "(I)Ljava/lang/Throwable;"⟩ ⟨"java/lang/Throwable", "fillInStackTrace", "(I)Ljava/lang/Throwable;"⟩ ∈ hwG := hwG_of (List.mem_append_right _ (List.mem_append_left _ (List.mem_of_getElem? (i := 219) rfl))) rfl
theorem hm_466 : Cond.methodLink RX3 126 ⟨"java/lang/UnsupportedOperationException", "<init>", "(Ljava/lang/String;)V"⟩ ∈ hwG := hwG_of (List.mem_append_right _ (List.mem_append_left _ (List.mem_of_getElem? (i := 226) rfl))) rfl
theorem hm_467 : Cond.instanceMethod ⟨"java/lang/UnsupportedOperationException", "<init>", "(Ljava/lang/String;)V"⟩ ∈ hwG := hwG_of (List.mem_append_right _ (List.mem_append_left _ (List.mem_of_getElem? (i := 227) rfl))) rfl
theorem hm_468 : Cond.code ⟨"java/lang/UnsupportedOperationException", "<init>", "(Ljava/lang/String;)V"⟩ prog_16_method_2_code 2 none ∈ hwG := hwG_of (List.mem_append_right _ (List.mem_append_left _ (List.mem_of_getElem? (i := 228) rfl))) rfl
theorem hm_469 : Cond.methodLink "java/lang/UnsupportedOperationException" 7 ⟨"java/lang/RuntimeException", "<init>", "(Ljava/lang/String;)V"⟩ ∈ hwG := hwG_of (List.mem_append_right _ (List.mem_append_left _ (List.mem_of_getElem? (i := 229) rfl))) rfl
theorem hm_472 : Cond.methodLink RL 137 yL_drop ∈ hwG := hwG_of (List.mem_append_right _ (List.mem_append_left _ (List.mem_of_getElem? (i := 232) rfl))) rfl
theorem hm_473 : Cond.static yL_drop ∈ hwG := hwG_of (List.mem_append_right _ (List.mem_append_left _ (List.mem_of_getElem? (i := 233) rfl))) rfl
theorem hm_474 : Cond.codeWith yL_drop cL_drop 3 (some .int) [(0, 5, 8, 13), (0, 5, 11, 19)] ∈ hwG := hwG_of (List.mem_append_right _ (List.mem_append_left _ (List.mem_of_getElem? (i := 234) rfl))) rfl
theorem hm_475 : Cond.methodLink RL 63 yX3_drop ∈ hwG := hwG_of (List.mem_append_right _ (List.mem_append_left _ (List.mem_of_getElem? (i := 235) rfl))) rfl
theorem hm_476 : Cond.instanceMethod yX3_drop ∈ hwG := hwG_of (List.mem_append_right _ (List.mem_append_left _ (List.mem_of_getElem? (i := 236) rfl))) rfl
theorem hm_477 : Cond.selects RX3 yX3_drop yX3_drop ∈ hwG := hwG_of (List.mem_append_right _ (List.mem_append_left _ (List.mem_of_getElem? (i := 237) rfl))) rfl
theorem hm_478 : Cond.code yX3_drop cX3_drop 2 none ∈ hwG := hwG_of (List.mem_append_right _ (List.mem_append_left _ (List.mem_of_getElem? (i := 238) rfl))) rfl
theorem hm_479 : Cond.methodLink RX3 127 yX2_removeCell ∈ hwG := hwG_of (List.mem_append_right _ (List.mem_append_left _ (List.mem_of_getElem? (i := 239) rfl))) rfl
theorem hm_480 : Cond.instanceMethod yX2_removeCell ∈ hwG := hwG_of (List.mem_append_right _ (List.mem_append_right _ (List.mem_of_getElem? (i := 0) rfl))) rfl
theorem hm_481 : Cond.selects RX2 yX2_removeCell yX2_removeCell ∈ hwG := hwG_of (List.mem_append_right _ (List.mem_append_right _ (List.mem_of_getElem? (i := 1) rfl))) rfl
theorem hm_482 : Cond.code yX2_removeCell cX2_removeCell 2 none ∈ hwG := hwG_of (List.mem_append_right _ (List.mem_append_right _ (List.mem_of_getElem? (i := 2) rfl))) rfl
theorem hm_483 : Cond.methodLink RL 140 yL_value ∈ hwG := hwG_of (List.mem_append_right _ (List.mem_append_right _ (List.mem_of_getElem? (i := 3) rfl))) rfl
theorem hm_484 : Cond.static yL_value ∈ hwG := hwG_of (List.mem_append_right _ (List.mem_append_right _ (List.mem_of_getElem? (i := 4) rfl))) rfl
theorem hm_485 : Cond.codeWith yL_value cL_value 4 (some .int) [(0, 9, 12, 13)] ∈ hwG := hwG_of (List.mem_append_right _ (List.mem_append_right _ (List.mem_of_getElem? (i := 5) rfl))) rfl
theorem hm_486 : Cond.methodLink RL 66 yX3_value ∈ hwG := hwG_of (List.mem_append_right _ (List.mem_append_right _ (List.mem_of_getElem? (i := 6) rfl))) rfl
theorem hm_487 : Cond.instanceMethod yX3_value ∈ hwG := hwG_of (List.mem_append_right _ (List.mem_append_right _ (List.mem_of_getElem? (i := 7) rfl))) rfl
theorem hm_488 : Cond.selects RX3 yX3_value yX3_value ∈ hwG := hwG_of (List.mem_append_right _ (List.mem_append_right _ (List.mem_of_getElem? (i := 8) rfl))) rfl
theorem hm_489 : Cond.code yX3_value cX3_value 2 (some .int) ∈ hwG := hwG_of (List.mem_append_right _ (List.mem_append_right _ (List.mem_of_getElem? (i := 9) rfl))) rfl
theorem hm_490 : Cond.classLink RL 70 RX4 ∈ hwG := hwG_of (List.mem_append_right _ (List.mem_append_right _ (List.mem_of_getElem? (i := 10) rfl))) rfl
theorem hm_491 : Cond.instantiable RX4 22 ∈ hwG := hwG_of (List.mem_append_right _ (List.mem_append_right _ (List.mem_of_getElem? (i := 11) rfl))) rfl
theorem hm_492 : Cond.methodLink RL 72 yX4_init ∈ hwG := hwG_of (List.mem_append_right _ (List.mem_append_right _ (List.mem_of_getElem? (i := 12) rfl))) rfl
theorem hm_493 : Cond.instanceMethod yX4_init ∈ hwG := hwG_of (List.mem_append_right _ (List.mem_append_right _ (List.mem_of_getElem? (i := 13) rfl))) rfl
theorem hm_494 : Cond.code yX4_init cX4_init 2 none ∈ hwG := hwG_of (List.mem_append_right _ (List.mem_append_right _ (List.mem_of_getElem? (i := 14) rfl))) rfl
theorem hm_495 : Cond.methodLink RX4 1 ⟨"java/lang/Object", "<init>", "()V"⟩ ∈ hwG := hwG_of (List.mem_append_right _ (List.mem_append_right _ (List.mem_of_getElem? (i := 15) rfl))) rfl
theorem hm_496 : Cond.fieldLink RX4 62 "HeapClaimsModel" "code" "I" ∈ hwG := hwG_of (List.mem_append_right _ (List.mem_append_right _ (List.mem_of_getElem? (i := 16) rfl))) rfl
theorem hm_497 : Cond.fieldLink RX4 7 "HeapClaimsModel" "same" "[Z" ∈ hwG := hwG_of (List.mem_append_right _ (List.mem_append_right _ (List.mem_of_getElem? (i := 17) rfl))) rfl
theorem hm_498 : Cond.fieldLink RX4 13 "HeapClaimsModel" "other" "[Z" ∈ hwG := hwG_of (List.mem_append_right _ (List.mem_append_right _ (List.mem_of_getElem? (i := 18) rfl))) rfl
theorem hm_499 : Cond.fieldLink RX4 16 "HeapClaimsModel" "many" "[I" ∈ hwG := hwG_of (List.mem_append_right _ (List.mem_append_right _ (List.mem_of_getElem? (i := 19) rfl))) rfl
theorem hm_500 : Cond.fieldLink RX4 20 "HeapClaimsModel" "from" "[I" ∈ hwG := hwG_of (List.mem_append_right _ (List.mem_append_right _ (List.mem_of_getElem? (i := 20) rfl))) rfl
theorem hm_501 : Cond.fieldLink RX4 23 "HeapClaimsModel" "to" "[I" ∈ hwG := hwG_of (List.mem_append_right _ (List.mem_append_right _ (List.mem_of_getElem? (i := 21) rfl))) rfl
theorem hm_502 : Cond.fieldLink RX4 26 "HeapClaimsModel" "list" "[Z" ∈ hwG := hwG_of (List.mem_append_right _ (List.mem_append_right _ (List.mem_of_getElem? (i := 22) rfl))) rfl
theorem hm_503 : Cond.fieldLink RX4 29 "HeapClaimsModel" "group" "[I" ∈ hwG := hwG_of (List.mem_append_right _ (List.mem_append_right _ (List.mem_of_getElem? (i := 23) rfl))) rfl
theorem hm_504 : Cond.fieldLink RX4 32 "HeapClaimsModel" "cell" "[Z" ∈ hwG := hwG_of (List.mem_append_right _ (List.mem_append_right _ (List.mem_of_getElem? (i := 24) rfl))) rfl
theorem hm_505 : Cond.fieldLink RX4 35 "HeapClaimsModel" "next" "[I" ∈ hwG := hwG_of (List.mem_append_right _ (List.mem_append_right _ (List.mem_of_getElem? (i := 25) rfl))) rfl
theorem hm_506 : Cond.fieldLink RX4 38 "HeapClaimsModel" "far" "[Z" ∈ hwG := hwG_of (List.mem_append_right _ (List.mem_append_right _ (List.mem_of_getElem? (i := 26) rfl))) rfl
theorem hm_507 : Cond.fieldLink RX4 41 "HeapClaimsModel" "taken" "[Z" ∈ hwG := hwG_of (List.mem_append_right _ (List.mem_append_right _ (List.mem_of_getElem? (i := 27) rfl))) rfl
theorem hm_508 : Cond.fieldLink RX4 44 "HeapClaimsModel" "chosen" "[I" ∈ hwG := hwG_of (List.mem_append_right _ (List.mem_append_right _ (List.mem_of_getElem? (i := 28) rfl))) rfl
theorem hm_509 : Cond.fieldLink RX4 47 "HeapClaimsModel" "ofPiece" "[I" ∈ hwG := hwG_of (List.mem_append_right _ (List.mem_append_right _ (List.mem_of_getElem? (i := 29) rfl))) rfl
theorem hm_510 : Cond.fieldLink RX4 50 "HeapClaimsModel" "at" "[I" ∈ hwG := hwG_of (List.mem_append_right _ (List.mem_append_right _ (List.mem_of_getElem? (i := 30) rfl))) rfl
theorem hm_511 : Cond.fieldLink RX4 109 "HeapClaimsModel" "mode" "I" ∈ hwG := hwG_of (List.mem_append_right _ (List.mem_append_right _ (List.mem_of_getElem? (i := 31) rfl))) rfl
theorem hm_512 : Cond.fieldLink RX4 115 "HeapClaimsModel" "one" "I" ∈ hwG := hwG_of (List.mem_append_right _ (List.mem_append_right _ (List.mem_of_getElem? (i := 32) rfl))) rfl
theorem hm_513 : Cond.fieldLink RX4 118 "HeapClaimsModel" "two" "I" ∈ hwG := hwG_of (List.mem_append_right _ (List.mem_append_right _ (List.mem_of_getElem? (i := 33) rfl))) rfl
theorem hm_514 : Cond.fieldLink RX4 106 "HeapClaimsModel" "more" "I" ∈ hwG := hwG_of (List.mem_append_right _ (List.mem_append_right _ (List.mem_of_getElem? (i := 34) rfl))) rfl
theorem hm_515 : Cond.fieldLink RX4 53 "HeapClaimsModel" "values" "[I" ∈ hwG := hwG_of (List.mem_append_right _ (List.mem_append_right _ (List.mem_of_getElem? (i := 35) rfl))) rfl
theorem hm_516 : Cond.fieldLink RX4 56 "HeapClaimsModel" "heap" "[I" ∈ hwG := hwG_of (List.mem_append_right _ (List.mem_append_right _ (List.mem_of_getElem? (i := 36) rfl))) rfl
theorem hm_517 : Cond.fieldLink RX4 59 "HeapClaimsModel" "used" "[Z" ∈ hwG := hwG_of (List.mem_append_right _ (List.mem_append_right _ (List.mem_of_getElem? (i := 37) rfl))) rfl
theorem hm_563 : Cond.methodLink RL 79 yX4_thrown ∈ hwG := hwG_of (List.mem_append_right _ (List.mem_append_right _ (List.mem_of_getElem? (i := 83) rfl))) rfl
theorem hm_564 : Cond.instanceMethod yX4_thrown ∈ hwG := hwG_of (List.mem_append_right _ (List.mem_append_right _ (List.mem_of_getElem? (i := 84) rfl))) rfl
theorem hm_565 : Cond.selects RX4 yX4_thrown yX4_thrown ∈ hwG := hwG_of (List.mem_append_right _ (List.mem_append_right _ (List.mem_of_getElem? (i := 85) rfl))) rfl
theorem hm_566 : Cond.code yX4_thrown cX4_thrown 1 (some .int) ∈ hwG := hwG_of (List.mem_append_right _ (List.mem_append_right _ (List.mem_of_getElem? (i := 86) rfl))) rfl
theorem hm_567 : Cond.methodLink RL 78 yX4_pair ∈ hwG := hwG_of (List.mem_append_right _ (List.mem_append_right _ (List.mem_of_getElem? (i := 87) rfl))) rfl
theorem hm_568 : Cond.instanceMethod yX4_pair ∈ hwG := hwG_of (List.mem_append_right _ (List.mem_append_right _ (List.mem_of_getElem? (i := 88) rfl))) rfl
theorem hm_569 : Cond.selects RX4 yX4_pair yX4_pair ∈ hwG := hwG_of (List.mem_append_right _ (List.mem_append_right _ (List.mem_of_getElem? (i := 89) rfl))) rfl
theorem hm_570 : Cond.code yX4_pair cX4_pair 6 none ∈ hwG := hwG_of (List.mem_append_right _ (List.mem_append_right _ (List.mem_of_getElem? (i := 90) rfl))) rfl
theorem hm_571 : Cond.methodLink RX4 66 yX4_noClaim ∈ hwG := hwG_of (List.mem_append_right _ (List.mem_append_right _ (List.mem_of_getElem? (i := 91) rfl))) rfl
theorem hm_572 : Cond.static yX4_noClaim ∈ hwG := hwG_of (List.mem_append_right _ (List.mem_append_right _ (List.mem_of_getElem? (i := 92) rfl))) rfl
theorem hm_573 : Cond.code yX4_noClaim cX4_noClaim 1 (some .boolean) ∈ hwG := hwG_of (List.mem_append_right _ (List.mem_append_right _ (List.mem_of_getElem? (i := 93) rfl))) rfl
theorem hm_574 : Cond.methodLink RX4 70 yX4_noTerm ∈ hwG := hwG_of (List.mem_append_right _ (List.mem_append_right _ (List.mem_of_getElem? (i := 94) rfl))) rfl
theorem hm_575 : Cond.static yX4_noTerm ∈ hwG := hwG_of (List.mem_append_right _ (List.mem_append_right _ (List.mem_of_getElem? (i := 95) rfl))) rfl
theorem hm_576 : Cond.code yX4_noTerm cX4_noTerm 1 (some .boolean) ∈ hwG := hwG_of (List.mem_append_right _ (List.mem_append_right _ (List.mem_of_getElem? (i := 96) rfl))) rfl
theorem hm_577 : Cond.methodLink RL 86 yX4_piece ∈ hwG := hwG_of (List.mem_append_right _ (List.mem_append_right _ (List.mem_of_getElem? (i := 97) rfl))) rfl
theorem hm_578 : Cond.instanceMethod yX4_piece ∈ hwG := hwG_of (List.mem_append_right _ (List.mem_append_right _ (List.mem_of_getElem? (i := 98) rfl))) rfl
theorem hm_579 : Cond.selects RX4 yX4_piece yX4_piece ∈ hwG := hwG_of (List.mem_append_right _ (List.mem_append_right _ (List.mem_of_getElem? (i := 99) rfl))) rfl
theorem hm_580 : Cond.code yX4_piece cX4_piece 6 (some .int) ∈ hwG := hwG_of (List.mem_append_right _ (List.mem_append_right _ (List.mem_of_getElem? (i := 100) rfl))) rfl
theorem hm_581 : Cond.methodLink RL 90 yX4_clear ∈ hwG := hwG_of (List.mem_append_right _ (List.mem_append_right _ (List.mem_of_getElem? (i := 101) rfl))) rfl
theorem hm_582 : Cond.instanceMethod yX4_clear ∈ hwG := hwG_of (List.mem_append_right _ (List.mem_append_right _ (List.mem_of_getElem? (i := 102) rfl))) rfl
theorem hm_583 : Cond.selects RX4 yX4_clear yX4_clear ∈ hwG := hwG_of (List.mem_append_right _ (List.mem_append_right _ (List.mem_of_getElem? (i := 103) rfl))) rfl
theorem hm_584 : Cond.code yX4_clear cX4_clear 3 none ∈ hwG := hwG_of (List.mem_append_right _ (List.mem_append_right _ (List.mem_of_getElem? (i := 104) rfl))) rfl
theorem hm_585 : Cond.methodLink RL 94 yX4_swap ∈ hwG := hwG_of (List.mem_append_right _ (List.mem_append_right _ (List.mem_of_getElem? (i := 105) rfl))) rfl
theorem hm_586 : Cond.instanceMethod yX4_swap ∈ hwG := hwG_of (List.mem_append_right _ (List.mem_append_right _ (List.mem_of_getElem? (i := 106) rfl))) rfl
theorem hm_587 : Cond.selects RX4 yX4_swap yX4_swap ∈ hwG := hwG_of (List.mem_append_right _ (List.mem_append_right _ (List.mem_of_getElem? (i := 107) rfl))) rfl
theorem hm_588 : Cond.code yX4_swap cX4_swap 5 none ∈ hwG := hwG_of (List.mem_append_right _ (List.mem_append_right _ (List.mem_of_getElem? (i := 108) rfl))) rfl
theorem hm_589 : Cond.methodLink RL 98 yX4_pieces ∈ hwG := hwG_of (List.mem_append_right _ (List.mem_append_right _ (List.mem_of_getElem? (i := 109) rfl))) rfl
theorem hm_590 : Cond.instanceMethod yX4_pieces ∈ hwG := hwG_of (List.mem_append_right _ (List.mem_append_right _ (List.mem_of_getElem? (i := 110) rfl))) rfl
theorem hm_591 : Cond.selects RX4 yX4_pieces yX4_pieces ∈ hwG := hwG_of (List.mem_append_right _ (List.mem_append_right _ (List.mem_of_getElem? (i := 111) rfl))) rfl
theorem hm_592 : Cond.code yX4_pieces cX4_pieces 2 (some .int) ∈ hwG := hwG_of (List.mem_append_right _ (List.mem_append_right _ (List.mem_of_getElem? (i := 112) rfl))) rfl
theorem hm_593 : Cond.methodLink RL 101 yX4_possible ∈ hwG := hwG_of (List.mem_append_right _ (List.mem_append_right _ (List.mem_of_getElem? (i := 113) rfl))) rfl
theorem hm_594 : Cond.instanceMethod yX4_possible ∈ hwG := hwG_of (List.mem_append_right _ (List.mem_append_right _ (List.mem_of_getElem? (i := 114) rfl))) rfl
theorem hm_595 : Cond.selects RX4 yX4_possible yX4_possible ∈ hwG := hwG_of (List.mem_append_right _ (List.mem_append_right _ (List.mem_of_getElem? (i := 115) rfl))) rfl
theorem hm_596 : Cond.code yX4_possible cX4_possible 2 (some .boolean) ∈ hwG := hwG_of (List.mem_append_right _ (List.mem_append_right _ (List.mem_of_getElem? (i := 116) rfl))) rfl
theorem hm_597 : Cond.methodLink RX4 121 yX4_some ∈ hwG := hwG_of (List.mem_append_right _ (List.mem_append_right _ (List.mem_of_getElem? (i := 117) rfl))) rfl
theorem hm_599 : Cond.instanceMethod yX4_some ∈ hwG := hwG_of (List.mem_append_right _ (List.mem_append_right _ (List.mem_of_getElem? (i := 119) rfl))) rfl
theorem hm_600 : Cond.code yX4_some cX4_some 3 (some .boolean) ∈ hwG := hwG_of (List.mem_append_right _ (List.mem_append_right _ (List.mem_of_getElem? (i := 120) rfl))) rfl
theorem hm_601 : Cond.methodLink RX4 91 yX4_pairsTrue ∈ hwG := hwG_of (List.mem_append_right _ (List.mem_append_right _ (List.mem_of_getElem? (i := 121) rfl))) rfl
theorem hm_603 : Cond.instanceMethod yX4_pairsTrue ∈ hwG := hwG_of (List.mem_append_right _ (List.mem_append_right _ (List.mem_of_getElem? (i := 123) rfl))) rfl
theorem hm_604 : Cond.code yX4_pairsTrue cX4_pairsTrue 5 (some .boolean) ∈ hwG := hwG_of (List.mem_append_right _ (List.mem_append_right _ (List.mem_of_getElem? (i := 124) rfl))) rfl
theorem hm_605 : Cond.methodLink RX4 94 yX4_begun ∈ hwG := hwG_of (List.mem_append_right _ (List.mem_append_right _ (List.mem_of_getElem? (i := 125) rfl))) rfl
theorem hm_607 : Cond.instanceMethod yX4_begun ∈ hwG := hwG_of (List.mem_append_right _ (List.mem_append_right _ (List.mem_of_getElem? (i := 127) rfl))) rfl
theorem hm_608 : Cond.code yX4_begun cX4_begun 4 (some .boolean) ∈ hwG := hwG_of (List.mem_append_right _ (List.mem_append_right _ (List.mem_of_getElem? (i := 128) rfl))) rfl
theorem hm_609 : Cond.methodLink RX4 73 yX4_isEmpty ∈ hwG := hwG_of (List.mem_append_right _ (List.mem_append_right _ (List.mem_of_getElem? (i := 129) rfl))) rfl
theorem hm_611 : Cond.instanceMethod yX4_isEmpty ∈ hwG := hwG_of (List.mem_append_right _ (List.mem_append_right _ (List.mem_of_getElem? (i := 131) rfl))) rfl
theorem hm_612 : Cond.code yX4_isEmpty cX4_isEmpty 2 (some .boolean) ∈ hwG := hwG_of (List.mem_append_right _ (List.mem_append_right _ (List.mem_of_getElem? (i := 132) rfl))) rfl
theorem hm_613 : Cond.methodLink RX4 97 yX4_someWay ∈ hwG := hwG_of (List.mem_append_right _ (List.mem_append_right _ (List.mem_of_getElem? (i := 133) rfl))) rfl
theorem hm_615 : Cond.instanceMethod yX4_someWay ∈ hwG := hwG_of (List.mem_append_right _ (List.mem_append_right _ (List.mem_of_getElem? (i := 135) rfl))) rfl
theorem hm_616 : Cond.code yX4_someWay cX4_someWay 9 (some .boolean) ∈ hwG := hwG_of (List.mem_append_right _ (List.mem_append_right _ (List.mem_of_getElem? (i := 136) rfl))) rfl
theorem hm_617 : Cond.methodLink RX4 76 yX4_nextList ∈ hwG := hwG_of (List.mem_append_right _ (List.mem_append_right _ (List.mem_of_getElem? (i := 137) rfl))) rfl
theorem hm_619 : Cond.instanceMethod yX4_nextList ∈ hwG := hwG_of (List.mem_append_right _ (List.mem_append_right _ (List.mem_of_getElem? (i := 139) rfl))) rfl
theorem hm_620 : Cond.code yX4_nextList cX4_nextList 4 (some .int) ∈ hwG := hwG_of (List.mem_append_right _ (List.mem_append_right _ (List.mem_of_getElem? (i := 140) rfl))) rfl
theorem hm_621 : Cond.methodLink RX4 80 yX4_isLookedFor ∈ hwG := hwG_of (List.mem_append_right _ (List.mem_append_right _ (List.mem_of_getElem? (i := 141) rfl))) rfl
theorem hm_623 : Cond.instanceMethod yX4_isLookedFor ∈ hwG := hwG_of (List.mem_append_right _ (List.mem_append_right _ (List.mem_of_getElem? (i := 143) rfl))) rfl
theorem hm_624 : Cond.code yX4_isLookedFor cX4_isLookedFor 1 (some .boolean) ∈ hwG := hwG_of (List.mem_append_right _ (List.mem_append_right _ (List.mem_of_getElem? (i := 144) rfl))) rfl
theorem hm_625 : Cond.methodLink RX4 112 yX4_rightTrue ∈ hwG := hwG_of (List.mem_append_right _ (List.mem_append_right _ (List.mem_of_getElem? (i := 145) rfl))) rfl
theorem hm_627 : Cond.instanceMethod yX4_rightTrue ∈ hwG := hwG_of (List.mem_append_right _ (List.mem_append_right _ (List.mem_of_getElem? (i := 147) rfl))) rfl
theorem hm_628 : Cond.code yX4_rightTrue cX4_rightTrue 2 (some .boolean) ∈ hwG := hwG_of (List.mem_append_right _ (List.mem_append_right _ (List.mem_of_getElem? (i := 148) rfl))) rfl
theorem hm_629 : Cond.methodLink RX4 103 yX4_takes ∈ hwG := hwG_of (List.mem_append_right _ (List.mem_append_right _ (List.mem_of_getElem? (i := 149) rfl))) rfl
theorem hm_631 : Cond.instanceMethod yX4_takes ∈ hwG := hwG_of (List.mem_append_right _ (List.mem_append_right _ (List.mem_of_getElem? (i := 151) rfl))) rfl
theorem hm_632 : Cond.code yX4_takes cX4_takes 4 (some .boolean) ∈ hwG := hwG_of (List.mem_append_right _ (List.mem_append_right _ (List.mem_of_getElem? (i := 152) rfl))) rfl
theorem hm_633 : Cond.methodLink RX4 84 yX4_isFree ∈ hwG := hwG_of (List.mem_append_right _ (List.mem_append_right _ (List.mem_of_getElem? (i := 153) rfl))) rfl
theorem hm_635 : Cond.instanceMethod yX4_isFree ∈ hwG := hwG_of (List.mem_append_right _ (List.mem_append_right _ (List.mem_of_getElem? (i := 155) rfl))) rfl
theorem hm_636 : Cond.code yX4_isFree cX4_isFree 3 (some .boolean) ∈ hwG := hwG_of (List.mem_append_right _ (List.mem_append_right _ (List.mem_of_getElem? (i := 156) rfl))) rfl
theorem hm_637 : Cond.methodLink RX4 88 yX4_isGroup ∈ hwG := hwG_of (List.mem_append_right _ (List.mem_append_right _ (List.mem_of_getElem? (i := 157) rfl))) rfl
theorem hm_639 : Cond.instanceMethod yX4_isGroup ∈ hwG := hwG_of (List.mem_append_right _ (List.mem_append_right _ (List.mem_of_getElem? (i := 159) rfl))) rfl
theorem hm_640 : Cond.code yX4_isGroup cX4_isGroup 4 (some .boolean) ∈ hwG := hwG_of (List.mem_append_right _ (List.mem_append_right _ (List.mem_of_getElem? (i := 160) rfl))) rfl
theorem hm_641 : Cond.methodLink RX4 100 yX4_nextGroups ∈ hwG := hwG_of (List.mem_append_right _ (List.mem_append_right _ (List.mem_of_getElem? (i := 161) rfl))) rfl
theorem hm_643 : Cond.instanceMethod yX4_nextGroups ∈ hwG := hwG_of (List.mem_append_right _ (List.mem_append_right _ (List.mem_of_getElem? (i := 163) rfl))) rfl
theorem hm_644 : Cond.code yX4_nextGroups cX4_nextGroups 4 (some .boolean) ∈ hwG := hwG_of (List.mem_append_right _ (List.mem_append_right _ (List.mem_of_getElem? (i := 164) rfl))) rfl
theorem hm_645 : Cond.methodLink RL 106 yX4_implies ∈ hwG := hwG_of (List.mem_append_right _ (List.mem_append_right _ (List.mem_of_getElem? (i := 165) rfl))) rfl
theorem hm_646 : Cond.instanceMethod yX4_implies ∈ hwG := hwG_of (List.mem_append_right _ (List.mem_append_right _ (List.mem_of_getElem? (i := 166) rfl))) rfl
theorem hm_647 : Cond.selects RX4 yX4_implies yX4_implies ∈ hwG := hwG_of (List.mem_append_right _ (List.mem_append_right _ (List.mem_of_getElem? (i := 167) rfl))) rfl
theorem hm_648 : Cond.code yX4_implies cX4_implies 1 (some .boolean) ∈ hwG := hwG_of (List.mem_append_right _ (List.mem_append_right _ (List.mem_of_getElem? (i := 168) rfl))) rfl
theorem hm_649 : Cond.methodLink RL 110 yX4_sure ∈ hwG := hwG_of (List.mem_append_right _ (List.mem_append_right _ (List.mem_of_getElem? (i := 169) rfl))) rfl
theorem hm_650 : Cond.instanceMethod yX4_sure ∈ hwG := hwG_of (List.mem_append_right _ (List.mem_append_right _ (List.mem_of_getElem? (i := 170) rfl))) rfl
theorem hm_651 : Cond.selects RX4 yX4_sure yX4_sure ∈ hwG := hwG_of (List.mem_append_right _ (List.mem_append_right _ (List.mem_of_getElem? (i := 171) rfl))) rfl
theorem hm_652 : Cond.code yX4_sure cX4_sure 4 (some .boolean) ∈ hwG := hwG_of (List.mem_append_right _ (List.mem_append_right _ (List.mem_of_getElem? (i := 172) rfl))) rfl
theorem hm_653 : Cond.methodLink RL 114 yX4_frame ∈ hwG := hwG_of (List.mem_append_right _ (List.mem_append_right _ (List.mem_of_getElem? (i := 173) rfl))) rfl
theorem hm_654 : Cond.instanceMethod yX4_frame ∈ hwG := hwG_of (List.mem_append_right _ (List.mem_append_right _ (List.mem_of_getElem? (i := 174) rfl))) rfl
theorem hm_655 : Cond.selects RX4 yX4_frame yX4_frame ∈ hwG := hwG_of (List.mem_append_right _ (List.mem_append_right _ (List.mem_of_getElem? (i := 175) rfl))) rfl
theorem hm_656 : Cond.code yX4_frame cX4_frame 2 (some .int) ∈ hwG := hwG_of (List.mem_append_right _ (List.mem_append_right _ (List.mem_of_getElem? (i := 176) rfl))) rfl
theorem hm_657 : Cond.methodLink RL 118 yX4_give ∈ hwG := hwG_of (List.mem_append_right _ (List.mem_append_right _ (List.mem_of_getElem? (i := 177) rfl))) rfl
theorem hm_658 : Cond.instanceMethod yX4_give ∈ hwG := hwG_of (List.mem_append_right _ (List.mem_append_right _ (List.mem_of_getElem? (i := 178) rfl))) rfl
theorem hm_659 : Cond.selects RX4 yX4_give yX4_give ∈ hwG := hwG_of (List.mem_append_right _ (List.mem_append_right _ (List.mem_of_getElem? (i := 179) rfl))) rfl
theorem hm_660 : Cond.code yX4_give cX4_give 3 none ∈ hwG := hwG_of (List.mem_append_right _ (List.mem_append_right _ (List.mem_of_getElem? (i := 180) rfl))) rfl
theorem hm_661 : Cond.methodLink RX4 124 yX4_noVariable ∈ hwG := hwG_of (List.mem_append_right _ (List.mem_append_right _ (List.mem_of_getElem? (i := 181) rfl))) rfl
theorem hm_662 : Cond.static yX4_noVariable ∈ hwG := hwG_of (List.mem_append_right _ (List.mem_append_right _ (List.mem_of_getElem? (i := 182) rfl))) rfl
theorem hm_663 : Cond.code yX4_noVariable cX4_noVariable 1 (some .boolean) ∈ hwG := hwG_of (List.mem_append_right _ (List.mem_append_right _ (List.mem_of_getElem? (i := 183) rfl))) rfl
theorem hm_664 : Cond.methodLink RL 121 yX4_put ∈ hwG := hwG_of (List.mem_append_right _ (List.mem_append_right _ (List.mem_of_getElem? (i := 184) rfl))) rfl
theorem hm_665 : Cond.instanceMethod yX4_put ∈ hwG := hwG_of (List.mem_append_right _ (List.mem_append_right _ (List.mem_of_getElem? (i := 185) rfl))) rfl
theorem hm_666 : Cond.selects RX4 yX4_put yX4_put ∈ hwG := hwG_of (List.mem_append_right _ (List.mem_append_right _ (List.mem_of_getElem? (i := 186) rfl))) rfl
theorem hm_667 : Cond.code yX4_put cX4_put 3 none ∈ hwG := hwG_of (List.mem_append_right _ (List.mem_append_right _ (List.mem_of_getElem? (i := 187) rfl))) rfl
theorem hm_668 : Cond.methodLink RL 124 yX4_holds ∈ hwG := hwG_of (List.mem_append_right _ (List.mem_append_right _ (List.mem_of_getElem? (i := 188) rfl))) rfl
theorem hm_669 : Cond.instanceMethod yX4_holds ∈ hwG := hwG_of (List.mem_append_right _ (List.mem_append_right _ (List.mem_of_getElem? (i := 189) rfl))) rfl
theorem hm_670 : Cond.selects RX4 yX4_holds yX4_holds ∈ hwG := hwG_of (List.mem_append_right _ (List.mem_append_right _ (List.mem_of_getElem? (i := 190) rfl))) rfl
theorem hm_671 : Cond.code yX4_holds cX4_holds 6 (some .boolean) ∈ hwG := hwG_of (List.mem_append_right _ (List.mem_append_right _ (List.mem_of_getElem? (i := 191) rfl))) rfl
theorem hm_672 : Cond.methodLink RX4 127 yX4_valueOf ∈ hwG := hwG_of (List.mem_append_right _ (List.mem_append_right _ (List.mem_of_getElem? (i := 192) rfl))) rfl
theorem hm_674 : Cond.instanceMethod yX4_valueOf ∈ hwG := hwG_of (List.mem_append_right _ (List.mem_append_right _ (List.mem_of_getElem? (i := 194) rfl))) rfl
theorem hm_675 : Cond.code yX4_valueOf cX4_valueOf 2 (some .int) ∈ hwG := hwG_of (List.mem_append_right _ (List.mem_append_right _ (List.mem_of_getElem? (i := 195) rfl))) rfl
theorem hm_676 : Cond.methodLink RX4 131 yX4_takesAtHand ∈ hwG := hwG_of (List.mem_append_right _ (List.mem_append_right _ (List.mem_of_getElem? (i := 196) rfl))) rfl
theorem hm_678 : Cond.instanceMethod yX4_takesAtHand ∈ hwG := hwG_of (List.mem_append_right _ (List.mem_append_right _ (List.mem_of_getElem? (i := 198) rfl))) rfl
theorem hm_679 : Cond.code yX4_takesAtHand cX4_takesAtHand 5 (some .boolean) ∈ hwG := hwG_of (List.mem_append_right _ (List.mem_append_right _ (List.mem_of_getElem? (i := 199) rfl))) rfl
theorem hm_680 : Cond.methodLink RL 127 yX4_copy ∈ hwG := hwG_of (List.mem_append_right _ (List.mem_append_right _ (List.mem_of_getElem? (i := 200) rfl))) rfl
theorem hm_681 : Cond.instanceMethod yX4_copy ∈ hwG := hwG_of (List.mem_append_right _ (List.mem_append_right _ (List.mem_of_getElem? (i := 201) rfl))) rfl
theorem hm_682 : Cond.selects RX4 yX4_copy yX4_copy ∈ hwG := hwG_of (List.mem_append_right _ (List.mem_append_right _ (List.mem_of_getElem? (i := 202) rfl))) rfl
theorem hm_683 : Cond.code yX4_copy cX4_copy 3 none ∈ hwG := hwG_of (List.mem_append_right _ (List.mem_append_right _ (List.mem_of_getElem? (i := 203) rfl))) rfl
theorem hm_684 : Cond.methodLink RL 130 yX4_load ∈ hwG := hwG_of (List.mem_append_right _ (List.mem_append_right _ (List.mem_of_getElem? (i := 204) rfl))) rfl
theorem hm_685 : Cond.instanceMethod yX4_load ∈ hwG := hwG_of (List.mem_append_right _ (List.mem_append_right _ (List.mem_of_getElem? (i := 205) rfl))) rfl
theorem hm_686 : Cond.selects RX4 yX4_load yX4_load ∈ hwG := hwG_of (List.mem_append_right _ (List.mem_append_right _ (List.mem_of_getElem? (i := 206) rfl))) rfl
theorem hm_687 : Cond.code yX4_load cX4_load 3 none ∈ hwG := hwG_of (List.mem_append_right _ (List.mem_append_right _ (List.mem_of_getElem? (i := 207) rfl))) rfl
theorem hm_688 : Cond.methodLink RL 133 yX4_store ∈ hwG := hwG_of (List.mem_append_right _ (List.mem_append_right _ (List.mem_of_getElem? (i := 208) rfl))) rfl
theorem hm_689 : Cond.instanceMethod yX4_store ∈ hwG := hwG_of (List.mem_append_right _ (List.mem_append_right _ (List.mem_of_getElem? (i := 209) rfl))) rfl
theorem hm_690 : Cond.selects RX4 yX4_store yX4_store ∈ hwG := hwG_of (List.mem_append_right _ (List.mem_append_right _ (List.mem_of_getElem? (i := 210) rfl))) rfl
theorem hm_691 : Cond.code yX4_store cX4_store 3 none ∈ hwG := hwG_of (List.mem_append_right _ (List.mem_append_right _ (List.mem_of_getElem? (i := 211) rfl))) rfl
theorem hm_692 : Cond.methodLink RL 136 yX4_make ∈ hwG := hwG_of (List.mem_append_right _ (List.mem_append_right _ (List.mem_of_getElem? (i := 212) rfl))) rfl
theorem hm_693 : Cond.instanceMethod yX4_make ∈ hwG := hwG_of (List.mem_append_right _ (List.mem_append_right _ (List.mem_of_getElem? (i := 213) rfl))) rfl
theorem hm_694 : Cond.selects RX4 yX4_make yX4_make ∈ hwG := hwG_of (List.mem_append_right _ (List.mem_append_right _ (List.mem_of_getElem? (i := 214) rfl))) rfl
theorem hm_695 : Cond.code yX4_make cX4_make 3 none ∈ hwG := hwG_of (List.mem_append_right _ (List.mem_append_right _ (List.mem_of_getElem? (i := 215) rfl))) rfl
theorem hm_696 : Cond.methodLink RL 139 yX4_drop ∈ hwG := hwG_of (List.mem_append_right _ (List.mem_append_right _ (List.mem_of_getElem? (i := 216) rfl))) rfl
theorem hm_697 : Cond.instanceMethod yX4_drop ∈ hwG := hwG_of (List.mem_append_right _ (List.mem_append_right _ (List.mem_of_getElem? (i := 217) rfl))) rfl
theorem hm_698 : Cond.selects RX4 yX4_drop yX4_drop ∈ hwG := hwG_of (List.mem_append_right _ (List.mem_append_right _ (List.mem_of_getElem? (i := 218) rfl))) rfl
theorem hm_699 : Cond.code yX4_drop cX4_drop 2 none ∈ hwG := hwG_of (List.mem_append_right _ (List.mem_append_right _ (List.mem_of_getElem? (i := 219) rfl))) rfl
theorem hm_700 : Cond.methodLink RL 142 yX4_value ∈ hwG := hwG_of (List.mem_append_right _ (List.mem_append_right _ (List.mem_of_getElem? (i := 220) rfl))) rfl
theorem hm_701 : Cond.instanceMethod yX4_value ∈ hwG := hwG_of (List.mem_append_right _ (List.mem_append_right _ (List.mem_of_getElem? (i := 221) rfl))) rfl
theorem hm_702 : Cond.selects RX4 yX4_value yX4_value ∈ hwG := hwG_of (List.mem_append_right _ (List.mem_append_right _ (List.mem_of_getElem? (i := 222) rfl))) rfl
theorem hm_703 : Cond.code yX4_value cX4_value 2 (some .int) ∈ hwG := hwG_of (List.mem_append_right _ (List.mem_append_right _ (List.mem_of_getElem? (i := 223) rfl))) rfl
theorem hm_704 : Cond.methodLink RL 146 yX4_next ∈ hwG := hwG_of (List.mem_append_right _ (List.mem_append_right _ (List.mem_of_getElem? (i := 224) rfl))) rfl
theorem hm_705 : Cond.instanceMethod yX4_next ∈ hwG := hwG_of (List.mem_append_right _ (List.mem_append_right _ (List.mem_of_getElem? (i := 225) rfl))) rfl
theorem hm_706 : Cond.selects RX4 yX4_next yX4_next ∈ hwG := hwG_of (List.mem_append_right _ (List.mem_append_right _ (List.mem_of_getElem? (i := 226) rfl))) rfl
theorem hm_707 : Cond.code yX4_next cX4_next 2 (some .int) ∈ hwG := hwG_of (List.mem_append_right _ (List.mem_append_right _ (List.mem_of_getElem? (i := 227) rfl))) rfl
theorem hm_708 : Cond.methodLink RL 150 yX4_count ∈ hwG := hwG_of (List.mem_append_right _ (List.mem_append_right _ (List.mem_of_getElem? (i := 228) rfl))) rfl
theorem hm_709 : Cond.instanceMethod yX4_count ∈ hwG := hwG_of (List.mem_append_right _ (List.mem_append_right _ (List.mem_of_getElem? (i := 229) rfl))) rfl
theorem hm_710 : Cond.selects RX4 yX4_count yX4_count ∈ hwG := hwG_of (List.mem_append_right _ (List.mem_append_right _ (List.mem_of_getElem? (i := 230) rfl))) rfl
theorem hm_711 : Cond.code yX4_count cX4_count 3 (some .int) ∈ hwG := hwG_of (List.mem_append_right _ (List.mem_append_right _ (List.mem_of_getElem? (i := 231) rfl))) rfl
theorem hm_712 : Cond.arrayClass .long ∈ hwG := hwG_of (List.mem_append_right _ (List.mem_append_right _ (List.mem_of_getElem? (i := 232) rfl))) rfl
theorem hs_yX3_leastFrame : Cond.selects RX3 yX3_leastFrame yX3_leastFrame ∈ hwG := hwG_sel (q := (yX3_leastFrame, 4)) (List.mem_append_left _ (List.mem_of_getElem? (i := 0) rfl)) rfl
theorem hs_yX2_takenByList : Cond.selects RX2 yX2_takenByList yX2_takenByList ∈ hwG := hwG_sel (q := (yX2_takenByList, 6)) (List.mem_append_left _ (List.mem_of_getElem? (i := 1) rfl)) rfl
theorem hs_yX2_takenByCell : Cond.selects RX2 yX2_takenByCell yX2_takenByCell ∈ hwG := hwG_sel (q := (yX2_takenByCell, 6)) (List.mem_append_left _ (List.mem_of_getElem? (i := 2) rfl)) rfl
theorem hs_yX0_greatestBefore : Cond.selects RX0 yX0_greatestBefore yX0_greatestBefore ∈ hwG := hwG_sel (q := (yX0_greatestBefore, 2)) (List.mem_append_left _ (List.mem_of_getElem? (i := 3) rfl)) rfl
theorem hs_yX3_claimAt : Cond.selects RX3 yX3_claimAt yX3_claimAt ∈ hwG := hwG_sel (q := (yX3_claimAt, 4)) (List.mem_append_left _ (List.mem_of_getElem? (i := 4) rfl)) rfl
theorem hs_yX3_checkTerm : Cond.selects RX3 yX3_checkTerm yX3_checkTerm ∈ hwG := hwG_sel (q := (yX3_checkTerm, 4)) (List.mem_append_left _ (List.mem_of_getElem? (i := 6) rfl)) rfl
theorem hs_yX3_isSo : Cond.selects RX3 yX3_isSo yX3_isSo ∈ hwG := hwG_sel (q := (yX3_isSo, 4)) (List.mem_append_left _ (List.mem_of_getElem? (i := 7) rfl)) rfl
theorem hs_yX3_checkVariable : Cond.selects RX3 yX3_checkVariable yX3_checkVariable ∈ hwG := hwG_sel (q := (yX3_checkVariable, 4)) (List.mem_append_left _ (List.mem_of_getElem? (i := 8) rfl)) rfl
theorem hs_yX3_checkValue : Cond.selects RX3 yX3_checkValue yX3_checkValue ∈ hwG := hwG_sel (q := (yX3_checkValue, 4)) (List.mem_append_left _ (List.mem_of_getElem? (i := 9) rfl)) rfl
theorem hs_yX3_checkCell : Cond.selects RX3 yX3_checkCell yX3_checkCell ∈ hwG := hwG_sel (q := (yX3_checkCell, 4)) (List.mem_append_left _ (List.mem_of_getElem? (i := 10) rfl)) rfl
theorem hs_yX4_some : Cond.selects RX4 yX4_some yX4_some ∈ hwG := hwG_sel (q := (yX4_some, 22)) (List.mem_append_left _ (List.mem_of_getElem? (i := 11) rfl)) rfl
theorem hs_yX4_pairsTrue : Cond.selects RX4 yX4_pairsTrue yX4_pairsTrue ∈ hwG := hwG_sel (q := (yX4_pairsTrue, 22)) (List.mem_append_left _ (List.mem_of_getElem? (i := 12) rfl)) rfl
theorem hs_yX4_begun : Cond.selects RX4 yX4_begun yX4_begun ∈ hwG := hwG_sel (q := (yX4_begun, 22)) (List.mem_append_left _ (List.mem_of_getElem? (i := 13) rfl)) rfl
theorem hs_yX4_isEmpty : Cond.selects RX4 yX4_isEmpty yX4_isEmpty ∈ hwG := hwG_sel (q := (yX4_isEmpty, 22)) (List.mem_append_left _ (List.mem_of_getElem? (i := 14) rfl)) rfl
theorem hs_yX4_someWay : Cond.selects RX4 yX4_someWay yX4_someWay ∈ hwG := hwG_sel (q := (yX4_someWay, 22)) (List.mem_append_left _ (List.mem_of_getElem? (i := 15) rfl)) rfl
theorem hs_yX4_nextList : Cond.selects RX4 yX4_nextList yX4_nextList ∈ hwG := hwG_sel (q := (yX4_nextList, 22)) (List.mem_append_right _ (List.mem_of_getElem? (i := 0) rfl)) rfl
theorem hs_yX4_isLookedFor : Cond.selects RX4 yX4_isLookedFor yX4_isLookedFor ∈ hwG := hwG_sel (q := (yX4_isLookedFor, 22)) (List.mem_append_right _ (List.mem_of_getElem? (i := 1) rfl)) rfl
theorem hs_yX4_rightTrue : Cond.selects RX4 yX4_rightTrue yX4_rightTrue ∈ hwG := hwG_sel (q := (yX4_rightTrue, 22)) (List.mem_append_right _ (List.mem_of_getElem? (i := 2) rfl)) rfl
theorem hs_yX4_takes : Cond.selects RX4 yX4_takes yX4_takes ∈ hwG := hwG_sel (q := (yX4_takes, 22)) (List.mem_append_right _ (List.mem_of_getElem? (i := 3) rfl)) rfl
theorem hs_yX4_isFree : Cond.selects RX4 yX4_isFree yX4_isFree ∈ hwG := hwG_sel (q := (yX4_isFree, 22)) (List.mem_append_right _ (List.mem_of_getElem? (i := 4) rfl)) rfl
theorem hs_yX4_isGroup : Cond.selects RX4 yX4_isGroup yX4_isGroup ∈ hwG := hwG_sel (q := (yX4_isGroup, 22)) (List.mem_append_right _ (List.mem_of_getElem? (i := 5) rfl)) rfl
theorem hs_yX4_nextGroups : Cond.selects RX4 yX4_nextGroups yX4_nextGroups ∈ hwG := hwG_sel (q := (yX4_nextGroups, 22)) (List.mem_append_right _ (List.mem_of_getElem? (i := 6) rfl)) rfl
theorem hs_yX4_valueOf : Cond.selects RX4 yX4_valueOf yX4_valueOf ∈ hwG := hwG_sel (q := (yX4_valueOf, 22)) (List.mem_append_right _ (List.mem_of_getElem? (i := 7) rfl)) rfl
theorem hs_yX4_takesAtHand : Cond.selects RX4 yX4_takesAtHand yX4_takesAtHand ∈ hwG := hwG_sel (q := (yX4_takesAtHand, 22)) (List.mem_append_right _ (List.mem_of_getElem? (i := 8) rfl)) rfl
theorem hi_X0 : ∀ w ∈ u_ws RX0 TX0 2, w ∈ hwG := fun w h => List.mem_filter.mpr ⟨List.mem_append_right _ ((by decide +kernel : ∀ w ∈ u_ws RX0 TX0 2, w ∈ tables_1) w h), (by decide +kernel : ∀ w ∈ u_ws RX0 TX0 2, goodWord w = true) w h⟩
theorem hi_X1 : ∀ w ∈ u_ws RX1 TX1 7, w ∈ hwG := fun w h => List.mem_filter.mpr ⟨List.mem_append_right _ ((by decide +kernel : ∀ w ∈ u_ws RX1 TX1 7, w ∈ tables_1) w h), (by decide +kernel : ∀ w ∈ u_ws RX1 TX1 7, goodWord w = true) w h⟩
theorem hi_X2 : ∀ w ∈ u_ws RX2 TX2 6, w ∈ hwG := fun w h => List.mem_filter.mpr ⟨List.mem_append_right _ ((by decide +kernel : ∀ w ∈ u_ws RX2 TX2 6, w ∈ tables_1) w h), (by decide +kernel : ∀ w ∈ u_ws RX2 TX2 6, goodWord w = true) w h⟩
theorem hi_X3 : ∀ w ∈ u_ws RX3 TX3 4, w ∈ hwG := fun w h => List.mem_filter.mpr ⟨List.mem_append_right _ ((by decide +kernel : ∀ w ∈ u_ws RX3 TX3 4, w ∈ tables_1) w h), (by decide +kernel : ∀ w ∈ u_ws RX3 TX3 4, goodWord w = true) w h⟩
theorem hi_X4 : ∀ w ∈ u_ws RX4 TX4 22, w ∈ hwG := fun w h => List.mem_filter.mpr ⟨List.mem_append_right _ ((by decide +kernel : ∀ w ∈ u_ws RX4 TX4 22, w ∈ tables_1) w h), (by decide +kernel : ∀ w ∈ u_ws RX4 TX4 22, goodWord w = true) w h⟩
end
section
/-! The state in numbers: a claim's arrays, a heap's arrays; rows on their bits. -/
/-- a truth value that a method answers -/
def hc_r (r : Int32) (P : Prop) : Prop := (r = nI 1 ∧ P) ∨ (r = nI 0 ∧ ¬ P)
def hs_cl (S O Fr To Li : Nat → Int32) (sm ot : Nat → Nat → Bool) (n : Nat) (fr to : Nat → Nat) (li : Nat → Bool) : Prop :=
  n ≤ 5 ∧ (∀ a, a < 6 → ∀ i, i < 32 → bt (S a) i = (decide (i < 6) && sm a i) ∧ bt (O a) i = (decide (i < 6) && ot a i)) ∧ ∀ p, p < n → Fr p = nI (fr p) ∧ fr p < 6 ∧ To p = nI (to p) ∧ to p < 6 ∧ Li p = hc_b (li p)
def hs_hp (G : Nat) (EN LG BI : Nat → Int32) (nx : Nat → Option Nat) (lg : Nat → Bool) (bi : Nat → Nat) : Prop :=
  (∀ a, nx a ≠ none → 1 ≤ a ∧ a ≤ G) ∧ ∀ a, 1 ≤ a → a ≤ G → (nx a = none → EN a = -1) ∧ ∀ z, nx a = some z → z ≤ G ∧ EN a = nI z ∧ LG a = hc_b (lg a) ∧ BI a = (1 : Int32) <<< (nI (bi a) &&& 31) ∧ bi a < 31
theorem hs_nm1 (z : Nat) (h : z < 2 ^ 31) : nI z ≠ -1 := fun q => by
  have h1 := nI_toInt h
  rw [q] at h1
  have h2 : (-1 : Int32).toInt = -1 := by decide
  omega
theorem hs_rowS {S0 r : Int32} {sm : Nat → Bool} {v : Nat → Nat} {x : Nat} (hS : ∀ i, i < 32 → bt S0 i = (decide (i < 6) && sm i)) (hr : ∀ i, i < 32 → bt r i = decide (i < 6 ∧ v i = x)) : S0 &&& (r ^^^ (-1)) = 0 ↔ ∀ i, i < 6 → sm i = true → v i = x := by
  rw [hb_0]
  constructor
  · intro h i hi hs
    have h1 := h i (by omega)
    rw [b_and, hb_not _ (by omega), hS i (by omega), hr i (by omega), hs, decide_eq_true hi] at h1
    simp only [Bool.and_self, Bool.true_and, Bool.not_eq_false', decide_eq_true_eq] at h1
    exact h1.2
  · intro h i hi
    rw [b_and, hb_not _ hi, hS i hi, hr i hi]
    by_cases h6 : i < 6
    · cases hs : sm i with
      | false => simp
      | true => simp [h6, h i h6 hs]
    · simp [h6]
theorem hs_rowO {S0 r : Int32} {sm : Nat → Bool} {v : Nat → Nat} {x : Nat} (hS : ∀ i, i < 32 → bt S0 i = (decide (i < 6) && sm i)) (hr : ∀ i, i < 32 → bt r i = decide (i < 6 ∧ v i = x)) : S0 &&& r = 0 ↔ ∀ i, i < 6 → sm i = true → v i ≠ x := by
  rw [hb_0]
  constructor
  · intro h i hi hs e
    have h1 := h i (by omega)
    rw [b_and, hS i (by omega), hr i (by omega), hs, decide_eq_true hi, decide_eq_true ⟨hi, e⟩] at h1
    cases h1
  · intro h i hi
    rw [b_and, hS i hi, hr i hi]
    by_cases h6 : i < 6
    · cases hs : sm i with
      | false => simp
      | true => simp [h6, h i h6 hs]
    · simp [h6]
theorem hs_rowN {S0 O0 : Int32} {sm ot : Nat → Bool} (hS : ∀ i, i < 32 → bt S0 i = (decide (i < 6) && sm i) ∧ bt O0 i = (decide (i < 6) && ot i)) (h : S0 ||| O0 = 0) : ∀ i, i < 6 → sm i = false ∧ ot i = false := by
  intro i hi
  have h1 := hb_0.mp h i (by omega)
  rw [b_or, (hS i (by omega)).1, (hS i (by omega)).2, decide_eq_true hi] at h1
  simpa using h1
end
section
/-! What takenByCell, takenByList, takenBy answer. -/
def hs_tk (nx : Nat → Option Nat) (lg : Nat → Bool) (bi : Nat → Nat) (s e : Nat) (i : Bool) (r : Int32) : Prop :=
  (r = -1 ∧ ¬ ∃ l, hc_cp nx lg 0 s e i l) ∨ (r ≠ -1 ∧ ∃ l, hc_cp nx lg 0 s e i l ∧ ∀ j, j < 32 → (bt r j = true ↔ ∃ a, a ∈ l ∧ bi a = j))
def hs_TB (nx : Nat → Option Nat) (lg : Nat → Bool) (bi : Nat → Nat) (S E : Nat → Nat) (I : Nat → Bool) (p : Nat) (T : Int32) (c : Nat → List Nat) : Prop :=
  (∀ i, i < p → hc_cp nx lg 0 (S i) (E i) (I i) (c i)) ∧ (∀ i j, i < p → j < p → i ≠ j → hc_Dj (c i) (c j)) ∧ ∀ j, j < 32 → (bt T j = true ↔ ∃ i, i < p ∧ ∃ a, a ∈ c i ∧ bi a = j)
section TAKE
variable {nx : Nat → Option Nat} {lg : Nat → Bool} {bi : Nat → Nat} {S E : Nat → Nat} {I : Nat → Bool} {n p : Nat} {T r : Int32} {c : Nat → List Nat} {l : List Nat}
theorem hs_cell {a : Nat} {s e : Nat} {i : Bool} (h : hc_cp nx lg 0 s e i l) (ha : a ∈ l) : nx a ≠ none := hc_pp_cell h.1 ha
theorem hs_bit31 (hb : ∀ a, nx a ≠ none → bi a < 31) (h : ∀ j, j < 32 → (bt r j = true ↔ ∃ a, a ∈ l ∧ bi a = j)) (hl : ∀ a, a ∈ l → nx a ≠ none) : r ≠ -1 := by
  refine hb_m1 (i := 31) (by omega) ?_
  cases h9 : bt r 31 with
  | false => rfl
  | true =>
    obtain ⟨a, h1, h2⟩ := (h 31 (by omega)).mp h9
    have := hb a (hl a h1)
    omega
theorem hs_TB_0 : hs_TB nx lg bi S E I 0 (nI 0) (fun _ => []) := by
  refine ⟨fun _ h => absurd h (Nat.not_lt_zero _), fun _ _ h => absurd h (Nat.not_lt_zero _), fun j hj => ?_⟩
  rw [hb_nI 0 hj]
  simp
theorem hs_TB_step (hbi : ∀ a b, nx a ≠ none → nx b ≠ none → bi a = bi b → a = b) (hb : ∀ a, nx a ≠ none → bi a < 31) (h : hs_TB nx lg bi S E I p T c) (hl : hc_cp nx lg 0 (S p) (E p) (I p) l) (hr : ∀ j, j < 32 → (bt r j = true ↔ ∃ a, a ∈ l ∧ bi a = j)) (hno : r &&& T = 0) :
    hs_TB nx lg bi S E I (p + 1) (T ||| r) (va_up c p l) := by
  obtain ⟨h1, h2, h3⟩ := h
  have hdj : ∀ i, i < p → hc_Dj l (c i) := fun i hi a ha hai => by
    have hn := hs_cell hl ha
    have h9 := hb_0.mp hno (bi a) (by have := hb a hn; omega)
    rw [b_and, (hr (bi a) (by have := hb a hn; omega)).mpr ⟨a, ha, rfl⟩, (h3 (bi a) (by have := hb a hn; omega)).mpr ⟨i, hi, a, hai, rfl⟩] at h9
    cases h9
  refine ⟨fun i hi => ?_, fun i j hi hj hij => ?_, fun j hj => ?_⟩
  · by_cases hip : i = p
    · rw [hip, hc_up_s]; exact hl
    · rw [hc_up_n c l hip]; exact h1 i (by omega)
  · by_cases hip : i = p
    · have hjp : j ≠ p := fun q => hij (hip.trans q.symm)
      rw [hip, hc_up_s, hc_up_n c l hjp]; exact hdj j (by omega)
    · by_cases hjp : j = p
      · rw [hjp, hc_up_s, hc_up_n c l hip]; exact (hdj i (by omega)).symm
      · rw [hc_up_n c l hip, hc_up_n c l hjp]; exact h2 i j (by omega) (by omega) hij
  · rw [b_or, Bool.or_eq_true, h3 j hj, hr j hj]
    constructor
    · rintro (⟨i, hi, a, ha, hab⟩ | ⟨a, ha, hab⟩)
      · exact ⟨i, by omega, a, by rw [hc_up_n c l (by omega)]; exact ha, hab⟩
      · exact ⟨p, by omega, a, by rw [hc_up_s]; exact ha, hab⟩
    · rintro ⟨i, hi, a, ha, hab⟩
      by_cases hip : i = p
      · rw [hip, hc_up_s] at ha; exact Or.inr ⟨a, ha, hab⟩
      · rw [hc_up_n c l hip] at ha; exact Or.inl ⟨i, by omega, a, ha, hab⟩
theorem hs_TB_none (hp : p < n) (hno : ¬ ∃ l, hc_cp nx lg 0 (S p) (E p) (I p) l) : ¬ ∃ c, hc_CT nx lg 0 n S E I c := fun ⟨c, h⟩ => hno ⟨c p, h.1 p hp⟩
theorem hs_TB_over (hbi : ∀ a b, nx a ≠ none → nx b ≠ none → bi a = bi b → a = b) (hp : p < n) (h : hs_TB nx lg bi S E I p T c) (hl : hc_cp nx lg 0 (S p) (E p) (I p) l) (hr : ∀ j, j < 32 → (bt r j = true ↔ ∃ a, a ∈ l ∧ bi a = j)) (hne : ¬ r &&& T = 0) : ¬ ∃ c, hc_CT nx lg 0 n S E I c := by
  rintro ⟨c', k1, k2⟩
  obtain ⟨h1, h2, h3⟩ := h
  obtain ⟨j, hj, hb⟩ := hb_n0.mp hne
  rw [b_and, Bool.and_eq_true] at hb
  obtain ⟨a, ha, hab⟩ := (hr j hj).mp hb.1
  obtain ⟨i, hi, b, hbm, hbb⟩ := (h3 j hj).mp hb.2
  have hab' := hbi a b (hs_cell hl ha) (hs_cell (h1 i hi) hbm) (hab.trans hbb.symm)
  have e1 := hc_pp_det hl.1 (k1 p hp).1
  have e2 := hc_pp_det (h1 i hi).1 (k1 i (by omega)).1
  refine k2 p i hp (by omega) (by omega) a (by rw [← e1]; exact ha) ?_
  rw [← e2, hab']
  exact hbm
theorem hs_TB_end (h : hs_TB nx lg bi S E I n T c) : hc_CT nx lg 0 n S E I c := ⟨h.1, h.2.1⟩
end TAKE
theorem hs_TB_m1 {nx : Nat → Option Nat} {lg : Nat → Bool} {bi : Nat → Nat} {S E : Nat → Nat} {I : Nat → Bool} {n : Nat} {T : Int32} {c : Nat → List Nat} (hb : ∀ a, nx a ≠ none → bi a < 31) (h : hs_TB nx lg bi S E I n T c) : T ≠ -1 := by
  refine hb_m1 (i := 31) (by omega) ?_
  cases h9 : bt T 31 with
  | false => rfl
  | true =>
    obtain ⟨i, hi, a, h1, h2⟩ := (h.2.2 31 (by omega)).mp h9
    have := hb a (hs_cell (h.1 i hi) h1)
    omega
/-- what takenBy answers -/
def hs_tb (nx : Nat → Option Nat) (lg : Nat → Bool) (bi : Nat → Nat) (v : Nat → Nat) (sm ot : Nat → Nat → Bool) (n : Nat) (fr to : Nat → Nat) (li : Nat → Bool) (r : Int32) : Prop :=
  (r = -1 ∧ ¬ (hc_PO v sm ot ∧ ∃ c, hc_CT nx lg 0 n (fun p => v (fr p)) (fun p => v (to p)) li c)) ∨ (r ≠ -1 ∧ hc_PO v sm ot ∧ ∃ c, hs_TB nx lg bi (fun p => v (fr p)) (fun p => v (to p)) li n r c)
theorem hs_b31 {G : Nat} {EN LG BI : Nat → Int32} {nx : Nat → Option Nat} {lg : Nat → Bool} {bi : Nat → Nat} (hH : hs_hp G EN LG BI nx lg bi) : ∀ a, nx a ≠ none → bi a < 31 := fun a ha => by
  cases hn : nx a with
  | none => exact absurd hn ha
  | some z => exact ((hH.2 a (hH.1 a ha).1 (hH.1 a ha).2).2 z hn).2.2.2.2
end
section
/-! What draw makes of a claim, piece after piece; what advance does. -/
theorem hs_bitz {x : Int32} {t : Nat} (ht : t < 32) : x &&& (nI 1 <<< (nI t &&& 31)) = 0 ↔ bt x t = false := by
  rw [hb_0, show nI 1 = (1 : Int32) from rfl]
  constructor
  · intro h
    have h1 := h t ht
    rw [b_and, hb_1 t ht t ht, decide_eq_true rfl, Bool.and_true] at h1
    exact h1
  · intro h i hi
    rw [b_and, hb_1 t ht i hi]
    by_cases hit : i = t
    · rw [hit, h]; rfl
    · rw [decide_eq_false hit, Bool.and_false]
theorem hc_mx_lt {l : List Nat} {B : Nat} (hB : 0 < B) (h : ∀ j, j < 6 → l.getD j 0 < B) : ∀ t, t ≤ 6 → hc_mx l t < B := by
  intro t
  induction t with
  | zero => intro _; exact hB
  | succ t ih =>
    intro ht
    have h1 := ih (by omega)
    have h2 := h t (by omega)
    show max (hc_mx l t) (l.getD t 0) < B
    omega
theorem hc_set_getD {l : List Nat} {k x : Nat} (hl : l.length = 6) (j : Nat) (hk : k < 6) : (l.set k x).getD j 0 = if j = k then x else l.getD j 0 := by
  rw [List.getD_eq_getElem?_getD, List.getD_eq_getElem?_getD, List.getElem?_set]
  by_cases h : k = j
  · rw [if_pos h, if_pos h.symm, if_pos (by omega)]; rfl
  · rw [if_neg h, if_neg (fun q => h q.symm)]
section DRAW
variable {S E : Nat → Nat} {I : Nat → Bool} {p n : Nat} {EN LG BI : Nat → Int32} {fl : Int32} {nx : Nat → Option Nat} {lg : Nat → Bool} {bi : Nat → Nat}
/-- the heap of the first p pieces -/
def hd_I (S E : Nat → Nat) (I : Nat → Bool) (p : Nat) (EN LG BI : Nat → Int32) (fl : Int32) (nx : Nat → Option Nat) (lg : Nat → Bool) (bi : Nat → Nat) : Prop :=
  hc_BG 0 p S E I ∧ hs_hp 5 EN LG BI nx lg bi ∧ hc_H nx lg p S E I ∧ (∀ i, i < p → hc_N S E I i → bi (S i) = i) ∧ ∀ j, j < 32 → (bt fl j = true ↔ j < p ∧ hc_N S E I j)
theorem hd_0 (h : ∀ j, j ≤ 5 → EN j = -1) : hd_I S E I 0 EN LG BI (nI 0) (fun _ => none) lg bi := by
  refine ⟨fun _ h => absurd h (Nat.not_lt_zero _), ⟨fun a h => absurd rfl h, fun a h1 h2 => ⟨fun _ => h a h2, fun z hz => (by cases hz)⟩⟩, ⟨fun _ h => absurd h (Nat.not_lt_zero _), fun g h => absurd rfl h⟩, fun _ h => absurd h (Nat.not_lt_zero _), fun j hj => ?_⟩
  rw [hb_nI 0 hj]
  simp
theorem hd_skip (h : hd_I S E I p EN LG BI fl nx lg bi) (hN : ¬ hc_N S E I p) : hd_I S E I (p + 1) EN LG BI fl nx lg bi := by
  obtain ⟨h1, h2, h3, h4, h5⟩ := h
  have hlt : ∀ i, i < p + 1 → hc_N S E I i → i < p := fun i hi hNi => by
    by_cases hip : i = p
    · rw [hip] at hNi; exact absurd hNi hN
    · omega
  refine ⟨fun i hi hNi => ⟨(h1 i (hlt i hi hNi) hNi).1, fun q hq hNq => (h1 i (hlt i hi hNi) hNi).2 q (hlt q hq hNq) hNq⟩, h2, ⟨fun i hi hNi => h3.1 i (hlt i hi hNi) hNi, fun g hg => ?_⟩, fun i hi hNi => h4 i (hlt i hi hNi) hNi, fun j hj => ?_⟩
  · obtain ⟨i, a1, a2, a3⟩ := h3.2 g hg
    exact ⟨i, by omega, a2, a3⟩
  · rw [h5 j hj]
    exact ⟨fun q => ⟨by omega, q.2⟩, fun q => ⟨hlt j q.1 q.2, q.2⟩⟩
theorem hd_set (h : hd_I S E I p EN LG BI fl nx lg bi) (hp : p < 5) (hN : hc_N S E I p) (h0 : S p ≠ 0) (hS : S p ≤ 5) (hE : E p ≤ 5) (hn : nx (S p) = none) :
    hd_I S E I (p + 1) (upd EN (S p) (nI (E p))) (upd LG (S p) (hc_b (I p))) (upd BI (S p) (nI 1 <<< (nI p &&& 31))) (fl ||| (nI 1 <<< (nI p &&& 31))) (va_up nx (S p) (some (E p))) (va_up lg (S p) (I p)) (va_up bi (S p) p) := by
  obtain ⟨h1, h2, h3, h4, h5⟩ := h
  have hne : ∀ i, i < p → hc_N S E I i → S i ≠ S p := fun i hi hNi q => by
    have h9 := (h3.1 i hi hNi).1
    rw [q, hn] at h9; cases h9
  refine ⟨fun i hi hNi => ⟨?_, fun q hq hNq hqi => ?_⟩, ⟨fun a ha => ?_, fun a a1 a2 => ?_⟩, ⟨fun i hi hNi => ?_, fun g hg => ?_⟩, fun i hi hNi => ?_, fun j hj => ?_⟩
  · by_cases hip : i = p
    · rw [hip]; exact h0
    · exact (h1 i (by omega) hNi).1
  · by_cases hip : i = p
    · by_cases hqp : q = p
      · rw [hip, hqp]
      · rw [hip] at hqi; exact absurd hqi (hne q (by omega) hNq)
    · by_cases hqp : q = p
      · rw [hqp] at hqi; exact absurd hqi.symm (hne i (by omega) hNi)
      · exact (h1 i (by omega) hNi).2 q (by omega) hNq hqi
  · by_cases hap : a = S p
    · rw [hap]; omega
    · rw [hc_up_n nx _ hap] at ha; exact h2.1 a ha
  · by_cases hap : a = S p
    · refine ⟨fun q => ?_, fun z hz => ?_⟩
      · rw [hap, hc_up_s] at q; cases q
      · rw [hap, hc_up_s] at hz
        injection hz with hz
        rw [hap, hc_up_s, hc_up_s, ← hz]
        refine ⟨hE, ?_, ?_, ?_, by omega⟩ <;> (unfold upd; rw [if_pos rfl]) <;> rfl
    · rw [hc_up_n nx _ hap, hc_up_n lg _ hap, hc_up_n bi _ hap]
      have h9 := h2.2 a a1 a2
      unfold upd
      rw [if_neg hap, if_neg hap, if_neg hap]
      exact h9
  · by_cases hip : i = p
    · rw [hip, hc_up_s, hc_up_s]; exact ⟨rfl, rfl⟩
    · rw [hc_up_n nx _ (hne i (by omega) hNi), hc_up_n lg _ (hne i (by omega) hNi)]; exact h3.1 i (by omega) hNi
  · by_cases hap : g = S p
    · exact ⟨p, by omega, hN, hap.symm⟩
    · rw [hc_up_n nx _ hap] at hg
      obtain ⟨i, a1, a2, a3⟩ := h3.2 g hg
      exact ⟨i, by omega, a2, a3⟩
  · by_cases hip : i = p
    · rw [hip, hc_up_s]
    · rw [hc_up_n bi _ (hne i (by omega) hNi)]; exact h4 i (by omega) hNi
  · rw [b_or, Bool.or_eq_true, h5 j hj, show nI 1 = (1 : Int32) from rfl, hb_1 p (by omega) j hj, decide_eq_true_eq]
    constructor
    · rintro (⟨q1, q2⟩ | q)
      · exact ⟨by omega, q2⟩
      · rw [q]; exact ⟨by omega, hN⟩
    · rintro ⟨q1, q2⟩
      by_cases hjp : j = p
      · exact Or.inr hjp
      · exact Or.inl ⟨by omega, q2⟩
theorem hd_no0 (hp : p < n) (hN : hc_N S E I p) (h0 : S p = 0) : ¬ hc_BG 0 n S E I := fun h => (h p hp hN).1 h0
theorem hd_no1 (h : hd_I S E I p EN LG BI fl nx lg bi) (hp : p < n) (hN : hc_N S E I p) (hn : nx (S p) ≠ none) : ¬ hc_BG 0 n S E I := fun hB => by
  obtain ⟨i, a1, a2, a3⟩ := h.2.2.1.2 _ hn
  have := (hB p hp hN).2 i (by omega) a2 a3
  omega
end DRAW
theorem hs_max {a b : Nat} (ha : a < 2 ^ 31) (hb : b < 2 ^ 31) : (if nI a < nI b then nI b else nI a) = nI (max a b) := by
  by_cases h : a < b
  · rw [if_pos ((nI_ltI ha hb).mpr h), Nat.max_eq_right (by omega)]
  · rw [if_neg (fun q => h ((nI_ltI ha hb).mp q)), Nat.max_eq_left (by omega)]
end
section
/-! The reference's state in numbers. -/
theorem hm_neg {k : Nat} (h : k < 2 ^ 32) : nI k < 0 ↔ 2 ^ 31 ≤ k := by
  constructor
  · intro q
    by_cases h9 : k < 2 ^ 31
    · exact absurd q (nI_pos h9)
    · omega
  · intro q
    rw [Int32.lt_iff_toInt_lt, Int32.toInt_zero]
    show (BitVec.ofNat 32 k).toInt < 0
    rw [BitVec.toInt_eq_toNat_cond, BitVec.toNat_ofNat, Nat.mod_eq_of_lt h, if_neg (by omega)]
    omega
theorem hm_eq {a b : Nat} (ha : a < 2 ^ 32) (hb : b < 2 ^ 32) : nI a = nI b ↔ a = b := by
  constructor
  · intro h
    have h1 : (BitVec.ofNat 32 a).toNat = (BitVec.ofNat 32 b).toNat := by
      have := congrArg (fun x : Int32 => x.toBitVec.toNat) h
      exact this
    rw [BitVec.toNat_ofNat, BitVec.toNat_ofNat, Nat.mod_eq_of_lt ha, Nat.mod_eq_of_lt hb] at h1
    exact h1
  · intro h; rw [h]
/-- every int is nI of a number -/
theorem hm_all (x : Int32) : ∃ k, k < 2 ^ 32 ∧ x = nI k := by
  refine ⟨x.toBitVec.toNat, x.toBitVec.isLt, ?_⟩
  apply Int32.toBitVec_inj.mp
  show x.toBitVec = BitVec.ofNat 32 x.toBitVec.toNat
  rw [BitVec.ofNat_toNat, BitVec.setWidth_eq]
theorem hm_le0 {n : Nat} (h0 : 0 < n) (h : n < 2 ^ 31) : ¬ nI n ≤ 0 := by
  rw [Int32.le_iff_toInt_le, nI_toInt h, Int32.toInt_zero]; omega
theorem hm_lt0 {n : Nat} (h0 : 0 < n) (h : n < 2 ^ 31) : 0 < nI n := by
  rw [Int32.lt_iff_toInt_lt, nI_toInt h, Int32.toInt_zero]; omega
theorem hw_nar1 : vp_nar .boolean (nI 1) = hc_b true := by decide +kernel
theorem hw_nar0 : vp_nar .boolean (nI 0) = hc_b false := by decide +kernel
theorem hw_b1 : hc_b true = nI 1 := by decide
theorem hw_bf : hc_b false = nI 0 := by decide
theorem hm_rg {f : Nat → Nat} : ∀ j, j < 6 → ((List.range 6).map f).getD j 0 = f j := by
  intro j hj
  rw [List.getD_eq_getElem?_getD, List.getElem?_map, List.getElem?_range hj]; rfl
def hr_m (Sa Oa My Fa Ta La : Nat → Int32) (SA OA : Nat → Bool) (MA FA TA : Nat → Nat) (LA : Nat → Bool) : Prop :=
  (∀ k, k < 72 → Sa k = hc_b (SA k) ∧ Oa k = hc_b (OA k)) ∧ (∀ c, c < 2 → My c = nI (MA c) ∧ MA c ≤ 5) ∧ ∀ k, k < 10 → Fa k = nI (FA k) ∧ FA k < 6 ∧ Ta k = nI (TA k) ∧ TA k < 6 ∧ La k = hc_b (LA k)
abbrev hr_s (SA : Nat → Bool) (c : Nat) : Nat → Nat → Bool := fun a b => SA (36 * c + 6 * a + b)
end
section
/-! The reference's search in numbers. -/
section REF
variable {nx : Nat → Option Nat} {lg : Nat → Bool} {e S0 g z : Nat} {T T1 : Nat → Bool}
/-- its arrays hold the state nx, lg -/
def hk_N (Ca Na Ra : Nat → Int32) (nx : Nat → Option Nat) (lg : Nat → Bool) : Prop :=
  (∀ g, nx g ≠ none → g < 6) ∧ ∀ g, g < 6 → (nx g = none → Ca g = hc_b false) ∧ ∀ z, nx g = some z → Ca g = hc_b true ∧ z < 6 ∧ Na g = nI z ∧ Ra g = hc_b (lg g)
/-- on the way from S0 to e, at g -/
def hk_I (nx : Nat → Option Nat) (e : Nat) (T T1 : Nat → Bool) (S0 g : Nat) : Prop :=
  ∃ pre, hc_PP nx e g pre S0 ∧ (∀ a, a ∈ pre → T a = false) ∧ (∀ x, T1 x = (T x || decide (x ∈ pre))) ∧ ((∃ l, hc_P nx e l S0 ∧ ∀ a, a ∈ l → T a = false) ↔ ∃ l, hc_P nx e l g ∧ ∀ a, a ∈ l → T1 a = false)
theorem hk_I0 : hk_I nx e T T S0 S0 := ⟨[], rfl, fun a h => absurd h List.not_mem_nil, fun x => by simp, Iff.rfl⟩
theorem hk_I1 (h : hk_I nx e T T1 S0 g) (hne : g ≠ e) (hz : nx g = some z) (hT : T1 g = false) : hk_I nx e T (va_up T1 g true) S0 z := by
  obtain ⟨pre, h1, h2, h3, h4⟩ := h
  have hTg : T g = false := by
    have := h3 g
    rw [hT] at this
    cases h9 : T g with
    | false => rfl
    | true => rw [h9] at this; cases this
  refine ⟨pre ++ [g], hc_PP_app hne hz pre S0 h1, fun a ha => ?_, fun x => ?_, h4.trans (hc_take_step hne hz hT)⟩
  · rcases List.mem_append.mp ha with ha | ha
    · exact h2 a ha
    · rw [List.mem_singleton.mp ha]; exact hTg
  · by_cases hxg : x = g
    · rw [hxg, hc_up_s]; simp
    · rw [hc_up_n T1 true hxg, h3 x]
      congr 1
      simp [hxg]
theorem hk_Ie (h : hk_I nx e T T1 S0 e) : ∃ l, hc_P nx e l S0 ∧ (∀ a, a ∈ l → T a = false) ∧ ∀ x, T1 x = (T x || decide (x ∈ l)) := by
  obtain ⟨pre, h1, h2, h3, -⟩ := h
  exact ⟨pre, h1, h2, h3⟩
theorem hk_In (h : hk_I nx e T T1 S0 g) (hne : g ≠ e) (hno : ∀ z, nx g = some z → T1 g = true) : ¬ ∃ l, hc_P nx e l S0 ∧ ∀ a, a ∈ l → T a = false := by
  obtain ⟨pre, -, -, -, h4⟩ := h
  rw [h4]
  rintro ⟨l, h1, h2⟩
  cases l with
  | nil => exact hne (hc_P_nil.mp h1)
  | cons b l =>
    obtain ⟨k1, -, y, hy, -⟩ := hc_P_cons.mp h1
    have h5 := h2 b List.mem_cons_self
    rw [k1, hno y hy] at h5
    cases h5
/-- how many of the six are false -/
def hk_c (T : Nat → Bool) : Nat := (!T 0).toNat + (!T 1).toNat + (!T 2).toNat + (!T 3).toNat + (!T 4).toNat + (!T 5).toNat
theorem hk_c_up (hg : g < 6) (hT : T g = false) : hk_c (va_up T g true) + 1 = hk_c T := by
  unfold hk_c
  have h : ∀ j, va_up T g true j = if j = g then true else T j := fun j => rfl
  rw [h 0, h 1, h 2, h 3, h 4, h 5]
  rcases (by omega : g = 0 ∨ g = 1 ∨ g = 2 ∨ g = 3 ∨ g = 4 ∨ g = 5) with rfl | rfl | rfl | rfl | rfl | rfl <;> simp [hT] <;> omega
theorem hk_c_le : hk_c T ≤ 6 := by
  unfold hk_c
  have h : ∀ b : Bool, b.toNat ≤ 1 := by decide
  have h0 := h (!T 0); have h1 := h (!T 1); have h2 := h (!T 2); have h3 := h (!T 3); have h4 := h (!T 4); have h5 := h (!T 5)
  omega
/-- the bit p of more -/
theorem hk_more : ∀ p, p < 5 → ∀ x : Int32, (x >>> (nI p &&& 31)) &&& nI 1 = nI 1 ↔ bt x p = true := by
  intro p hp x
  have h1 : ∀ i, i < 32 → bt (nI 1) i = decide (i = 0) := by decide +kernel
  constructor
  · intro h
    have h2 : bt ((x >>> (nI p &&& 31)) &&& nI 1) 0 = bt (nI 1) 0 := by rw [h]
    rw [b_and, b_sshr p (by omega) x (by omega), if_pos (by omega), h1 0 (by omega)] at h2
    simpa using h2
  · intro h
    refine b_ext (fun i hi => ?_)
    rw [b_and, h1 i hi]
    by_cases hi0 : i = 0
    · rw [hi0, b_sshr p (by omega) x (by omega), if_pos (by omega), Nat.add_zero, h]; rfl
    · rw [decide_eq_false hi0, Bool.and_false]
theorem hk_T1 (g j : Nat) : va_up T g true j = (T j || decide (j ∈ [g])) := by
  by_cases h : j = g
  · rw [h, hc_up_s]; simp
  · rw [hc_up_n T true h]; simp [h]
def hk_R (v : Nat → Nat) (SA OA : Nat → Bool) (MA FA TA : Nat → Nat) (LA : Nat → Bool) (mo : Int32) (nx : Nat → Option Nat) (lg : Nat → Bool) : Prop :=
  hc_PO v (hr_s SA 1) (hr_s OA 1) ∧ hc_TR nx lg (MA 1) (fun i => v (FA (5 + i))) (fun i => v (TA (5 + i))) (fun i => LA (5 + i)) (MA 0) (fun p => bt mo p) (fun p => v (FA p)) (fun p => v (TA p)) LA
def hk_L (dm : Nat) (v : Nat → Nat) (oa ob : Nat) (R : (Nat → Option Nat) → (Nat → Bool) → Prop) (nx : Nat → Option Nat) (lg : Nat → Bool) : Prop :=
  if dm = 1 then ¬ R nx lg else if dm = 2 then v oa ≠ v ob else if dm = 3 then v oa = v ob else if dm = 4 then nx (v oa) = none else True
end REF
section BEGUN
variable {vn p n : Nat} {S E : Nat → Nat} {I : Nat → Bool} {Ca Na Ra : Nat → Int32} {CA : Nat → Bool}
/-- the first p pieces have begun -/
def hg_I (vn : Nat) (S E : Nat → Nat) (I : Nat → Bool) (p : Nat) (Ca Na Ra : Nat → Int32) (CA : Nat → Bool) : Prop :=
  hc_BG vn p S E I ∧ (∀ j, j < 6 → Ca j = hc_b (CA j)) ∧ (∀ g, g < 6 → (CA g = true ↔ ∃ q, q < p ∧ hc_N S E I q ∧ S q = g)) ∧ ∀ q, q < p → hc_N S E I q → Na (S q) = nI (E q) ∧ Ra (S q) = hc_b false
theorem hg_0 (h : ∀ j, j < 6 → Ca j = hc_b false) : hg_I vn S E I 0 Ca Na Ra (fun _ => false) :=
  ⟨fun _ h => absurd h (Nat.not_lt_zero _), h, fun g _ => ⟨fun h => (by cases h), fun ⟨q, h, _⟩ => absurd h (Nat.not_lt_zero _)⟩, fun _ h => absurd h (Nat.not_lt_zero _)⟩
theorem hg_skip (h : hg_I vn S E I p Ca Na Ra CA) (hN : ¬ hc_N S E I p) : hg_I vn S E I (p + 1) Ca Na Ra CA := by
  obtain ⟨h1, h2, h3, h4⟩ := h
  have hlt : ∀ i, i < p + 1 → hc_N S E I i → i < p := fun i hi hNi => by
    by_cases hip : i = p
    · rw [hip] at hNi; exact absurd hNi hN
    · omega
  refine ⟨fun i hi hNi => ⟨(h1 i (hlt i hi hNi) hNi).1, fun q hq hNq => (h1 i (hlt i hi hNi) hNi).2 q (hlt q hq hNq) hNq⟩, h2, fun g hg => ?_, fun i hi hNi => h4 i (hlt i hi hNi) hNi⟩
  rw [h3 g hg]
  exact ⟨fun ⟨q, a, b, d⟩ => ⟨q, by omega, b, d⟩, fun ⟨q, a, b, d⟩ => ⟨q, hlt q a b, b, d⟩⟩
theorem hg_set (h : hg_I vn S E I p Ca Na Ra CA) (hN : hc_N S E I p) (h0 : S p ≠ vn) (hS : S p < 6) (hC : CA (S p) = false) :
    hg_I vn S E I (p + 1) (upd Ca (S p) (hc_b true)) (upd Na (S p) (nI (E p))) (upd Ra (S p) (hc_b false)) (va_up CA (S p) true) := by
  obtain ⟨h1, h2, h3, h4⟩ := h
  have hne : ∀ i, i < p → hc_N S E I i → S i ≠ S p := fun i hi hNi q => by
    have := (h3 (S p) hS).mpr ⟨i, hi, hNi, q⟩
    rw [hC] at this; cases this
  refine ⟨fun i hi hNi => ⟨?_, fun q hq hNq hqi => ?_⟩, fun j hj => hw_updb h2 (S p) true j hj, fun g hg => ?_, fun i hi hNi => ?_⟩
  · by_cases hip : i = p
    · rw [hip]; exact h0
    · exact (h1 i (by omega) hNi).1
  · by_cases hip : i = p
    · by_cases hqp : q = p
      · rw [hip, hqp]
      · rw [hip] at hqi; exact absurd hqi (hne q (by omega) hNq)
    · by_cases hqp : q = p
      · rw [hqp] at hqi; exact absurd hqi.symm (hne i (by omega) hNi)
      · exact (h1 i (by omega) hNi).2 q (by omega) hNq hqi
  · by_cases hgp : g = S p
    · rw [hgp, hc_up_s]; exact ⟨fun _ => ⟨p, by omega, hN, rfl⟩, fun _ => rfl⟩
    · rw [hc_up_n CA true hgp, h3 g hg]
      exact ⟨fun ⟨q, a, b, d⟩ => ⟨q, by omega, b, d⟩, fun ⟨q, a, b, d⟩ => ⟨q, by by_cases hqp : q = p; (rw [hqp] at d; exact absurd d.symm hgp); omega, b, d⟩⟩
  · unfold upd
    by_cases hip : i = p
    · rw [hip, if_pos rfl, if_pos rfl]; exact ⟨rfl, rfl⟩
    · rw [if_neg (hne i (by omega) hNi), if_neg (hne i (by omega) hNi)]; exact h4 i (by omega) hNi
theorem hg_no (h : hg_I vn S E I p Ca Na Ra CA) (hp : p < n) (hN : hc_N S E I p) (hS : S p < 6) (hC : CA (S p) = true) : ¬ hc_BG vn n S E I := fun hB => by
  obtain ⟨q, a, b, d⟩ := (h.2.2.1 (S p) hS).mp hC
  have := (hB p hp hN).2 q (by omega) b d
  omega
end BEGUN
section NODE
variable {n p p' x e k g vn : Nat} {S E v : Nat → Nat} {I : Nat → Bool} {rs : List (Nat × Nat)} {as : List (Nat × Nat × Bool)} {CA : Nat → Bool} {Ca Na Ra : Nat → Int32} {b : Bool}
/-- a place of the search: piece p, its list at x, rs to come, as what is chosen -/
def hy_N (n : Nat) (S E : Nat → Nat) (I : Nat → Bool) (p x e : Nat) (rs : List (Nat × Nat)) (as : List (Nat × Nat × Bool)) (CA : Nat → Bool) (k : Nat) : Prop :=
  p < n ∧ x < 6 ∧ e = E p ∧ rs = hc_rem S E I (p + 1) (n - (p + 1)) ∧ (∀ g, g < 6 → (CA g = true ↔ hc_nx as g ≠ none ∨ g = x ∨ ∃ r, r ∈ rs ∧ r.1 = g)) ∧
    (∀ g, hc_nx as g ≠ none → g < 6 ∧ g ≠ x ∧ ∀ r, r ∈ rs → r.1 ≠ g) ∧ (∀ r, r ∈ rs → r.1 ≠ x) ∧ (∀ q, q < n → hc_N S E I q → CA (S q) = true) ∧ rs.length + 1 + hk_c CA ≤ k + 1
def hy_A (as : List (Nat × Nat × Bool)) (Na Ra : Nat → Int32) : Prop := ∀ g z, hc_nx as g = some z → z < 6 ∧ Na g = nI z ∧ Ra g = hc_b (hc_fa as g)
theorem hy_free (h : hy_N n S E I p x e rs as CA k) (hS : ∀ q, q < n → S q < 6) (hg : g < 6) :
    ((∃ t, t < 6 ∧ v t = g) ∧ g ≠ e ∧ g ≠ vn ∧ CA g = false) ↔ ((∃ t, t < 6 ∧ v t = g) ∧ g ≠ vn ∧ ∀ q, q < n → hc_N S E I q → S q ≠ g) ∧ g ≠ e ∧ g ≠ x ∧ hc_nx as g = none := by
  obtain ⟨a1, a2, a3, a4, a5, a6, a7, a8, a9⟩ := h
  constructor
  · rintro ⟨h1, h2, h3, h4⟩
    refine ⟨⟨h1, h3, fun q hq hN hqg => ?_⟩, h2, fun q => ?_, ?_⟩
    · have := a8 q hq hN
      rw [hqg, h4] at this; cases this
    · have := (a5 g hg).mpr (Or.inr (Or.inl q))
      rw [h4] at this; cases this
    · cases h9 : hc_nx as g with
      | none => rfl
      | some z =>
        have := (a5 g hg).mpr (Or.inl (by rw [h9]; exact fun q => (by cases q)))
        rw [h4] at this; cases this
  · rintro ⟨⟨h1, h3, h5⟩, h2, h6, h7⟩
    refine ⟨h1, h2, h3, ?_⟩
    cases h9 : CA g with
    | false => rfl
    | true =>
      rcases (a5 g hg).mp h9 with q | q | ⟨r, hr, hrg⟩
      · exact absurd h7 q
      · exact absurd q h6
      · rw [a4] at hr
        obtain ⟨t, ht, e1⟩ := List.mem_map.mp hr
        obtain ⟨t1, t2, t3, t4⟩ := (hc_ls_mem _ _ _).mp ht
        rw [← e1] at hrg
        exact absurd hrg (h5 t (by omega) (fun _ => t4))
theorem hy_next (h1 : p ≤ p') (h2 : p' < n) (hI : I p' = true) (hN : S p' ≠ E p') (hno : ∀ y, p ≤ y → y < p' → ¬ (I y = true ∧ S y ≠ E y)) :
    hc_rem S E I p (n - p) = (S p', E p') :: hc_rem S E I (p' + 1) (n - (p' + 1)) := by
  obtain ⟨j, hj⟩ : ∃ j, p' = p + j := ⟨p' - p, by omega⟩
  induction j generalizing p with
  | zero =>
    have hpp : p' = p := by omega
    subst hpp
    obtain ⟨w, hw⟩ : ∃ w, n - p' = w + 1 := ⟨n - p' - 1, by omega⟩
    rw [hw, show n - (p' + 1) = w by omega]
    unfold hc_rem
    rw [show hc_ls S E I p' (w + 1) = p' :: hc_ls S E I (p' + 1) w by show (if I p' = true ∧ S p' ≠ E p' then _ else _) = _; rw [if_pos ⟨hI, hN⟩]]
    rfl
  | succ j ih =>
    obtain ⟨w, hw⟩ : ∃ w, n - p = w + 1 := ⟨n - p - 1, by omega⟩
    have h9 := ih (p := p + 1) (by omega) (fun y h5 h6 => hno y (by omega) h6) (by omega)
    rw [hw, ← h9, show n - (p + 1) = w by omega]
    unfold hc_rem
    rw [show hc_ls S E I p (w + 1) = hc_ls S E I (p + 1) w by show (if I p = true ∧ S p ≠ E p then _ else _) = _; rw [if_neg (hno p (by omega) (by omega))]]
theorem hy_last (hno : ∀ y, p ≤ y → y < n → ¬ (I y = true ∧ S y ≠ E y)) : hc_rem S E I p (n - p) = [] := by
  unfold hc_rem
  cases h9 : hc_ls S E I p (n - p) with
  | nil => rfl
  | cons a l =>
    obtain ⟨t1, t2, t3⟩ := (hc_ls_mem (n - p) p a).mp (by rw [h9]; exact List.mem_cons_self)
    exact absurd t3 (hno a t1 (by omega))
theorem hy_nxc (y : Nat) (as : List (Nat × Nat × Bool)) (x z : Nat) (b : Bool) : hc_nx ((x, z, b) :: as) y = if x = y then some z else hc_nx as y := rfl
theorem hy_fac (y : Nat) (as : List (Nat × Nat × Bool)) (x z : Nat) (b : Bool) : hc_fa ((x, z, b) :: as) y = if x = y then b else hc_fa as y := rfl
/-- a new address on the list -/
theorem hy_via (h : hy_N n S E I p x e rs as CA (k + 1)) (hg : g < 6) (hC : CA g = false) : hy_N n S E I p g e rs ((x, g, b) :: as) (va_up CA g true) k := by
  obtain ⟨a1, a2, a3, a4, a5, a6, a7, a8, a9⟩ := h
  have hno : ¬ (hc_nx as g ≠ none ∨ g = x ∨ ∃ r, r ∈ rs ∧ r.1 = g) := fun q => by
    have := (a5 g hg).mpr q
    rw [hC] at this; cases this
  refine ⟨a1, hg, a3, a4, fun j hj => ?_, fun j hj => ?_, fun r hr q => hno (Or.inr (Or.inr ⟨r, hr, q⟩)), fun q hq hN => ?_, ?_⟩
  · by_cases hjg : j = g
    · rw [hjg, hc_up_s]; exact ⟨fun _ => Or.inr (Or.inl rfl), fun _ => rfl⟩
    · rw [hc_up_n CA true hjg, a5 j hj, hy_nxc]
      constructor
      · rintro (q | q | q)
        · by_cases hxj : x = j
          · rw [if_pos hxj]; exact Or.inl (fun q => (by cases q))
          · rw [if_neg hxj]; exact Or.inl q
        · rw [if_pos q.symm]; exact Or.inl (fun q => (by cases q))
        · exact Or.inr (Or.inr q)
      · rintro (q | q | q)
        · by_cases hxj : x = j
          · exact Or.inr (Or.inl hxj.symm)
          · rw [if_neg hxj] at q; exact Or.inl q
        · exact absurd q hjg
        · exact Or.inr (Or.inr q)
  · rw [hy_nxc] at hj
    by_cases hxj : x = j
    · rw [← hxj]
      exact ⟨a2, fun q => hno (Or.inr (Or.inl q.symm)), a7⟩
    · rw [if_neg hxj] at hj
      obtain ⟨b1, b2, b3⟩ := a6 j hj
      exact ⟨b1, fun q => hno (Or.inl (by rw [← q]; exact hj)), b3⟩
  · unfold va_up
    by_cases hqg : S q = g
    · rw [if_pos hqg]
    · rw [if_neg hqg]; exact a8 q hq hN
  · have := hk_c_up hg hC
    omega
/-- the list's end, and the next list -/
theorem hy_end (h : hy_N n S E I p x e rs as CA (k + 1)) (hB : hc_BG vn n S E I) (hS : ∀ q, q < n → S q < 6) (h1 : p + 1 ≤ p') (h2 : p' < n) (hI : I p' = true) (hN : S p' ≠ E p') (hno : ∀ y, p + 1 ≤ y → y < p' → ¬ (I y = true ∧ S y ≠ E y)) :
    rs = (S p', E p') :: hc_rem S E I (p' + 1) (n - (p' + 1)) ∧ hy_N n S E I p' (S p') (E p') (hc_rem S E I (p' + 1) (n - (p' + 1))) ((x, e, b) :: as) CA k := by
  obtain ⟨a1, a2, a3, a4, a5, a6, a7, a8, a9⟩ := h
  have hrs := a4.trans (hy_next h1 h2 hI hN hno)
  refine ⟨hrs, h2, hS p' h2, rfl, rfl, fun j hj => ?_, fun j hj => ?_, fun r hr q => ?_, a8, ?_⟩
  · rw [a5 j hj, hrs, hy_nxc]
    constructor
    · rintro (q | q | ⟨r, hr, q⟩)
      · by_cases hxj : x = j
        · rw [if_pos hxj]; exact Or.inl (fun q => (by cases q))
        · rw [if_neg hxj]; exact Or.inl q
      · rw [if_pos q.symm]; exact Or.inl (fun q => (by cases q))
      · rcases List.mem_cons.mp hr with hr | hr
        · rw [hr] at q; exact Or.inr (Or.inl q.symm)
        · exact Or.inr (Or.inr ⟨r, hr, q⟩)
    · rintro (q | q | ⟨r, hr, q⟩)
      · by_cases hxj : x = j
        · exact Or.inr (Or.inl hxj.symm)
        · rw [if_neg hxj] at q; exact Or.inl q
      · exact Or.inr (Or.inr ⟨_, List.mem_cons_self, q.symm⟩)
      · exact Or.inr (Or.inr ⟨r, List.mem_cons_of_mem _ hr, q⟩)
  · rw [hy_nxc] at hj
    rw [hrs] at a6 a7
    by_cases hxj : x = j
    · rw [← hxj]
      exact ⟨a2, fun q => a7 _ List.mem_cons_self q.symm, fun r hr => a7 r (List.mem_cons_of_mem _ hr)⟩
    · rw [if_neg hxj] at hj
      obtain ⟨b1, b2, b3⟩ := a6 j hj
      exact ⟨b1, fun q => b3 _ List.mem_cons_self q.symm, fun r hr => b3 r (List.mem_cons_of_mem _ hr)⟩
  · obtain ⟨t, ht, e1⟩ := List.mem_map.mp hr
    obtain ⟨t1, t2, t3, t4⟩ := (hc_ls_mem _ _ _).mp ht
    rw [← e1] at q
    have := (hB p' h2 (fun _ => hN)).2 t (by omega) (fun _ => t4) q
    omega
  · rw [hrs, List.length_cons] at a9
    omega
/-- no list is left -/
theorem hy_leaf (h : hy_N n S E I p x e rs as CA k) (hrs : rs = []) (he : e < 6) (hA : hy_A as Na Ra) (hCa : ∀ j, j < 6 → Ca j = hc_b (CA j)) : hk_N Ca (upd Na x (nI e)) (upd Ra x (hc_b b)) (hc_nx ((x, e, b) :: as)) (hc_fa ((x, e, b) :: as)) := by
  obtain ⟨a1, a2, a3, a4, a5, a6, a7, a8, a9⟩ := h
  rw [hrs] at a5
  refine ⟨fun j hj => ?_, fun j hj => ⟨fun q => ?_, fun z hz => ?_⟩⟩
  · rw [hy_nxc] at hj
    by_cases hxj : x = j
    · rw [← hxj]; exact a2
    · rw [if_neg hxj] at hj; exact (a6 j hj).1
  · rw [hCa j hj]
    cases h9 : CA j with
    | false => rfl
    | true =>
      rw [hy_nxc] at q
      rcases (a5 j hj).mp h9 with w | w | ⟨r, hr, _⟩
      · by_cases hxj : x = j
        · rw [if_pos hxj] at q; cases q
        · rw [if_neg hxj] at q; exact absurd q w
      · rw [if_pos w.symm] at q; cases q
      · exact absurd hr List.not_mem_nil
  · rw [hy_nxc] at hz
    rw [hy_fac]
    unfold upd
    by_cases hxj : x = j
    · rw [if_pos hxj] at hz
      injection hz with hz
      rw [if_pos hxj, if_pos hxj.symm, if_pos hxj.symm, ← hz]
      refine ⟨?_, he, rfl, rfl⟩
      rw [hCa j hj, (a5 j hj).mpr (Or.inr (Or.inl hxj.symm))]
    · rw [if_neg hxj] at hz
      rw [if_neg hxj, if_neg (fun q => hxj q.symm), if_neg (fun q => hxj q.symm)]
      obtain ⟨c1, c2, c3⟩ := hA j z hz
      exact ⟨by rw [hCa j hj, (a5 j hj).mpr (Or.inl (by rw [hz]; exact fun q => (by cases q)))], c1, c2, c3⟩
theorem hy_A_new {y : Nat} (hA : hy_A as Na Ra) (hy : y < 6) (hx : hc_nx as x = none) : hy_A ((x, y, b) :: as) (upd Na x (nI y)) (upd Ra x (hc_b b)) := by
  intro j z hz
  rw [hy_nxc] at hz
  rw [hy_fac]
  unfold upd
  by_cases hxj : x = j
  · rw [if_pos hxj] at hz
    injection hz with hz
    rw [if_pos hxj, if_pos hxj.symm, if_pos hxj.symm, ← hz]
    exact ⟨hy, rfl, rfl⟩
  · rw [if_neg hxj] at hz
    rw [if_neg hxj, if_neg (fun q => hxj q.symm), if_neg (fun q => hxj q.symm)]
    exact hA j z hz
theorem hy_A_old {y : Nat} (hA : hy_A ((x, y, b) :: as) Na Ra) (hx : hc_nx as x = none) : hy_A as Na Ra := by
  intro j z hz
  have hxj : ¬ x = j := fun q => by rw [← q, hx] at hz; cases hz
  have h1 := hA j z (by rw [hy_nxc, if_neg hxj]; exact hz)
  rw [hy_fac, if_neg hxj] at h1
  exact h1
theorem hy_x (h : hy_N n S E I p x e rs as CA k) : hc_nx as x = none := by
  cases h9 : hc_nx as x with
  | none => rfl
  | some z => exact absurd rfl (h.2.2.2.2.2.1 x (by rw [h9]; exact fun q => (by cases q))).2.1
theorem hy_as0_fn (hB : hc_BG vn n S E I) : hc_fn (hc_as0 S E I n) := by
  intro y z hy hz hyz
  obtain ⟨a, a1, a2, a3⟩ := (hc_as0_mem n y).mp hy
  obtain ⟨c, c1, c2, c3⟩ := (hc_as0_mem n z).mp hz
  have h9 := (hB c c1 (fun q => by rw [c2] at q; cases q)).2 a a1 (fun q => by rw [a2] at q; cases q) (by rw [a3, c3] at hyz; exact hyz)
  rw [a3, c3, h9]
theorem hy_A0 (hB : hc_BG vn n S E I) (hE : ∀ q, q < n → E q < 6) (h : hg_I vn S E I n Ca Na Ra CA) : hy_A (hc_as0 S E I n) Na Ra := by
  intro j z hz
  obtain ⟨y, y1, y2, y3, y4⟩ := hc_nx_some _ _ _ hz
  obtain ⟨a, a1, a2, a3⟩ := (hc_as0_mem n y).mp y1
  rw [y4, ← y2, ← y3, a3]
  have h9 := h.2.2.2 a a1 (fun q => by rw [a2] at q; cases q)
  exact ⟨hE a a1, h9.1, h9.2⟩
theorem hy_as0_key (hB : hc_BG vn n S E I) (j : Nat) : hc_nx (hc_as0 S E I n) j ≠ none ↔ ∃ q, q < n ∧ I q = false ∧ S q = j := by
  constructor
  · intro h
    cases h9 : hc_nx (hc_as0 S E I n) j with
    | none => exact absurd h9 h
    | some z =>
      obtain ⟨y, y1, y2, y3, y4⟩ := hc_nx_some _ _ _ h9
      obtain ⟨a, a1, a2, a3⟩ := (hc_as0_mem n y).mp y1
      exact ⟨a, a1, a2, by rw [← y2, a3]⟩
  · rintro ⟨q, q1, q2, q3⟩ h
    exact hc_nx_none _ _ h (S q, E q, false) ((hc_as0_mem n _).mpr ⟨q, q1, q2, rfl⟩) q3
theorem hy_0 (hB : hc_BG vn n S E I) (hn : n ≤ 5) (hS : ∀ q, q < n → S q < 6) (h : hg_I vn S E I n Ca Na Ra CA) (h2 : p < n) (hI : I p = true) (hN : S p ≠ E p) (hno : ∀ y, 0 ≤ y → y < p → ¬ (I y = true ∧ S y ≠ E y)) :
    hc_rem S E I 0 n = (S p, E p) :: hc_rem S E I (p + 1) (n - (p + 1)) ∧ hy_N n S E I p (S p) (E p) (hc_rem S E I (p + 1) (n - (p + 1))) (hc_as0 S E I n) CA 10 := by
  have hrs := hy_next (n := n) (Nat.zero_le p) h2 hI hN hno
  rw [Nat.sub_zero] at hrs
  have hmem : ∀ r, r ∈ hc_rem S E I (p + 1) (n - (p + 1)) → ∃ t, p + 1 ≤ t ∧ t < n ∧ I t = true ∧ S t ≠ E t ∧ r = (S t, E t) := fun r hr => by
    obtain ⟨t, ht, e1⟩ := List.mem_map.mp hr
    obtain ⟨t1, t2, t3, t4⟩ := (hc_ls_mem _ _ _).mp ht
    exact ⟨t, t1, by omega, t3, t4, e1.symm⟩
  have hNI : ∀ q, I q = false → hc_N S E I q := fun q h9 h8 => by rw [h9] at h8; cases h8
  refine ⟨hrs, h2, hS p h2, rfl, rfl, fun j hj => ?_, fun j hj => ?_, fun r hr q => ?_, fun q hq hNq => (h.2.2.1 _ (hS q hq)).mpr ⟨q, hq, hNq, rfl⟩, ?_⟩
  · rw [h.2.2.1 j hj, hy_as0_key hB]
    constructor
    · rintro ⟨q, q1, q2, q3⟩
      cases hIq : I q with
      | false => exact Or.inl ⟨q, q1, hIq, q3⟩
      | true =>
        have hm : (S q, E q) ∈ hc_rem S E I 0 n := List.mem_map.mpr ⟨q, (hc_ls_mem _ _ _).mpr ⟨Nat.zero_le _, by omega, hIq, q2 hIq⟩, rfl⟩
        rw [hrs] at hm
        rcases List.mem_cons.mp hm with hm | hm
        · injection hm with e1 e2
          exact Or.inr (Or.inl (by rw [← q3, e1]))
        · exact Or.inr (Or.inr ⟨_, hm, q3⟩)
    · rintro (⟨q, q1, q2, q3⟩ | q | ⟨r, hr, q⟩)
      · exact ⟨q, q1, hNI q q2, q3⟩
      · exact ⟨p, h2, fun _ => hN, q.symm⟩
      · obtain ⟨t, t1, t2, t3, t4, t5⟩ := hmem r hr
        exact ⟨t, t2, fun _ => t4, by rw [← q, t5]⟩
  · obtain ⟨q, q1, q2, q3⟩ := (hy_as0_key hB j).mp hj
    refine ⟨by rw [← q3]; exact hS q q1, fun e1 => ?_, fun r hr e1 => ?_⟩
    · have := (hB p h2 (fun _ => hN)).2 q q1 (hNI q q2) (q3.trans e1)
      rw [this, hI] at q2; cases q2
    · obtain ⟨t, t1, t2, t3, t4, t5⟩ := hmem r hr
      rw [t5] at e1
      have := (hB q q1 (hNI q q2)).2 t t2 (fun _ => t4) (e1.trans q3.symm)
      rw [← this, t3] at q2; cases q2
  · obtain ⟨t, t1, t2, t3, t4, t5⟩ := hmem r hr
    rw [t5] at q
    have := (hB p h2 (fun _ => hN)).2 t t2 (fun _ => t4) q
    omega
  · have h8 : (hc_rem S E I (p + 1) (n - (p + 1))).length ≤ n - (p + 1) := by unfold hc_rem; rw [List.length_map]; exact hc_ls_len _ _
    have h9 := hk_c_le (T := CA)
    omega
theorem hy_leaf0 (hB : hc_BG vn n S E I) (hE : ∀ q, q < n → E q < 6) (hS : ∀ q, q < n → S q < 6) (h : hg_I vn S E I n Ca Na Ra CA) (hno : ∀ y, 0 ≤ y → y < n → ¬ (I y = true ∧ S y ≠ E y)) :
    hc_rem S E I 0 n = [] ∧ hk_N Ca Na Ra (hc_nx (hc_as0 S E I n)) (hc_fa (hc_as0 S E I n)) := by
  have hrs := hy_last (n := n) (p := 0) hno
  rw [Nat.sub_zero] at hrs
  have hNI : ∀ q, I q = false → hc_N S E I q := fun q h9 h8 => by rw [h9] at h8; cases h8
  refine ⟨hrs, fun j hj => ?_, fun j hj => ⟨fun q => ?_, fun z hz => ?_⟩⟩
  · obtain ⟨q, q1, q2, q3⟩ := (hy_as0_key hB j).mp hj
    rw [← q3]; exact hS q q1
  · rw [h.2.1 j hj]
    cases h9 : CA j with
    | false => rfl
    | true =>
      obtain ⟨t, t1, t2, t3⟩ := (h.2.2.1 j hj).mp h9
      cases hIt : I t with
      | false => exact absurd q ((hy_as0_key hB j).mpr ⟨t, t1, hIt, t3⟩)
      | true => exact absurd ⟨hIt, t2 hIt⟩ (hno t (Nat.zero_le _) t1)
  · have hk : hc_nx (hc_as0 S E I n) j ≠ none := by rw [hz]; exact fun q => (by cases q)
    obtain ⟨q, q1, q2, q3⟩ := (hy_as0_key hB j).mp hk
    obtain ⟨c1, c2, c3⟩ := hy_A0 hB hE h j z hz
    exact ⟨by rw [h.2.1 j hj, (h.2.2.1 j hj).mpr ⟨q, q1, hNI q q2, q3⟩], c1, c2, c3⟩
end NODE
end
section
set_option maxHeartbeats 4000000 in
set_option maxRecDepth 100000 in
/-- the terms with a's value -/
theorem k_X1_termsEqualTo (l : Launch) (D : va_G) (cI cZ cJ : ClassId) (v : Nat → Nat) (V : Nat → Int32) (a q : Nat) (hV : ∀ t, t < 6 → V t = nI (v t)) (hv : ∀ t, t < 6 → v t < 2 ^ 31) (ha : a < 6) : Met l yX1_termsEqualTo (Cond.code yX1_termsEqualTo cX1_termsEqualTo 4 (some .int) :: hwG) { frames := 0, cells := 0, slots := 0, locals := 0 } (hp_R [.int (nI a), .ref q] D cI cZ cJ [(q, .inl (cI, 6, .inl V))]) (vp_Si (fun r => ∀ i, i < 32 → bt r i = decide (i < 6 ∧ v i = v a))) 0 0 (fun _ => False) := by
  refine Met.ofW (cc := cX1_termsEqualTo) (maxL := 4) (ret := (some .int)) (by decide) rfl ?_
  intro p e s m args below meth c s₁ B hml hv
  obtain ⟨rfl, hP, hz⟩ := hv
  have hx := B.exec
  have hb := B.bytes
  have hr := B.returns
  have hts := atoms_spec (ws := (Cond.code yX1_termsEqualTo cX1_termsEqualTo 4 (some .int) :: hwG)) B.pre
  have htg := fun w h => hts w (List.mem_cons_of_mem _ h)
  have hown : s.vm.findClass RX1 = some m.cls := findClass_of_methodNamed B.named
  have hlocks := B.notSynchronized
  have hK := hz.1
  have hl := lv_entry ([.int (nI a), .ref q]) (n := 4) (Nat.le_of_ble_eq_true rfl)
  rw [lg_entry_eq]
  generalize (lg_sl ([.int (nI a), .ref q]) ++ List.replicate (4 - (lg_sl ([.int (nI a), .ref q])).length) Slot.unset).toArray = ls at hl ⊢
  replace hl : lv_has ls 4 [(0, .int (nI a)), (1, .ref q)] := hl
  refine lv_iconst (v := nI 0) hx hb dX1_termsEqualTo_0 (by decide) ?_
  refine lv_istore_n hx hb dX1_termsEqualTo_1 rfl hl (by decide) rfl (fun ls hl => ?_)
  replace hl : lv_has ls 4 [(2, .int (nI 0)), (0, .int (nI a)), (1, .ref q)] := hl
  refine lv_iconst (v := nI 0) hx hb dX1_termsEqualTo_2 (by decide) ?_
  refine lv_istore_n hx hb dX1_termsEqualTo_3 rfl hl (by decide) rfl (fun ls hl => ?_)
  replace hl : lv_has ls 4 [(3, .int (nI 0)), (2, .int (nI 0)), (0, .int (nI a)), (1, .ref q)] := hl
  obtain ⟨b, e_b⟩ : ∃ z : Nat, z = 0 := ⟨_, rfl⟩
  obtain ⟨z, e_z⟩ : ∃ z : Int32, z = nI 0 := ⟨_, rfl⟩
  replace hl : lv_has ls 4 [(3, .int (nI b)), (2, .int z), (0, .int (nI a)), (1, .ref q)] := by subst e_b e_z; exact hl
  have hI : ∀ i, i < 32 → bt z i = decide (i < b ∧ v i = v a) := by subst e_b e_z; intro i hi; rw [hb_nI 0 hi]; simp
  have hb6 : b ≤ 6 := by subst e_b e_z; omega
  clear e_b e_z
  obtain ⟨k, hk⟩ : ∃ k : Nat, k = 6 - b := ⟨_, rfl⟩
  induction k generalizing b z ls  with
  | zero =>
    refine lv_iload_n hx hb dX1_termsEqualTo_4 rfl (lv_at hl 0 rfl) ?_
    refine lv_bipush (v := nI 6) hx hb dX1_termsEqualTo_5 (by decide) ?_
    refine hw_icmp_ge hx hb (by omega) (by omega) dX1_termsEqualTo_7 rfl (fun hc => ?_) (fun hc => absurd hc (by omega))
    refine lv_iload_n hx hb dX1_termsEqualTo_31 rfl (lv_at hl 1 rfl) ?_
    exact W.iret (v := z) hx hb hr (fun t9 ht9 hW9 => ⟨_, rfl, fun i hi => by rw [hI i hi]; congr 1; rw [show b = 6 by omega], ht9⟩) (fun _ h => nomatch h) dX1_termsEqualTo_32
  | succ k ih =>
    refine lv_iload_n hx hb dX1_termsEqualTo_4 rfl (lv_at hl 0 rfl) ?_
    refine lv_bipush (v := nI 6) hx hb dX1_termsEqualTo_5 (by decide) ?_
    refine hw_icmp_ge hx hb (by omega) (by omega) dX1_termsEqualTo_7 rfl (fun hc => absurd hc (by omega)) (fun hc => ?_)
    refine lv_aload_n hx hb dX1_termsEqualTo_10 rfl (lv_at hl 3 rfl) ?_
    refine lv_iload_n hx hb dX1_termsEqualTo_11 rfl (lv_at hl 0 rfl) ?_
    refine hw_iald hx hb hK hP 0 0 rfl rfl (j := b) (by omega) (by first | decide | omega) (v := nI (v b)) (hV b (by omega)) dX1_termsEqualTo_12 ?_
    refine lv_aload_n hx hb dX1_termsEqualTo_13 rfl (lv_at hl 3 rfl) ?_
    refine lv_iload_n hx hb dX1_termsEqualTo_14 rfl (lv_at hl 2 rfl) ?_
    refine hw_iald hx hb hK hP 0 0 rfl rfl (j := a) (by omega) (by first | decide | omega) (v := nI (v a)) (hV a (by omega)) dX1_termsEqualTo_15 ?_
    refine hw_icmp_ne hx hb (hv _ (by omega)) (hv _ (by omega)) dX1_termsEqualTo_16 rfl (fun hc => ?_) (fun hc => ?_)
    · refine lv_iinc (v := nI (b + 1)) (k := 0) hx hb dX1_termsEqualTo_25 hl rfl (hw_inc _) (by decide) rfl (fun ls hl => ?_)
      replace hl : lv_has ls 4 [(3, .int (nI (b + 1))), (2, .int z), (0, .int (nI a)), (1, .ref q)] := hl
      refine lv_goto hx hb dX1_termsEqualTo_28 rfl ?_
      refine ih _ _ _ hl (fun i hi => ?_) (by omega) (by omega)
      rw [hI i hi]; congr 1; rw [eq_iff_iff]; constructor
      · exact fun h => ⟨by omega, h.2⟩
      · exact fun h => ⟨by by_cases hib : i = b; (rw [hib] at h; exact absurd h.2 hc); omega, h.2⟩
    · refine lv_iload_n hx hb dX1_termsEqualTo_19 rfl (lv_at hl 1 rfl) ?_
      refine lv_iconst (v := nI 1) hx hb dX1_termsEqualTo_20 (by decide) ?_
      refine lv_iload_n hx hb dX1_termsEqualTo_21 rfl (lv_at hl 0 rfl) ?_
      refine lv_ishl hx hb dX1_termsEqualTo_22 ?_
      refine lv_ior hx hb dX1_termsEqualTo_23 ?_
      refine lv_istore_n hx hb dX1_termsEqualTo_24 rfl hl (by decide) rfl (fun ls hl => ?_)
      replace hl : lv_has ls 4 [(2, .int (z ||| ((nI 1) <<< ((nI b) &&& 31)))), (3, .int (nI b)), (0, .int (nI a)), (1, .ref q)] := hl
      refine lv_iinc (v := nI (b + 1)) (k := 1) hx hb dX1_termsEqualTo_25 hl rfl (hw_inc _) (by decide) rfl (fun ls hl => ?_)
      replace hl : lv_has ls 4 [(3, .int (nI (b + 1))), (2, .int (z ||| ((nI 1) <<< ((nI b) &&& 31)))), (0, .int (nI a)), (1, .ref q)] := hl
      refine lv_goto hx hb dX1_termsEqualTo_28 rfl ?_
      refine ih _ _ _ hl (fun i hi => ?_) (by omega) (by omega)
      rw [b_or, hI i hi, show nI 1 = 1 from rfl, hb_1 b (by omega) i hi, Bool.eq_iff_iff, Bool.or_eq_true, decide_eq_true_eq, decide_eq_true_eq, decide_eq_true_eq]; constructor
      · rintro (h | h)
        · exact ⟨by omega, h.2⟩
        · rw [h]; exact ⟨by omega, hc⟩
      · exact fun h => (Nat.lt_or_ge i b).elim (fun q => Or.inl ⟨q, h.2⟩) (fun q => Or.inr (by omega))

set_option maxHeartbeats 4000000 in
set_option maxRecDepth 100000 in
/-- the pairs fit -/
theorem k_X1_pairsFit (l : Launch) (D : va_G) (cI cZ cJ : ClassId) (v : Nat → Nat) (V : Nat → Int32) (q : Nat) (sm ot : Nat → Nat → Bool) (n : Nat) (fr to : Nat → Nat) (li : Nat → Bool) (S O Fr To Li : Nat → Int32) (nm : Int32) (h a1 a2 a3 a4 a5 : Nat) (hV : ∀ t, t < 6 → V t = nI (v t)) (hv : ∀ t, t < 6 → v t < 2 ^ 31) (hC : hs_cl S O Fr To Li sm ot n fr to li) : Met l yX1_pairsFit (Cond.code yX1_pairsFit cX1_pairsFit 4 (some .boolean) :: hwG) { frames := 1, cells := 0, slots := 0, locals := 23 } (hp_R [.ref h, .ref q] D cI cZ cJ [(h, .inr (1, [.ref a1, .ref a2, .ref a3, .ref a4, .ref a5, .int (nI n), .int nm])), (a1, .inl (cI, 6, .inl S)), (a2, .inl (cI, 6, .inl O)), (q, .inl (cI, 6, .inl V))]) (vp_Si (fun r => hc_r r (hc_PO v sm ot))) 0 0 (fun _ => False) := by
  refine Met.ofW (cc := cX1_pairsFit) (maxL := 4) (ret := (some .boolean)) (by decide) rfl ?_
  intro p e s m args below meth c s₁ B hml hv
  obtain ⟨rfl, hP, hz⟩ := hv
  have hx := B.exec
  have hb := B.bytes
  have hr := B.returns
  have hts := atoms_spec (ws := (Cond.code yX1_pairsFit cX1_pairsFit 4 (some .boolean) :: hwG)) B.pre
  have htg := fun w h => hts w (List.mem_cons_of_mem _ h)
  have hown : s.vm.findClass RX1 = some m.cls := findClass_of_methodNamed B.named
  have hlocks := B.notSynchronized
  have hK := hz.1
  have hl := lv_entry ([.ref h, .ref q]) (n := 4) (Nat.le_of_ble_eq_true rfl)
  rw [lg_entry_eq]
  generalize (lg_sl ([.ref h, .ref q]) ++ List.replicate (4 - (lg_sl ([.ref h, .ref q])).length) Slot.unset).toArray = ls at hl ⊢
  replace hl : lv_has ls 4 [(0, .ref h), (1, .ref q)] := hl
  refine lv_iconst (v := nI 0) hx hb dX1_pairsFit_0 (by decide) ?_
  refine lv_istore_n hx hb dX1_pairsFit_1 rfl hl (by decide) rfl (fun ls hl => ?_)
  replace hl : lv_has ls 4 [(2, .int (nI 0)), (0, .ref h), (1, .ref q)] := hl
  obtain ⟨b, e_b⟩ : ∃ z : Nat, z = 0 := ⟨_, rfl⟩
  replace hl : lv_has ls 4 [(2, .int (nI b)), (0, .ref h), (1, .ref q)] := by subst e_b; exact hl
  have hI : ∀ x, x < b → ∀ i, i < 6 → (sm x i = true → v x = v i) ∧ (ot x i = true → v x ≠ v i) := by subst e_b; exact fun x hx => absurd hx (Nat.not_lt_zero _)
  have hb6 : b ≤ 6 := by subst e_b; omega
  clear e_b
  obtain ⟨k, hk⟩ : ∃ k : Nat, k = 6 - b := ⟨_, rfl⟩
  induction k generalizing b ls  with
  | zero =>
    refine lv_iload_n hx hb dX1_pairsFit_2 rfl (lv_at hl 0 rfl) ?_
    refine lv_bipush (v := nI 6) hx hb dX1_pairsFit_3 (by decide) ?_
    refine hw_icmp_ge hx hb (by omega) (by omega) dX1_pairsFit_5 rfl (fun hc => ?_) (fun hc => absurd hc (by omega))
    refine lv_iconst (v := nI 1) hx hb dX1_pairsFit_62 (by decide) ?_
    exact W.zret (v := nI 1) hx hb hr (by decide +kernel) (fun t9 ht9 hW9 => ⟨_, rfl, Or.inl ⟨rfl, fun x hx => hI x (by omega)⟩, ht9⟩) (fun _ h => nomatch h) dX1_pairsFit_63
  | succ k ih =>
    refine lv_iload_n hx hb dX1_pairsFit_2 rfl (lv_at hl 0 rfl) ?_
    refine lv_bipush (v := nI 6) hx hb dX1_pairsFit_3 (by decide) ?_
    refine hw_icmp_ge hx hb (by omega) (by omega) dX1_pairsFit_5 rfl (fun hc => absurd hc (by omega)) (fun hc => ?_)
    refine lv_aload_n hx hb dX1_pairsFit_8 rfl (lv_at hl 1 rfl) ?_
    refine va_get (D := D) (ci := 1) (v := .ref a1) (C := RX1) (T := TX1) (N := 7) hx hb htg hi_X1 hown hK hP 0 rfl rfl 0 (by decide) (htg _ hm_30) (fun _ h9 => h9) rfl dX1_pairsFit_9 ?_
    refine lv_iload_n hx hb dX1_pairsFit_12 rfl (lv_at hl 0 rfl) ?_
    refine hw_iald hx hb hK hP 1 0 rfl rfl (j := b) (by omega) (by first | decide | omega) (v := S b) (rfl) dX1_pairsFit_13 ?_
    refine lv_aload_n hx hb dX1_pairsFit_14 rfl (lv_at hl 1 rfl) ?_
    refine va_get (D := D) (ci := 1) (v := .ref a2) (C := RX1) (T := TX1) (N := 7) hx hb htg hi_X1 hown hK hP 0 rfl rfl 1 (by decide) (htg _ hm_31) (fun _ h9 => h9) rfl dX1_pairsFit_15 ?_
    refine lv_iload_n hx hb dX1_pairsFit_18 rfl (lv_at hl 0 rfl) ?_
    refine hw_iald hx hb hK hP 2 0 rfl rfl (j := b) (by omega) (by first | decide | omega) (v := O b) (rfl) dX1_pairsFit_19 ?_
    refine lv_ior hx hb dX1_pairsFit_20 ?_
    have hCb := hC.2.1 b (by omega)
    refine lv_if_eq hx hb dX1_pairsFit_21 rfl (fun h0 => ?_) (fun h0 => ?_)
    · refine lv_iinc (v := nI (b + 1)) (k := 0) hx hb dX1_pairsFit_56 hl rfl (hw_inc _) (by decide) rfl (fun ls hl => ?_)
      replace hl : lv_has ls 4 [(2, .int (nI (b + 1))), (0, .ref h), (1, .ref q)] := hl
      refine lv_goto hx hb dX1_pairsFit_59 rfl ?_
      refine ih _ _ hl (fun x hx i hi => ?_) (by omega) (by omega)
      by_cases hxb : x = b
      · have h9 := hs_rowN hCb h0 i hi
        rw [hxb, h9.1, h9.2]; exact ⟨fun q => (by cases q), fun q => (by cases q)⟩
      · exact hI x (by omega) i hi
    · refine lv_iload_n hx hb dX1_pairsFit_24 rfl (lv_at hl 0 rfl) ?_
      refine lv_aload_n hx hb dX1_pairsFit_25 rfl (lv_at hl 2 rfl) ?_
      refine hw_csi (va_runS (As := [.int (nI b), .ref q]) (rest := []) ⟨hx, hb, hml, hown, htg⟩ (k_X1_termsEqualTo l D cI cZ cJ v V b q hV hv (by omega)) (va_cwS 2 htg (hg_S hm_150 hm_151 hm_2 hm_152) rfl rfl rfl (by decide +kernel) ⟨Nat.le_of_ble_eq_true rfl, Nat.le_of_ble_eq_true rfl⟩) ⟨hp_R_blind, hp_R_pre (hP.sub (ws' := [(q, .inl (cI, 6, .inl V))]) [3] rfl) hz⟩ rfl rfl hl.1 rfl (lv_room (Nat.le_of_ble_eq_true rfl)) dX1_pairsFit_26 ⟨Nat.zero_le _, Nat.zero_le _⟩) (fun r hq => ?_)
      refine lv_istore_n hx hb dX1_pairsFit_29 rfl hl (by decide) rfl (fun ls hl => ?_)
      replace hl : lv_has ls 4 [(3, .int r), (2, .int (nI b)), (0, .ref h), (1, .ref q)] := hl
      refine lv_aload_n hx hb dX1_pairsFit_30 rfl (lv_at hl 2 rfl) ?_
      refine va_get (D := D) (ci := 1) (v := .ref a1) (C := RX1) (T := TX1) (N := 7) hx hb htg hi_X1 hown hK hP 0 rfl rfl 0 (by decide) (htg _ hm_30) (fun _ h9 => h9) rfl dX1_pairsFit_31 ?_
      refine lv_iload_n hx hb dX1_pairsFit_34 rfl (lv_at hl 1 rfl) ?_
      refine hw_iald hx hb hK hP 1 0 rfl rfl (j := b) (by omega) (by first | decide | omega) (v := S b) (rfl) dX1_pairsFit_35 ?_
      refine lv_iload_n hx hb dX1_pairsFit_36 rfl (lv_at hl 0 rfl) ?_
      refine lv_iconst (v := (-1)) hx hb dX1_pairsFit_37 (by decide) ?_
      refine lv_ixor hx hb dX1_pairsFit_38 ?_
      refine lv_iand hx hb dX1_pairsFit_39 ?_
      refine lv_if_ne hx hb dX1_pairsFit_40 rfl (fun h1 => ?_) (fun h1 => ?_)
      · refine lv_iconst (v := nI 0) hx hb dX1_pairsFit_54 (by decide) ?_
        exact W.zret (v := nI 0) hx hb hr (by decide +kernel) (fun t9 ht9 hW9 => ⟨_, rfl, Or.inr ⟨rfl, fun hp => h1 ((hs_rowS (fun i hi => (hCb i hi).1) hq).mpr (fun i hi hs => ((hp b (by omega) i hi).1 hs).symm))⟩, ht9⟩) (fun _ h => nomatch h) dX1_pairsFit_55
      · refine lv_aload_n hx hb dX1_pairsFit_43 rfl (lv_at hl 2 rfl) ?_
        refine va_get (D := D) (ci := 1) (v := .ref a2) (C := RX1) (T := TX1) (N := 7) hx hb htg hi_X1 hown hK hP 0 rfl rfl 1 (by decide) (htg _ hm_31) (fun _ h9 => h9) rfl dX1_pairsFit_44 ?_
        refine lv_iload_n hx hb dX1_pairsFit_47 rfl (lv_at hl 1 rfl) ?_
        refine hw_iald hx hb hK hP 2 0 rfl rfl (j := b) (by omega) (by first | decide | omega) (v := O b) (rfl) dX1_pairsFit_48 ?_
        refine lv_iload_n hx hb dX1_pairsFit_49 rfl (lv_at hl 0 rfl) ?_
        refine lv_iand hx hb dX1_pairsFit_50 ?_
        refine lv_if_eq hx hb dX1_pairsFit_51 rfl (fun h2 => ?_) (fun h2 => ?_)
        · refine lv_iinc (v := nI (b + 1)) (k := 1) hx hb dX1_pairsFit_56 hl rfl (hw_inc _) (by decide) rfl (fun ls hl => ?_)
          replace hl : lv_has ls 4 [(2, .int (nI (b + 1))), (3, .int r), (0, .ref h), (1, .ref q)] := hl
          refine lv_goto hx hb dX1_pairsFit_59 rfl ?_
          replace hl : lv_has ls 4 [(2, .int (nI (b + 1))), (0, .ref h), (1, .ref q)] := lv_sub hl [0, 2, 3] rfl
          refine ih _ _ hl (fun x hx i hi => ?_) (by omega) (by omega)
          by_cases hxb : x = b
          · rw [hxb]; exact ⟨fun q => ((hs_rowS (fun i hi => (hCb i hi).1) hq).mp h1 i hi q).symm, fun q e => (hs_rowO (fun i hi => (hCb i hi).2) hq).mp h2 i hi q e.symm⟩
          · exact hI x (by omega) i hi
        · refine lv_iconst (v := nI 0) hx hb dX1_pairsFit_54 (by decide) ?_
          exact W.zret (v := nI 0) hx hb hr (by decide +kernel) (fun t9 ht9 hW9 => ⟨_, rfl, Or.inr ⟨rfl, fun hp => h2 ((hs_rowO (fun i hi => (hCb i hi).2) hq).mpr (fun i hi hs e => (hp b (by omega) i hi).2 hs e.symm))⟩, ht9⟩) (fun _ h => nomatch h) dX1_pairsFit_55

set_option maxHeartbeats 4000000 in
set_option maxRecDepth 100000 in
/-- Arrays.fill -/
theorem k_J7_fill (l : Launch) (D : va_G) (cI cZ cJ : ClassId) (sz : Nat) (F : Nat → Int32) (n q : Nat) (x : Int32) (hn : n < 2 ^ 31) : Met l yJ7_fill (Cond.code yJ7_fill cJ7_fill 4 none :: hwG) { frames := 0, cells := 0, slots := 0, locals := 0 } (hp_M [.ref q, .int x] D cI cZ cJ [(q, .inl (cI, n, .inl F))] sz) (va_Qv (S := Nat → Int32) (fun G => ∀ j, j < n → G j = x) (fun u t => va_P D vwCl ([(q, .inl (cI, n, .inl u))]) t.heap) (va_A [(q, .inl (cI, n, .inl F))] sz)) 0 0 (va_A [(q, .inl (cI, n, .inl F))] sz) := by
  refine Met.ofW (cc := cJ7_fill) (maxL := 4) (ret := none) (by decide) rfl ?_
  intro p e s m args below meth c s₁ B hml hv
  obtain ⟨rfl, hsz, hP, hz, hD0⟩ := hv
  have hx := B.exec
  have hb := B.bytes
  have hr := B.returns
  have hts := atoms_spec (ws := (Cond.code yJ7_fill cJ7_fill 4 none :: hwG)) B.pre
  have htg := fun w h => hts w (List.mem_cons_of_mem _ h)
  have hown : s.vm.findClass RJ7 = some m.cls := findClass_of_methodNamed B.named
  have hlocks := B.notSynchronized
  have hK := hz.1
  subst hsz
  have hD := hD0.self (sz := s.heap.size)
  generalize hAe : va_A [(q, .inl (cI, n, .inl F))] s.heap.size = A at hD ⊢
  have hA : ∀ q : Nat, s.heap.size ≤ q → A q := fun q h => by rw [← hAe]; exact Or.inr h
  have hS : va_S A s.heap s.heap [] := va_S.rf
  have hl := lv_entry ([.ref q, .int x]) (n := 4) (Nat.le_of_ble_eq_true rfl)
  rw [lg_entry_eq]
  generalize (lg_sl ([.ref q, .int x]) ++ List.replicate (4 - (lg_sl ([.ref q, .int x])).length) Slot.unset).toArray = ls at hl ⊢
  replace hl : lv_has ls 4 [(0, .ref q), (1, .int x)] := hl
  replace hP : va_P D vwCl [(q, .inl (cI, n, .inl F))] s.heap := hP
  refine lv_iconst (v := nI 0) hx hb dJ7_fill_0 (by decide) ?_
  refine lv_istore_n hx hb dJ7_fill_1 rfl hl (by decide) rfl (fun ls hl => ?_)
  replace hl : lv_has ls 4 [(2, .int (nI 0)), (0, .ref q), (1, .int x)] := hl
  refine lv_aload_n hx hb dJ7_fill_2 rfl (lv_at hl 1 rfl) ?_
  refine va_alen hx hb hK hP 0 0 rfl rfl (v := nI n) rfl dJ7_fill_3 ?_
  refine lv_istore_n hx hb dJ7_fill_4 rfl hl (by decide) rfl (fun ls hl => ?_)
  replace hl : lv_has ls 4 [(3, .int (nI n)), (2, .int (nI 0)), (0, .ref q), (1, .int x)] := hl
  obtain ⟨H, e_H⟩ : ∃ z : Heap, z = s.heap := ⟨_, rfl⟩
  obtain ⟨locs, e_locs⟩ : ∃ z : List Loc, z = [] := ⟨_, rfl⟩
  replace hP : va_P D vwCl [(q, .inl (cI, n, .inl F))] H := by subst e_H; exact hP
  replace hS : va_S A s.heap H locs := by subst e_H e_locs; exact hS
  rw [← e_H, ← e_locs]
  clear e_H e_locs
  obtain ⟨b, e_b⟩ : ∃ z : Nat, z = 0 := ⟨_, rfl⟩
  obtain ⟨G, e_G⟩ : ∃ z : Nat → Int32, z = F := ⟨_, rfl⟩
  replace hl : lv_has ls 4 [(3, .int (nI n)), (2, .int (nI b)), (0, .ref q), (1, .int x)] := by subst e_b e_G; exact hl
  replace hP : va_P D vwCl [(q, .inl (cI, n, .inl G))] H := by subst e_b e_G; exact hP
  replace hD : va_D A [(q, .inl (cI, n, .inl G))] := by subst e_b e_G; exact hD
  have hI : ∀ j, j < b → G j = x := by subst e_b e_G; exact fun j hj => absurd hj (Nat.not_lt_zero _)
  have hbn : b ≤ n := by subst e_b e_G; omega
  clear e_b e_G
  obtain ⟨k, hk⟩ : ∃ k : Nat, k = n - b := ⟨_, rfl⟩
  induction k generalizing b G ls H locs  with
  | zero =>
    refine lv_iload_n hx hb dJ7_fill_5 rfl (lv_at hl 1 rfl) ?_
    refine lv_iload_n hx hb dJ7_fill_6 rfl (lv_at hl 0 rfl) ?_
    refine hw_icmp_ge hx hb (by omega) (by omega) dJ7_fill_7 rfl (fun hc => ?_) (fun hc => absurd hc (by omega))
    exact W.vret hx hb hr (fun t9 ht9 hW9 => ⟨⟨G, rfl, fun j hj => hI j (by omega), by show va_P D vwCl [(q, .inl (cI, n, .inl G))] t9.heap; rw [ht9]; exact hP⟩, hS.F ht9⟩) hS.2.2 dJ7_fill_20
  | succ k ih =>
    refine lv_iload_n hx hb dJ7_fill_5 rfl (lv_at hl 1 rfl) ?_
    refine lv_iload_n hx hb dJ7_fill_6 rfl (lv_at hl 0 rfl) ?_
    refine hw_icmp_ge hx hb (by omega) (by omega) dJ7_fill_7 rfl (fun hc => absurd hc (by omega)) (fun hc => ?_)
    refine lv_aload_n hx hb dJ7_fill_10 rfl (lv_at hl 2 rfl) ?_
    refine lv_iload_n hx hb dJ7_fill_11 rfl (lv_at hl 1 rfl) ?_
    refine lv_iload_n hx hb dJ7_fill_12 rfl (lv_at hl 3 rfl) ?_
    refine hw_iast hx hb hK hP hD hS 0 0 rfl rfl (j := b) (by omega) (by first | decide | omega) dJ7_fill_13 (fun H locs hP hD hS => ?_)
    replace hP : va_P D vwCl [(q, .inl (cI, n, .inl (upd G b x)))] H := hP
    replace hD : va_D A [(q, .inl (cI, n, .inl (upd G b x)))] := hD
    refine lv_iinc (v := nI (b + 1)) (k := 1) hx hb dJ7_fill_14 hl rfl (hw_inc _) (by decide) rfl (fun ls hl => ?_)
    replace hl : lv_has ls 4 [(2, .int (nI (b + 1))), (3, .int (nI n)), (0, .ref q), (1, .int x)] := hl
    refine lv_goto hx hb dJ7_fill_17 rfl ?_
    replace hl : lv_has ls 4 [(3, .int (nI n)), (2, .int (nI (b + 1))), (0, .ref q), (1, .int x)] := lv_sub hl [1, 0, 2, 3] rfl
    refine ih (hS := hS) (hl := hl) (hP := hP) (hD := hD) (hI := (fun j hj => ?_)) (hbn := (by omega)) (hk := (by omega))
    unfold upd; by_cases hjb : j = b
    · rw [if_pos hjb]
    · rw [if_neg hjb]; exact hI j (by omega)

set_option maxHeartbeats 4000000 in
set_option maxRecDepth 100000 in
/-- a pair more -/
theorem k_X1_addPair (l : Launch) (D : va_G) (cI cZ cJ : ClassId) (sz : Nat) (a b : Nat) (o : Bool) (n : Nat) (S O : Nat → Int32) (nm : Int32) (h a1 a2 a3 a4 a5 : Nat) (ha : a < 6) (hb6 : b < 6) : Met l yX1_addPair (Cond.code yX1_addPair cX1_addPair 4 none :: hwG) { frames := 0, cells := 0, slots := 0, locals := 0 } (hp_M [.ref h, .int (nI a), .int (nI b), .int (hc_b o)] D cI cZ cJ [(h, .inr (1, [.ref a1, .ref a2, .ref a3, .ref a4, .ref a5, .int (nI n), .int nm])), (a1, .inl (cI, 6, .inl S)), (a2, .inl (cI, 6, .inl O))] sz) (va_Qv (S := (Nat → Int32) × (Nat → Int32) × Int32) (fun u => u.1 = (bif o then S else upd S a (S a ||| (nI 1 <<< (nI b &&& 31)))) ∧ u.2.1 = (bif o then upd O a (O a ||| (nI 1 <<< (nI b &&& 31))) else O) ∧ u.2.2 = nm ||| ((nI 1 <<< (nI a &&& 31)) ||| (nI 1 <<< (nI b &&& 31)))) (fun u t => va_P D vwCl ([(h, .inr (1, [.ref a1, .ref a2, .ref a3, .ref a4, .ref a5, .int (nI n), .int u.2.2])), (a1, .inl (cI, 6, .inl u.1)), (a2, .inl (cI, 6, .inl u.2.1))]) t.heap) (va_A [(h, .inr (1, [.ref a1, .ref a2, .ref a3, .ref a4, .ref a5, .int (nI n), .int nm])), (a1, .inl (cI, 6, .inl S)), (a2, .inl (cI, 6, .inl O))] sz)) 0 0 (va_A [(h, .inr (1, [.ref a1, .ref a2, .ref a3, .ref a4, .ref a5, .int (nI n), .int nm])), (a1, .inl (cI, 6, .inl S)), (a2, .inl (cI, 6, .inl O))] sz) := by
  refine Met.ofW (cc := cX1_addPair) (maxL := 4) (ret := none) (by decide) rfl ?_
  intro p e s m args below meth c s₁ B hml hv
  obtain ⟨rfl, hsz, hP, hz, hD0⟩ := hv
  have hx := B.exec
  have hb := B.bytes
  have hr := B.returns
  have hts := atoms_spec (ws := (Cond.code yX1_addPair cX1_addPair 4 none :: hwG)) B.pre
  have htg := fun w h => hts w (List.mem_cons_of_mem _ h)
  have hown : s.vm.findClass RX1 = some m.cls := findClass_of_methodNamed B.named
  have hlocks := B.notSynchronized
  have hK := hz.1
  subst hsz
  have hD := hD0.self (sz := s.heap.size)
  generalize hAe : va_A [(h, .inr (1, [.ref a1, .ref a2, .ref a3, .ref a4, .ref a5, .int (nI n), .int nm])), (a1, .inl (cI, 6, .inl S)), (a2, .inl (cI, 6, .inl O))] s.heap.size = A at hD ⊢
  have hA : ∀ q : Nat, s.heap.size ≤ q → A q := fun q h => by rw [← hAe]; exact Or.inr h
  have hS : va_S A s.heap s.heap [] := va_S.rf
  have hl := lv_entry ([.ref h, .int (nI a), .int (nI b), .int (hc_b o)]) (n := 4) (Nat.le_of_ble_eq_true rfl)
  rw [lg_entry_eq]
  generalize (lg_sl ([.ref h, .int (nI a), .int (nI b), .int (hc_b o)]) ++ List.replicate (4 - (lg_sl ([.ref h, .int (nI a), .int (nI b), .int (hc_b o)])).length) Slot.unset).toArray = ls at hl ⊢
  replace hl : lv_has ls 4 [(0, .ref h), (1, .int (nI a)), (2, .int (nI b)), (3, .int (hc_b o))] := hl
  replace hP : va_P D vwCl [(h, .inr (1, [.ref a1, .ref a2, .ref a3, .ref a4, .ref a5, .int (nI n), .int nm])), (a1, .inl (cI, 6, .inl S)), (a2, .inl (cI, 6, .inl O))] s.heap := hP
  refine lv_iload_n hx hb dX1_addPair_0 rfl (lv_at hl 3 rfl) ?_
  refine hw_ifeq_b hx hb dX1_addPair_1 rfl (fun hc => ?_) (fun hc => ?_)
  · refine lv_aload_n hx hb dX1_addPair_19 rfl (lv_at hl 0 rfl) ?_
    refine va_get (D := D) (ci := 1) (v := .ref a1) (C := RX1) (T := TX1) (N := 7) hx hb htg hi_X1 hown hK hP 0 rfl rfl 0 (by decide) (htg _ hm_30) (fun _ h9 => h9) rfl dX1_addPair_20 ?_
    refine lv_iload_n hx hb dX1_addPair_23 rfl (lv_at hl 1 rfl) ?_
    refine lv_dup2_11 hx hb dX1_addPair_24 rfl rfl ?_
    refine hw_iald hx hb hK hP 1 0 rfl rfl (j := a) (by omega) (by first | decide | omega) (v := S a) (rfl) dX1_addPair_25 ?_
    refine lv_iconst (v := nI 1) hx hb dX1_addPair_26 (by decide) ?_
    refine lv_iload_n hx hb dX1_addPair_27 rfl (lv_at hl 2 rfl) ?_
    refine lv_ishl hx hb dX1_addPair_28 ?_
    refine lv_ior hx hb dX1_addPair_29 ?_
    refine hw_iast hx hb hK hP hD hS 1 0 rfl rfl (j := a) (by omega) (by first | decide | omega) dX1_addPair_30 (fun H locs hP hD hS => ?_)
    replace hP : va_P D vwCl [(h, .inr (1, [.ref a1, .ref a2, .ref a3, .ref a4, .ref a5, .int (nI n), .int nm])), (a1, .inl (cI, 6, .inl (upd S a ((S a) ||| ((nI 1) <<< ((nI b) &&& 31)))))), (a2, .inl (cI, 6, .inl O))] H := hP
    replace hD : va_D A [(h, .inr (1, [.ref a1, .ref a2, .ref a3, .ref a4, .ref a5, .int (nI n), .int nm])), (a1, .inl (cI, 6, .inl (upd S a ((S a) ||| ((nI 1) <<< ((nI b) &&& 31)))))), (a2, .inl (cI, 6, .inl O))] := hD
    refine lv_aload_n hx hb dX1_addPair_31 rfl (lv_at hl 0 rfl) ?_
    refine lv_dup hx hb dX1_addPair_32 rfl ?_
    refine va_get (D := D) (ci := 1) (v := .int nm) (C := RX1) (T := TX1) (N := 7) hx hb htg hi_X1 hown hK hP 0 rfl rfl 6 (by decide) (htg _ hm_45) (fun _ h9 => h9) rfl dX1_addPair_33 ?_
    refine lv_iconst (v := nI 1) hx hb dX1_addPair_36 (by decide) ?_
    refine lv_iload_n hx hb dX1_addPair_37 rfl (lv_at hl 1 rfl) ?_
    refine lv_ishl hx hb dX1_addPair_38 ?_
    refine lv_iconst (v := nI 1) hx hb dX1_addPair_39 (by decide) ?_
    refine lv_iload_n hx hb dX1_addPair_40 rfl (lv_at hl 2 rfl) ?_
    refine lv_ishl hx hb dX1_addPair_41 ?_
    refine lv_ior hx hb dX1_addPair_42 ?_
    refine lv_ior hx hb dX1_addPair_43 ?_
    refine va_put (D := D) (ci := 1) (v := .int (nm ||| (((nI 1) <<< ((nI a) &&& 31)) ||| ((nI 1) <<< ((nI b) &&& 31))))) (ty := .int) (C := RX1) (T := TX1) (N := 7) hx hb htg hi_X1 tyX1 tyX1_ok nmX1 hown hK hP hD hS 0 rfl rfl 6 (by decide) (htg _ hm_45) (fun _ h9 => h9) rfl (by decide +kernel) rfl rfl (Nat.le_of_ble_eq_true rfl) dX1_addPair_44 (fun H locs hP hD hS => ?_)
    replace hP : va_P D vwCl [(h, .inr (1, [.ref a1, .ref a2, .ref a3, .ref a4, .ref a5, .int (nI n), .int (nm ||| (((nI 1) <<< ((nI a) &&& 31)) ||| ((nI 1) <<< ((nI b) &&& 31))))])), (a1, .inl (cI, 6, .inl (upd S a ((S a) ||| ((nI 1) <<< ((nI b) &&& 31)))))), (a2, .inl (cI, 6, .inl O))] H := hP
    replace hD : va_D A [(h, .inr (1, [.ref a1, .ref a2, .ref a3, .ref a4, .ref a5, .int (nI n), .int (nm ||| (((nI 1) <<< ((nI a) &&& 31)) ||| ((nI 1) <<< ((nI b) &&& 31))))])), (a1, .inl (cI, 6, .inl (upd S a ((S a) ||| ((nI 1) <<< ((nI b) &&& 31)))))), (a2, .inl (cI, 6, .inl O))] := hD
    exact W.vret hx hb hr (fun t9 ht9 hW9 => ⟨⟨(upd S a ((S a) ||| ((nI 1) <<< ((nI b) &&& 31))), O, nm ||| (((nI 1) <<< ((nI a) &&& 31)) ||| ((nI 1) <<< ((nI b) &&& 31)))), rfl, by subst hc; exact ⟨rfl, rfl, rfl⟩, by show va_P D vwCl [(h, .inr (1, [.ref a1, .ref a2, .ref a3, .ref a4, .ref a5, .int (nI n), .int (nm ||| (((nI 1) <<< ((nI a) &&& 31)) ||| ((nI 1) <<< ((nI b) &&& 31))))])), (a1, .inl (cI, 6, .inl (upd S a ((S a) ||| ((nI 1) <<< ((nI b) &&& 31)))))), (a2, .inl (cI, 6, .inl O))] t9.heap; rw [ht9]; exact hP⟩, hS.F ht9⟩) hS.2.2 dX1_addPair_47
  · refine lv_aload_n hx hb dX1_addPair_4 rfl (lv_at hl 0 rfl) ?_
    refine va_get (D := D) (ci := 1) (v := .ref a2) (C := RX1) (T := TX1) (N := 7) hx hb htg hi_X1 hown hK hP 0 rfl rfl 1 (by decide) (htg _ hm_31) (fun _ h9 => h9) rfl dX1_addPair_5 ?_
    refine lv_iload_n hx hb dX1_addPair_8 rfl (lv_at hl 1 rfl) ?_
    refine lv_dup2_11 hx hb dX1_addPair_9 rfl rfl ?_
    refine hw_iald hx hb hK hP 2 0 rfl rfl (j := a) (by omega) (by first | decide | omega) (v := O a) (rfl) dX1_addPair_10 ?_
    refine lv_iconst (v := nI 1) hx hb dX1_addPair_11 (by decide) ?_
    refine lv_iload_n hx hb dX1_addPair_12 rfl (lv_at hl 2 rfl) ?_
    refine lv_ishl hx hb dX1_addPair_13 ?_
    refine lv_ior hx hb dX1_addPair_14 ?_
    refine hw_iast hx hb hK hP hD hS 2 0 rfl rfl (j := a) (by omega) (by first | decide | omega) dX1_addPair_15 (fun H locs hP hD hS => ?_)
    replace hP : va_P D vwCl [(h, .inr (1, [.ref a1, .ref a2, .ref a3, .ref a4, .ref a5, .int (nI n), .int nm])), (a1, .inl (cI, 6, .inl S)), (a2, .inl (cI, 6, .inl (upd O a ((O a) ||| ((nI 1) <<< ((nI b) &&& 31))))))] H := hP
    replace hD : va_D A [(h, .inr (1, [.ref a1, .ref a2, .ref a3, .ref a4, .ref a5, .int (nI n), .int nm])), (a1, .inl (cI, 6, .inl S)), (a2, .inl (cI, 6, .inl (upd O a ((O a) ||| ((nI 1) <<< ((nI b) &&& 31))))))] := hD
    refine lv_goto hx hb dX1_addPair_16 rfl ?_
    refine lv_aload_n hx hb dX1_addPair_31 rfl (lv_at hl 0 rfl) ?_
    refine lv_dup hx hb dX1_addPair_32 rfl ?_
    refine va_get (D := D) (ci := 1) (v := .int nm) (C := RX1) (T := TX1) (N := 7) hx hb htg hi_X1 hown hK hP 0 rfl rfl 6 (by decide) (htg _ hm_45) (fun _ h9 => h9) rfl dX1_addPair_33 ?_
    refine lv_iconst (v := nI 1) hx hb dX1_addPair_36 (by decide) ?_
    refine lv_iload_n hx hb dX1_addPair_37 rfl (lv_at hl 1 rfl) ?_
    refine lv_ishl hx hb dX1_addPair_38 ?_
    refine lv_iconst (v := nI 1) hx hb dX1_addPair_39 (by decide) ?_
    refine lv_iload_n hx hb dX1_addPair_40 rfl (lv_at hl 2 rfl) ?_
    refine lv_ishl hx hb dX1_addPair_41 ?_
    refine lv_ior hx hb dX1_addPair_42 ?_
    refine lv_ior hx hb dX1_addPair_43 ?_
    refine va_put (D := D) (ci := 1) (v := .int (nm ||| (((nI 1) <<< ((nI a) &&& 31)) ||| ((nI 1) <<< ((nI b) &&& 31))))) (ty := .int) (C := RX1) (T := TX1) (N := 7) hx hb htg hi_X1 tyX1 tyX1_ok nmX1 hown hK hP hD hS 0 rfl rfl 6 (by decide) (htg _ hm_45) (fun _ h9 => h9) rfl (by decide +kernel) rfl rfl (Nat.le_of_ble_eq_true rfl) dX1_addPair_44 (fun H locs hP hD hS => ?_)
    replace hP : va_P D vwCl [(h, .inr (1, [.ref a1, .ref a2, .ref a3, .ref a4, .ref a5, .int (nI n), .int (nm ||| (((nI 1) <<< ((nI a) &&& 31)) ||| ((nI 1) <<< ((nI b) &&& 31))))])), (a1, .inl (cI, 6, .inl S)), (a2, .inl (cI, 6, .inl (upd O a ((O a) ||| ((nI 1) <<< ((nI b) &&& 31))))))] H := hP
    replace hD : va_D A [(h, .inr (1, [.ref a1, .ref a2, .ref a3, .ref a4, .ref a5, .int (nI n), .int (nm ||| (((nI 1) <<< ((nI a) &&& 31)) ||| ((nI 1) <<< ((nI b) &&& 31))))])), (a1, .inl (cI, 6, .inl S)), (a2, .inl (cI, 6, .inl (upd O a ((O a) ||| ((nI 1) <<< ((nI b) &&& 31))))))] := hD
    exact W.vret hx hb hr (fun t9 ht9 hW9 => ⟨⟨(S, upd O a ((O a) ||| ((nI 1) <<< ((nI b) &&& 31))), nm ||| (((nI 1) <<< ((nI a) &&& 31)) ||| ((nI 1) <<< ((nI b) &&& 31)))), rfl, by subst hc; exact ⟨rfl, rfl, rfl⟩, by show va_P D vwCl [(h, .inr (1, [.ref a1, .ref a2, .ref a3, .ref a4, .ref a5, .int (nI n), .int (nm ||| (((nI 1) <<< ((nI a) &&& 31)) ||| ((nI 1) <<< ((nI b) &&& 31))))])), (a1, .inl (cI, 6, .inl S)), (a2, .inl (cI, 6, .inl (upd O a ((O a) ||| ((nI 1) <<< ((nI b) &&& 31))))))] t9.heap; rw [ht9]; exact hP⟩, hS.F ht9⟩) hS.2.2 dX1_addPair_47

set_option maxHeartbeats 4000000 in
set_option maxRecDepth 100000 in
/-- a piece more -/
theorem k_X1_addPiece (l : Launch) (D : va_G) (cI cZ cJ : ClassId) (sz : Nat) (x y : Nat) (o : Bool) (n : Nat) (Fr To Li : Nat → Int32) (nm : Int32) (h a1 a2 a3 a4 a5 : Nat) (hn : n < 5) : Met l yX1_addPiece (Cond.code yX1_addPiece cX1_addPiece 4 none :: hwG) { frames := 0, cells := 0, slots := 0, locals := 0 } (hp_M [.ref h, .int (nI x), .int (nI y), .int (hc_b o)] D cI cZ cJ [(h, .inr (1, [.ref a1, .ref a2, .ref a3, .ref a4, .ref a5, .int (nI n), .int nm])), (a3, .inl (cI, 5, .inl Fr)), (a4, .inl (cI, 5, .inl To)), (a5, .inl (cZ, 5, .inl Li))] sz) (va_Qv (S := (Nat → Int32) × (Nat → Int32) × (Nat → Int32) × Int32 × Int32) (fun u => u.1 = upd Fr n (nI x) ∧ u.2.1 = upd To n (nI y) ∧ u.2.2.1 = upd Li n (hc_b o) ∧ u.2.2.2.1 = nI (n + 1) ∧ u.2.2.2.2 = nm ||| ((nI 1 <<< (nI x &&& 31)) ||| (nI 1 <<< (nI y &&& 31)))) (fun u t => va_P D vwCl ([(h, .inr (1, [.ref a1, .ref a2, .ref a3, .ref a4, .ref a5, .int u.2.2.2.1, .int u.2.2.2.2])), (a3, .inl (cI, 5, .inl u.1)), (a4, .inl (cI, 5, .inl u.2.1)), (a5, .inl (cZ, 5, .inl u.2.2.1))]) t.heap) (va_A [(h, .inr (1, [.ref a1, .ref a2, .ref a3, .ref a4, .ref a5, .int (nI n), .int nm])), (a3, .inl (cI, 5, .inl Fr)), (a4, .inl (cI, 5, .inl To)), (a5, .inl (cZ, 5, .inl Li))] sz)) 0 0 (va_A [(h, .inr (1, [.ref a1, .ref a2, .ref a3, .ref a4, .ref a5, .int (nI n), .int nm])), (a3, .inl (cI, 5, .inl Fr)), (a4, .inl (cI, 5, .inl To)), (a5, .inl (cZ, 5, .inl Li))] sz) := by
  refine Met.ofW (cc := cX1_addPiece) (maxL := 4) (ret := none) (by decide) rfl ?_
  intro p e s m args below meth c s₁ B hml hv
  obtain ⟨rfl, hsz, hP, hz, hD0⟩ := hv
  have hx := B.exec
  have hb := B.bytes
  have hr := B.returns
  have hts := atoms_spec (ws := (Cond.code yX1_addPiece cX1_addPiece 4 none :: hwG)) B.pre
  have htg := fun w h => hts w (List.mem_cons_of_mem _ h)
  have hown : s.vm.findClass RX1 = some m.cls := findClass_of_methodNamed B.named
  have hlocks := B.notSynchronized
  have hK := hz.1
  subst hsz
  have hD := hD0.self (sz := s.heap.size)
  generalize hAe : va_A [(h, .inr (1, [.ref a1, .ref a2, .ref a3, .ref a4, .ref a5, .int (nI n), .int nm])), (a3, .inl (cI, 5, .inl Fr)), (a4, .inl (cI, 5, .inl To)), (a5, .inl (cZ, 5, .inl Li))] s.heap.size = A at hD ⊢
  have hA : ∀ q : Nat, s.heap.size ≤ q → A q := fun q h => by rw [← hAe]; exact Or.inr h
  have hS : va_S A s.heap s.heap [] := va_S.rf
  have hl := lv_entry ([.ref h, .int (nI x), .int (nI y), .int (hc_b o)]) (n := 4) (Nat.le_of_ble_eq_true rfl)
  rw [lg_entry_eq]
  generalize (lg_sl ([.ref h, .int (nI x), .int (nI y), .int (hc_b o)]) ++ List.replicate (4 - (lg_sl ([.ref h, .int (nI x), .int (nI y), .int (hc_b o)])).length) Slot.unset).toArray = ls at hl ⊢
  replace hl : lv_has ls 4 [(0, .ref h), (1, .int (nI x)), (2, .int (nI y)), (3, .int (hc_b o))] := hl
  replace hP : va_P D vwCl [(h, .inr (1, [.ref a1, .ref a2, .ref a3, .ref a4, .ref a5, .int (nI n), .int nm])), (a3, .inl (cI, 5, .inl Fr)), (a4, .inl (cI, 5, .inl To)), (a5, .inl (cZ, 5, .inl Li))] s.heap := hP
  refine lv_aload_n hx hb dX1_addPiece_0 rfl (lv_at hl 0 rfl) ?_
  refine va_get (D := D) (ci := 1) (v := .ref a3) (C := RX1) (T := TX1) (N := 7) hx hb htg hi_X1 hown hK hP 0 rfl rfl 2 (by decide) (htg _ hm_32) (fun _ h9 => h9) rfl dX1_addPiece_1 ?_
  refine lv_aload_n hx hb dX1_addPiece_4 rfl (lv_at hl 0 rfl) ?_
  refine va_get (D := D) (ci := 1) (v := .int (nI n)) (C := RX1) (T := TX1) (N := 7) hx hb htg hi_X1 hown hK hP 0 rfl rfl 5 (by decide) (htg _ hm_41) (fun _ h9 => h9) rfl dX1_addPiece_5 ?_
  refine lv_iload_n hx hb dX1_addPiece_8 rfl (lv_at hl 1 rfl) ?_
  refine hw_iast hx hb hK hP hD hS 1 0 rfl rfl (j := n) (by omega) (by first | decide | omega) dX1_addPiece_9 (fun H locs hP hD hS => ?_)
  replace hP : va_P D vwCl [(h, .inr (1, [.ref a1, .ref a2, .ref a3, .ref a4, .ref a5, .int (nI n), .int nm])), (a3, .inl (cI, 5, .inl (upd Fr n (nI x)))), (a4, .inl (cI, 5, .inl To)), (a5, .inl (cZ, 5, .inl Li))] H := hP
  replace hD : va_D A [(h, .inr (1, [.ref a1, .ref a2, .ref a3, .ref a4, .ref a5, .int (nI n), .int nm])), (a3, .inl (cI, 5, .inl (upd Fr n (nI x)))), (a4, .inl (cI, 5, .inl To)), (a5, .inl (cZ, 5, .inl Li))] := hD
  refine lv_aload_n hx hb dX1_addPiece_10 rfl (lv_at hl 0 rfl) ?_
  refine va_get (D := D) (ci := 1) (v := .ref a4) (C := RX1) (T := TX1) (N := 7) hx hb htg hi_X1 hown hK hP 0 rfl rfl 3 (by decide) (htg _ hm_35) (fun _ h9 => h9) rfl dX1_addPiece_11 ?_
  refine lv_aload_n hx hb dX1_addPiece_14 rfl (lv_at hl 0 rfl) ?_
  refine va_get (D := D) (ci := 1) (v := .int (nI n)) (C := RX1) (T := TX1) (N := 7) hx hb htg hi_X1 hown hK hP 0 rfl rfl 5 (by decide) (htg _ hm_41) (fun _ h9 => h9) rfl dX1_addPiece_15 ?_
  refine lv_iload_n hx hb dX1_addPiece_18 rfl (lv_at hl 2 rfl) ?_
  refine hw_iast hx hb hK hP hD hS 2 0 rfl rfl (j := n) (by omega) (by first | decide | omega) dX1_addPiece_19 (fun H locs hP hD hS => ?_)
  replace hP : va_P D vwCl [(h, .inr (1, [.ref a1, .ref a2, .ref a3, .ref a4, .ref a5, .int (nI n), .int nm])), (a3, .inl (cI, 5, .inl (upd Fr n (nI x)))), (a4, .inl (cI, 5, .inl (upd To n (nI y)))), (a5, .inl (cZ, 5, .inl Li))] H := hP
  replace hD : va_D A [(h, .inr (1, [.ref a1, .ref a2, .ref a3, .ref a4, .ref a5, .int (nI n), .int nm])), (a3, .inl (cI, 5, .inl (upd Fr n (nI x)))), (a4, .inl (cI, 5, .inl (upd To n (nI y)))), (a5, .inl (cZ, 5, .inl Li))] := hD
  refine lv_aload_n hx hb dX1_addPiece_20 rfl (lv_at hl 0 rfl) ?_
  refine va_get (D := D) (ci := 1) (v := .ref a5) (C := RX1) (T := TX1) (N := 7) hx hb htg hi_X1 hown hK hP 0 rfl rfl 4 (by decide) (htg _ hm_38) (fun _ h9 => h9) rfl dX1_addPiece_21 ?_
  refine lv_aload_n hx hb dX1_addPiece_24 rfl (lv_at hl 0 rfl) ?_
  refine va_get (D := D) (ci := 1) (v := .int (nI n)) (C := RX1) (T := TX1) (N := 7) hx hb htg hi_X1 hown hK hP 0 rfl rfl 5 (by decide) (htg _ hm_41) (fun _ h9 => h9) rfl dX1_addPiece_25 ?_
  refine lv_iload_n hx hb dX1_addPiece_28 rfl (lv_at hl 3 rfl) ?_
  refine hw_zast hx hb hK hP hD hS 3 1 rfl rfl (j := n) (by omega) (by first | decide | omega) dX1_addPiece_29 (fun H locs hP hD hS => ?_)
  replace hP : va_P D vwCl [(h, .inr (1, [.ref a1, .ref a2, .ref a3, .ref a4, .ref a5, .int (nI n), .int nm])), (a3, .inl (cI, 5, .inl (upd Fr n (nI x)))), (a4, .inl (cI, 5, .inl (upd To n (nI y)))), (a5, .inl (cZ, 5, .inl (upd Li n (vp_nar .boolean (hc_b o)))))] H := hP
  replace hD : va_D A [(h, .inr (1, [.ref a1, .ref a2, .ref a3, .ref a4, .ref a5, .int (nI n), .int nm])), (a3, .inl (cI, 5, .inl (upd Fr n (nI x)))), (a4, .inl (cI, 5, .inl (upd To n (nI y)))), (a5, .inl (cZ, 5, .inl (upd Li n (vp_nar .boolean (hc_b o)))))] := hD
  refine lv_aload_n hx hb dX1_addPiece_30 rfl (lv_at hl 0 rfl) ?_
  refine lv_dup hx hb dX1_addPiece_31 rfl ?_
  refine va_get (D := D) (ci := 1) (v := .int (nI n)) (C := RX1) (T := TX1) (N := 7) hx hb htg hi_X1 hown hK hP 0 rfl rfl 5 (by decide) (htg _ hm_41) (fun _ h9 => h9) rfl dX1_addPiece_32 ?_
  refine lv_iconst (v := nI 1) hx hb dX1_addPiece_35 (by decide) ?_
  refine hw_iadd hx hb dX1_addPiece_36 ?_
  refine va_put (D := D) (ci := 1) (v := .int (nI (n + 1))) (ty := .int) (C := RX1) (T := TX1) (N := 7) hx hb htg hi_X1 tyX1 tyX1_ok nmX1 hown hK hP hD hS 0 rfl rfl 5 (by decide) (htg _ hm_41) (fun _ h9 => h9) rfl (by decide +kernel) rfl rfl (Nat.le_of_ble_eq_true rfl) dX1_addPiece_37 (fun H locs hP hD hS => ?_)
  replace hP : va_P D vwCl [(h, .inr (1, [.ref a1, .ref a2, .ref a3, .ref a4, .ref a5, .int (nI (n + 1)), .int nm])), (a3, .inl (cI, 5, .inl (upd Fr n (nI x)))), (a4, .inl (cI, 5, .inl (upd To n (nI y)))), (a5, .inl (cZ, 5, .inl (upd Li n (vp_nar .boolean (hc_b o)))))] H := hP
  replace hD : va_D A [(h, .inr (1, [.ref a1, .ref a2, .ref a3, .ref a4, .ref a5, .int (nI (n + 1)), .int nm])), (a3, .inl (cI, 5, .inl (upd Fr n (nI x)))), (a4, .inl (cI, 5, .inl (upd To n (nI y)))), (a5, .inl (cZ, 5, .inl (upd Li n (vp_nar .boolean (hc_b o)))))] := hD
  refine lv_aload_n hx hb dX1_addPiece_40 rfl (lv_at hl 0 rfl) ?_
  refine lv_dup hx hb dX1_addPiece_41 rfl ?_
  refine va_get (D := D) (ci := 1) (v := .int nm) (C := RX1) (T := TX1) (N := 7) hx hb htg hi_X1 hown hK hP 0 rfl rfl 6 (by decide) (htg _ hm_45) (fun _ h9 => h9) rfl dX1_addPiece_42 ?_
  refine lv_iconst (v := nI 1) hx hb dX1_addPiece_45 (by decide) ?_
  refine lv_iload_n hx hb dX1_addPiece_46 rfl (lv_at hl 1 rfl) ?_
  refine lv_ishl hx hb dX1_addPiece_47 ?_
  refine lv_iconst (v := nI 1) hx hb dX1_addPiece_48 (by decide) ?_
  refine lv_iload_n hx hb dX1_addPiece_49 rfl (lv_at hl 2 rfl) ?_
  refine lv_ishl hx hb dX1_addPiece_50 ?_
  refine lv_ior hx hb dX1_addPiece_51 ?_
  refine lv_ior hx hb dX1_addPiece_52 ?_
  refine va_put (D := D) (ci := 1) (v := .int (nm ||| (((nI 1) <<< ((nI x) &&& 31)) ||| ((nI 1) <<< ((nI y) &&& 31))))) (ty := .int) (C := RX1) (T := TX1) (N := 7) hx hb htg hi_X1 tyX1 tyX1_ok nmX1 hown hK hP hD hS 0 rfl rfl 6 (by decide) (htg _ hm_45) (fun _ h9 => h9) rfl (by decide +kernel) rfl rfl (Nat.le_of_ble_eq_true rfl) dX1_addPiece_53 (fun H locs hP hD hS => ?_)
  replace hP : va_P D vwCl [(h, .inr (1, [.ref a1, .ref a2, .ref a3, .ref a4, .ref a5, .int (nI (n + 1)), .int (nm ||| (((nI 1) <<< ((nI x) &&& 31)) ||| ((nI 1) <<< ((nI y) &&& 31))))])), (a3, .inl (cI, 5, .inl (upd Fr n (nI x)))), (a4, .inl (cI, 5, .inl (upd To n (nI y)))), (a5, .inl (cZ, 5, .inl (upd Li n (vp_nar .boolean (hc_b o)))))] H := hP
  replace hD : va_D A [(h, .inr (1, [.ref a1, .ref a2, .ref a3, .ref a4, .ref a5, .int (nI (n + 1)), .int (nm ||| (((nI 1) <<< ((nI x) &&& 31)) ||| ((nI 1) <<< ((nI y) &&& 31))))])), (a3, .inl (cI, 5, .inl (upd Fr n (nI x)))), (a4, .inl (cI, 5, .inl (upd To n (nI y)))), (a5, .inl (cZ, 5, .inl (upd Li n (vp_nar .boolean (hc_b o)))))] := hD
  exact W.vret hx hb hr (fun t9 ht9 hW9 => ⟨⟨(upd Fr n (nI x), upd To n (nI y), upd Li n (vp_nar .boolean (hc_b o)), nI (n + 1), nm ||| (((nI 1) <<< ((nI x) &&& 31)) ||| ((nI 1) <<< ((nI y) &&& 31)))), rfl, ⟨rfl, rfl, by rw [hw_narb], rfl, rfl⟩, by show va_P D vwCl [(h, .inr (1, [.ref a1, .ref a2, .ref a3, .ref a4, .ref a5, .int (nI (n + 1)), .int (nm ||| (((nI 1) <<< ((nI x) &&& 31)) ||| ((nI 1) <<< ((nI y) &&& 31))))])), (a3, .inl (cI, 5, .inl (upd Fr n (nI x)))), (a4, .inl (cI, 5, .inl (upd To n (nI y)))), (a5, .inl (cZ, 5, .inl (upd Li n (vp_nar .boolean (hc_b o)))))] t9.heap; rw [ht9]; exact hP⟩, hS.F ht9⟩) hS.2.2 dX1_addPiece_56

set_option maxHeartbeats 4000000 in
set_option maxRecDepth 100000 in
/-- no pairs, no pieces -/
theorem k_X1_forgetAll (l : Launch) (D : va_G) (cI cZ cJ : ClassId) (sz : Nat) (n : Nat) (S O : Nat → Int32) (nm : Int32) (h a1 a2 a3 a4 a5 : Nat) : Met l yX1_forgetAll (Cond.code yX1_forgetAll cX1_forgetAll 1 none :: hwG) { frames := 1, cells := 0, slots := 0, locals := 23 } (hp_M [.ref h] D cI cZ cJ [(h, .inr (1, [.ref a1, .ref a2, .ref a3, .ref a4, .ref a5, .int (nI n), .int nm])), (a1, .inl (cI, 6, .inl S)), (a2, .inl (cI, 6, .inl O))] sz) (va_Qv (S := (Nat → Int32) × (Nat → Int32)) (fun u => (∀ j, j < 6 → u.1 j = nI 0) ∧ ∀ j, j < 6 → u.2 j = nI 0) (fun u t => va_P D vwCl ([(h, .inr (1, [.ref a1, .ref a2, .ref a3, .ref a4, .ref a5, .int (nI 0), .int (nI 0)])), (a1, .inl (cI, 6, .inl u.1)), (a2, .inl (cI, 6, .inl u.2))]) t.heap) (va_A [(h, .inr (1, [.ref a1, .ref a2, .ref a3, .ref a4, .ref a5, .int (nI n), .int nm])), (a1, .inl (cI, 6, .inl S)), (a2, .inl (cI, 6, .inl O))] sz)) 0 0 (va_A [(h, .inr (1, [.ref a1, .ref a2, .ref a3, .ref a4, .ref a5, .int (nI n), .int nm])), (a1, .inl (cI, 6, .inl S)), (a2, .inl (cI, 6, .inl O))] sz) := by
  refine Met.ofW (cc := cX1_forgetAll) (maxL := 1) (ret := none) (by decide) rfl ?_
  intro p e s m args below meth c s₁ B hml hv
  obtain ⟨rfl, hsz, hP, hz, hD0⟩ := hv
  have hx := B.exec
  have hb := B.bytes
  have hr := B.returns
  have hts := atoms_spec (ws := (Cond.code yX1_forgetAll cX1_forgetAll 1 none :: hwG)) B.pre
  have htg := fun w h => hts w (List.mem_cons_of_mem _ h)
  have hown : s.vm.findClass RX1 = some m.cls := findClass_of_methodNamed B.named
  have hlocks := B.notSynchronized
  have hK := hz.1
  subst hsz
  have hD := hD0.self (sz := s.heap.size)
  generalize hAe : va_A [(h, .inr (1, [.ref a1, .ref a2, .ref a3, .ref a4, .ref a5, .int (nI n), .int nm])), (a1, .inl (cI, 6, .inl S)), (a2, .inl (cI, 6, .inl O))] s.heap.size = A at hD ⊢
  have hA : ∀ q : Nat, s.heap.size ≤ q → A q := fun q h => by rw [← hAe]; exact Or.inr h
  have hS : va_S A s.heap s.heap [] := va_S.rf
  have hl := lv_entry ([.ref h]) (n := 1) (Nat.le_of_ble_eq_true rfl)
  rw [lg_entry_eq]
  generalize (lg_sl ([.ref h]) ++ List.replicate (1 - (lg_sl ([.ref h])).length) Slot.unset).toArray = ls at hl ⊢
  replace hl : lv_has ls 1 [(0, .ref h)] := hl
  replace hP : va_P D vwCl [(h, .inr (1, [.ref a1, .ref a2, .ref a3, .ref a4, .ref a5, .int (nI n), .int nm])), (a1, .inl (cI, 6, .inl S)), (a2, .inl (cI, 6, .inl O))] s.heap := hP
  refine lv_aload_n hx hb dX1_forgetAll_0 rfl (lv_at hl 0 rfl) ?_
  refine va_get (D := D) (ci := 1) (v := .ref a1) (C := RX1) (T := TX1) (N := 7) hx hb htg hi_X1 hown hK hP 0 rfl rfl 0 (by decide) (htg _ hm_30) (fun _ h9 => h9) rfl dX1_forgetAll_1 ?_
  refine lv_iconst (v := nI 0) hx hb dX1_forgetAll_4 (by decide) ?_
  refine hv_callv (w1 := fun u => [(a1, .inl (cI, 6, .inl u))]) (va_runS (As := [.ref a1, .int (nI 0)]) (rest := []) ⟨hx, hb, hml, hown, htg⟩ (k_J7_fill l D cI cZ cJ _ S 6 a1 (nI 0) (by decide)) (va_cwS 2 htg (hg_S hm_338 hm_71 hm_4 hm_72) rfl rfl rfl (by decide +kernel) ⟨Nat.le_of_ble_eq_true rfl, Nat.le_of_ble_eq_true rfl⟩) ⟨hp_M_blind, hp_M_pre (hP.sub (ws' := [(a1, .inl (cI, 6, .inl S))]) [1] rfl) (hD.sub (ws' := [(a1, .inl (cI, 6, .inl S))]) [1] (by decide) rfl) hz⟩ rfl rfl hl.1 rfl (lv_room (Nat.le_of_ble_eq_true rfl)) dX1_forgetAll_5 ⟨Nat.zero_le _, Nat.zero_le _⟩) hP hD hS hA [1] rfl (fun _ => rfl) (fun S1 H locs h1 hP hD hS => ?_)
  replace hP : va_P D vwCl [(h, .inr (1, [.ref a1, .ref a2, .ref a3, .ref a4, .ref a5, .int (nI n), .int nm])), (a1, .inl (cI, 6, .inl S1)), (a2, .inl (cI, 6, .inl O))] H := hP
  replace hD : va_D A [(h, .inr (1, [.ref a1, .ref a2, .ref a3, .ref a4, .ref a5, .int (nI n), .int nm])), (a1, .inl (cI, 6, .inl S1)), (a2, .inl (cI, 6, .inl O))] := hD
  refine lv_aload_n hx hb dX1_forgetAll_8 rfl (lv_at hl 0 rfl) ?_
  refine va_get (D := D) (ci := 1) (v := .ref a2) (C := RX1) (T := TX1) (N := 7) hx hb htg hi_X1 hown hK hP 0 rfl rfl 1 (by decide) (htg _ hm_31) (fun _ h9 => h9) rfl dX1_forgetAll_9 ?_
  refine lv_iconst (v := nI 0) hx hb dX1_forgetAll_12 (by decide) ?_
  refine hv_callv (w1 := fun u => [(a2, .inl (cI, 6, .inl u))]) (va_runS (As := [.ref a2, .int (nI 0)]) (rest := []) ⟨hx, hb, hml, hown, htg⟩ (k_J7_fill l D cI cZ cJ _ O 6 a2 (nI 0) (by decide)) (va_cwS 2 htg (hg_S hm_338 hm_71 hm_4 hm_72) rfl rfl rfl (by decide +kernel) ⟨Nat.le_of_ble_eq_true rfl, Nat.le_of_ble_eq_true rfl⟩) ⟨hp_M_blind, hp_M_pre (hP.sub (ws' := [(a2, .inl (cI, 6, .inl O))]) [2] rfl) (hD.sub (ws' := [(a2, .inl (cI, 6, .inl O))]) [2] (by decide) rfl) hz⟩ rfl rfl hl.1 rfl (lv_room (Nat.le_of_ble_eq_true rfl)) dX1_forgetAll_13 ⟨Nat.zero_le _, Nat.zero_le _⟩) hP hD hS hA [2] rfl (fun _ => rfl) (fun O1 H locs h2 hP hD hS => ?_)
  replace hP : va_P D vwCl [(h, .inr (1, [.ref a1, .ref a2, .ref a3, .ref a4, .ref a5, .int (nI n), .int nm])), (a1, .inl (cI, 6, .inl S1)), (a2, .inl (cI, 6, .inl O1))] H := hP
  replace hD : va_D A [(h, .inr (1, [.ref a1, .ref a2, .ref a3, .ref a4, .ref a5, .int (nI n), .int nm])), (a1, .inl (cI, 6, .inl S1)), (a2, .inl (cI, 6, .inl O1))] := hD
  refine lv_aload_n hx hb dX1_forgetAll_16 rfl (lv_at hl 0 rfl) ?_
  refine lv_iconst (v := nI 0) hx hb dX1_forgetAll_17 (by decide) ?_
  refine va_put (D := D) (ci := 1) (v := .int (nI 0)) (ty := .int) (C := RX1) (T := TX1) (N := 7) hx hb htg hi_X1 tyX1 tyX1_ok nmX1 hown hK hP hD hS 0 rfl rfl 5 (by decide) (htg _ hm_41) (fun _ h9 => h9) rfl (by decide +kernel) rfl rfl (Nat.le_of_ble_eq_true rfl) dX1_forgetAll_18 (fun H locs hP hD hS => ?_)
  replace hP : va_P D vwCl [(h, .inr (1, [.ref a1, .ref a2, .ref a3, .ref a4, .ref a5, .int (nI 0), .int nm])), (a1, .inl (cI, 6, .inl S1)), (a2, .inl (cI, 6, .inl O1))] H := hP
  replace hD : va_D A [(h, .inr (1, [.ref a1, .ref a2, .ref a3, .ref a4, .ref a5, .int (nI 0), .int nm])), (a1, .inl (cI, 6, .inl S1)), (a2, .inl (cI, 6, .inl O1))] := hD
  refine lv_aload_n hx hb dX1_forgetAll_21 rfl (lv_at hl 0 rfl) ?_
  refine lv_iconst (v := nI 0) hx hb dX1_forgetAll_22 (by decide) ?_
  refine va_put (D := D) (ci := 1) (v := .int (nI 0)) (ty := .int) (C := RX1) (T := TX1) (N := 7) hx hb htg hi_X1 tyX1 tyX1_ok nmX1 hown hK hP hD hS 0 rfl rfl 6 (by decide) (htg _ hm_45) (fun _ h9 => h9) rfl (by decide +kernel) rfl rfl (Nat.le_of_ble_eq_true rfl) dX1_forgetAll_23 (fun H locs hP hD hS => ?_)
  replace hP : va_P D vwCl [(h, .inr (1, [.ref a1, .ref a2, .ref a3, .ref a4, .ref a5, .int (nI 0), .int (nI 0)])), (a1, .inl (cI, 6, .inl S1)), (a2, .inl (cI, 6, .inl O1))] H := hP
  replace hD : va_D A [(h, .inr (1, [.ref a1, .ref a2, .ref a3, .ref a4, .ref a5, .int (nI 0), .int (nI 0)])), (a1, .inl (cI, 6, .inl S1)), (a2, .inl (cI, 6, .inl O1))] := hD
  exact W.vret hx hb hr (fun t9 ht9 hW9 => ⟨⟨(S1, O1), rfl, ⟨h1, h2⟩, by show va_P D vwCl [(h, .inr (1, [.ref a1, .ref a2, .ref a3, .ref a4, .ref a5, .int (nI 0), .int (nI 0)])), (a1, .inl (cI, 6, .inl S1)), (a2, .inl (cI, 6, .inl O1))] t9.heap; rw [ht9]; exact hP⟩, hS.F ht9⟩) hS.2.2 dX1_forgetAll_26
end
section
set_option maxHeartbeats 4000000 in
set_option maxRecDepth 100000 in
/-- is there a cell at a -/
theorem k_X2_hasCell (l : Launch) (D : va_G) (cI cZ cJ : ClassId) (a : Nat) (G : Nat) (EN LG BI : Nat → Int32) (nx : Nat → Option Nat) (lg : Nat → Bool) (bi : Nat → Nat) (fl : Int32) (g q0 q1 q2 q3 : Nat) (ha : a < 2 ^ 31) (hG : G < 2 ^ 30) (hH : hs_hp G EN LG BI nx lg bi) : Met l yX2_hasCell (Cond.code yX2_hasCell cX2_hasCell 2 (some .boolean) :: hwG) { frames := 0, cells := 0, slots := 0, locals := 0 } (hp_R [.ref g, .int (nI a)] D cI cZ cJ [(g, .inr (2, [.ref q0, .int (nI G), .ref q1, .ref q2, .ref q3, .int fl])), (q1, .inl (cI, G + 1, .inl EN))]) (vp_Si (fun r => hc_r r (nx a ≠ none))) 0 0 (fun _ => False) := by
  refine Met.ofW (cc := cX2_hasCell) (maxL := 2) (ret := (some .boolean)) (by decide) rfl ?_
  intro p e s m args below meth c s₁ B hml hv
  obtain ⟨rfl, hP, hz⟩ := hv
  have hx := B.exec
  have hb := B.bytes
  have hr := B.returns
  have hts := atoms_spec (ws := (Cond.code yX2_hasCell cX2_hasCell 2 (some .boolean) :: hwG)) B.pre
  have htg := fun w h => hts w (List.mem_cons_of_mem _ h)
  have hown : s.vm.findClass RX2 = some m.cls := findClass_of_methodNamed B.named
  have hlocks := B.notSynchronized
  have hK := hz.1
  have hl := lv_entry ([.ref g, .int (nI a)]) (n := 2) (Nat.le_of_ble_eq_true rfl)
  rw [lg_entry_eq]
  generalize (lg_sl ([.ref g, .int (nI a)]) ++ List.replicate (2 - (lg_sl ([.ref g, .int (nI a)])).length) Slot.unset).toArray = ls at hl ⊢
  replace hl : lv_has ls 2 [(0, .ref g), (1, .int (nI a))] := hl
  refine lv_iload_n hx hb dX2_hasCell_0 rfl (lv_at hl 1 rfl) ?_
  refine lv_iconst (v := nI 1) hx hb dX2_hasCell_1 (by decide) ?_
  refine hw_icmp_lt hx hb (by omega) (by omega) dX2_hasCell_2 rfl (fun hc => ?_) (fun hc => ?_)
  · refine lv_iconst (v := nI 0) hx hb dX2_hasCell_27 (by decide) ?_
    exact W.zret (v := nI 0) hx hb hr (by decide +kernel) (fun t9 ht9 hW9 => ⟨_, rfl, Or.inr ⟨rfl, fun h9 => absurd (hH.1 a h9).1 (by omega)⟩, ht9⟩) (fun _ h => nomatch h) dX2_hasCell_28
  · refine lv_iload_n hx hb dX2_hasCell_5 rfl (lv_at hl 1 rfl) ?_
    refine lv_aload_n hx hb dX2_hasCell_6 rfl (lv_at hl 0 rfl) ?_
    refine va_get (D := D) (ci := 2) (v := .int (nI G)) (C := RX2) (T := TX2) (N := 6) hx hb htg hi_X2 hown hK hP 0 rfl rfl 1 (by decide) (htg _ hm_76) (fun _ h9 => h9) rfl dX2_hasCell_7 ?_
    refine hw_icmp_gt hx hb (by omega) (by omega) dX2_hasCell_10 rfl (fun hc2 => ?_) (fun hc2 => ?_)
    · refine lv_iconst (v := nI 0) hx hb dX2_hasCell_27 (by decide) ?_
      exact W.zret (v := nI 0) hx hb hr (by decide +kernel) (fun t9 ht9 hW9 => ⟨_, rfl, Or.inr ⟨rfl, fun h9 => absurd (hH.1 a h9).2 (by omega)⟩, ht9⟩) (fun _ h => nomatch h) dX2_hasCell_28
    · refine lv_aload_n hx hb dX2_hasCell_13 rfl (lv_at hl 0 rfl) ?_
      refine va_get (D := D) (ci := 2) (v := .ref q1) (C := RX2) (T := TX2) (N := 6) hx hb htg hi_X2 hown hK hP 0 rfl rfl 2 (by decide) (htg _ hm_77) (fun _ h9 => h9) rfl dX2_hasCell_14 ?_
      refine lv_iload_n hx hb dX2_hasCell_17 rfl (lv_at hl 1 rfl) ?_
      refine hw_iald hx hb hK hP 1 0 rfl rfl (j := a) (by omega) (by first | decide | omega) (v := EN a) (rfl) dX2_hasCell_18 ?_
      refine lv_iconst (v := (-1)) hx hb dX2_hasCell_19 (by decide) ?_
      refine lv_icmp_eq hx hb dX2_hasCell_20 rfl (fun hc3 => ?_) (fun hc3 => ?_)
      · refine lv_iconst (v := nI 0) hx hb dX2_hasCell_27 (by decide) ?_
        exact W.zret (v := nI 0) hx hb hr (by decide +kernel) (fun t9 ht9 hW9 => ⟨_, rfl, Or.inr ⟨rfl, fun h9 => by cases hn : nx a with | none => exact h9 hn | some z => (have h8 := (hH.2 a hc hc2).2 z hn; exact hs_nm1 z (by omega) (h8.2.1.symm.trans hc3))⟩, ht9⟩) (fun _ h => nomatch h) dX2_hasCell_28
      · refine lv_iconst (v := nI 1) hx hb dX2_hasCell_23 (by decide) ?_
        refine lv_goto hx hb dX2_hasCell_24 rfl ?_
        exact W.zret (v := nI 1) hx hb hr (by decide +kernel) (fun t9 ht9 hW9 => ⟨_, rfl, Or.inl ⟨rfl, fun h9 => hc3 ((hH.2 a hc hc2).1 h9)⟩, ht9⟩) (fun _ h => nomatch h) dX2_hasCell_28

set_option maxHeartbeats 4000000 in
set_option maxRecDepth 100000 in
/-- no address below 0 -/
theorem k_X2_hasCell_neg (l : Launch) (D : va_G) (cI cZ cJ : ClassId) (x : Int32) (G : Nat) (EN LG BI : Nat → Int32) (nx : Nat → Option Nat) (lg : Nat → Bool) (bi : Nat → Nat) (fl : Int32) (g q0 q1 q2 q3 : Nat) (hn : x < 0) : Met l yX2_hasCell (Cond.code yX2_hasCell cX2_hasCell 2 (some .boolean) :: hwG) { frames := 0, cells := 0, slots := 0, locals := 0 } (hp_R [.ref g, .int x] D cI cZ cJ [(g, .inr (2, [.ref q0, .int (nI G), .ref q1, .ref q2, .ref q3, .int fl])), (q1, .inl (cI, G + 1, .inl EN))]) (vp_Si (fun r => r = nI 0)) 0 0 (fun _ => False) := by
  refine Met.ofW (cc := cX2_hasCell) (maxL := 2) (ret := (some .boolean)) (by decide) rfl ?_
  intro p e s m args below meth c s₁ B hml hv
  obtain ⟨rfl, hP, hz⟩ := hv
  have hx := B.exec
  have hb := B.bytes
  have hr := B.returns
  have hts := atoms_spec (ws := (Cond.code yX2_hasCell cX2_hasCell 2 (some .boolean) :: hwG)) B.pre
  have htg := fun w h => hts w (List.mem_cons_of_mem _ h)
  have hown : s.vm.findClass RX2 = some m.cls := findClass_of_methodNamed B.named
  have hlocks := B.notSynchronized
  have hK := hz.1
  have hl := lv_entry ([.ref g, .int x]) (n := 2) (Nat.le_of_ble_eq_true rfl)
  rw [lg_entry_eq]
  generalize (lg_sl ([.ref g, .int x]) ++ List.replicate (2 - (lg_sl ([.ref g, .int x])).length) Slot.unset).toArray = ls at hl ⊢
  replace hl : lv_has ls 2 [(0, .ref g), (1, .int x)] := hl
  refine lv_iload_n hx hb dX2_hasCell_0 rfl (lv_at hl 1 rfl) ?_
  refine lv_iconst (v := nI 1) hx hb dX2_hasCell_1 (by decide) ?_
  refine lv_icmp_lt hx hb dX2_hasCell_2 rfl (fun hc => ?_) (fun hc => absurd (Int32.lt_trans hn (by decide)) hc)
  refine lv_iconst (v := nI 0) hx hb dX2_hasCell_27 (by decide) ?_
  exact W.zret (v := nI 0) hx hb hr (by decide +kernel) (fun t9 ht9 hW9 => ⟨_, rfl, rfl, ht9⟩) (fun _ h => nomatch h) dX2_hasCell_28

set_option maxHeartbeats 4000000 in
set_option maxRecDepth 100000 in
/-- a stretch -/
theorem k_X2_setStretch (l : Launch) (D : va_G) (cI cZ cJ : ClassId) (sz : Nat) (a : Nat) (x bit : Int32) (o : Bool) (G : Nat) (EN LG BI : Nat → Int32) (fl : Int32) (g q0 q1 q2 q3 : Nat) (hG : G < 2 ^ 30) (ha : a ≤ G) : Met l yX2_setStretch (Cond.code yX2_setStretch cX2_setStretch 5 none :: hwG) { frames := 0, cells := 0, slots := 0, locals := 0 } (hp_M [.ref g, .int (nI a), .int x, .int (hc_b o), .int bit] D cI cZ cJ [(g, .inr (2, [.ref q0, .int (nI G), .ref q1, .ref q2, .ref q3, .int fl])), (q1, .inl (cI, G + 1, .inl EN)), (q2, .inl (cZ, G + 1, .inl LG)), (q3, .inl (cI, G + 1, .inl BI))] sz) (va_Qv (S := (Nat → Int32) × (Nat → Int32) × (Nat → Int32) × Int32) (fun u => u.1 = upd EN a x ∧ u.2.1 = upd LG a (hc_b o) ∧ u.2.2.1 = upd BI a bit ∧ u.2.2.2 = fl ||| bit) (fun u t => va_P D vwCl ([(g, .inr (2, [.ref q0, .int (nI G), .ref q1, .ref q2, .ref q3, .int u.2.2.2])), (q1, .inl (cI, G + 1, .inl u.1)), (q2, .inl (cZ, G + 1, .inl u.2.1)), (q3, .inl (cI, G + 1, .inl u.2.2.1))]) t.heap) (va_A [(g, .inr (2, [.ref q0, .int (nI G), .ref q1, .ref q2, .ref q3, .int fl])), (q1, .inl (cI, G + 1, .inl EN)), (q2, .inl (cZ, G + 1, .inl LG)), (q3, .inl (cI, G + 1, .inl BI))] sz)) 0 0 (va_A [(g, .inr (2, [.ref q0, .int (nI G), .ref q1, .ref q2, .ref q3, .int fl])), (q1, .inl (cI, G + 1, .inl EN)), (q2, .inl (cZ, G + 1, .inl LG)), (q3, .inl (cI, G + 1, .inl BI))] sz) := by
  refine Met.ofW (cc := cX2_setStretch) (maxL := 5) (ret := none) (by decide) rfl ?_
  intro p e s m args below meth c s₁ B hml hv
  obtain ⟨rfl, hsz, hP, hz, hD0⟩ := hv
  have hx := B.exec
  have hb := B.bytes
  have hr := B.returns
  have hts := atoms_spec (ws := (Cond.code yX2_setStretch cX2_setStretch 5 none :: hwG)) B.pre
  have htg := fun w h => hts w (List.mem_cons_of_mem _ h)
  have hown : s.vm.findClass RX2 = some m.cls := findClass_of_methodNamed B.named
  have hlocks := B.notSynchronized
  have hK := hz.1
  subst hsz
  have hD := hD0.self (sz := s.heap.size)
  generalize hAe : va_A [(g, .inr (2, [.ref q0, .int (nI G), .ref q1, .ref q2, .ref q3, .int fl])), (q1, .inl (cI, G + 1, .inl EN)), (q2, .inl (cZ, G + 1, .inl LG)), (q3, .inl (cI, G + 1, .inl BI))] s.heap.size = A at hD ⊢
  have hA : ∀ q : Nat, s.heap.size ≤ q → A q := fun q h => by rw [← hAe]; exact Or.inr h
  have hS : va_S A s.heap s.heap [] := va_S.rf
  have hl := lv_entry ([.ref g, .int (nI a), .int x, .int (hc_b o), .int bit]) (n := 5) (Nat.le_of_ble_eq_true rfl)
  rw [lg_entry_eq]
  generalize (lg_sl ([.ref g, .int (nI a), .int x, .int (hc_b o), .int bit]) ++ List.replicate (5 - (lg_sl ([.ref g, .int (nI a), .int x, .int (hc_b o), .int bit])).length) Slot.unset).toArray = ls at hl ⊢
  replace hl : lv_has ls 5 [(0, .ref g), (1, .int (nI a)), (2, .int x), (3, .int (hc_b o)), (4, .int bit)] := hl
  replace hP : va_P D vwCl [(g, .inr (2, [.ref q0, .int (nI G), .ref q1, .ref q2, .ref q3, .int fl])), (q1, .inl (cI, G + 1, .inl EN)), (q2, .inl (cZ, G + 1, .inl LG)), (q3, .inl (cI, G + 1, .inl BI))] s.heap := hP
  refine lv_aload_n hx hb dX2_setStretch_0 rfl (lv_at hl 0 rfl) ?_
  refine va_get (D := D) (ci := 2) (v := .ref q1) (C := RX2) (T := TX2) (N := 6) hx hb htg hi_X2 hown hK hP 0 rfl rfl 2 (by decide) (htg _ hm_77) (fun _ h9 => h9) rfl dX2_setStretch_1 ?_
  refine lv_iload_n hx hb dX2_setStretch_4 rfl (lv_at hl 1 rfl) ?_
  refine lv_iload_n hx hb dX2_setStretch_5 rfl (lv_at hl 2 rfl) ?_
  refine hw_iast hx hb hK hP hD hS 1 0 rfl rfl (j := a) (by omega) (by first | decide | omega) dX2_setStretch_6 (fun H locs hP hD hS => ?_)
  replace hP : va_P D vwCl [(g, .inr (2, [.ref q0, .int (nI G), .ref q1, .ref q2, .ref q3, .int fl])), (q1, .inl (cI, G + 1, .inl (upd EN a x))), (q2, .inl (cZ, G + 1, .inl LG)), (q3, .inl (cI, G + 1, .inl BI))] H := hP
  replace hD : va_D A [(g, .inr (2, [.ref q0, .int (nI G), .ref q1, .ref q2, .ref q3, .int fl])), (q1, .inl (cI, G + 1, .inl (upd EN a x))), (q2, .inl (cZ, G + 1, .inl LG)), (q3, .inl (cI, G + 1, .inl BI))] := hD
  refine lv_aload_n hx hb dX2_setStretch_7 rfl (lv_at hl 0 rfl) ?_
  refine va_get (D := D) (ci := 2) (v := .ref q2) (C := RX2) (T := TX2) (N := 6) hx hb htg hi_X2 hown hK hP 0 rfl rfl 3 (by decide) (htg _ hm_79) (fun _ h9 => h9) rfl dX2_setStretch_8 ?_
  refine lv_iload_n hx hb dX2_setStretch_11 rfl (lv_at hl 1 rfl) ?_
  refine lv_iload_n hx hb dX2_setStretch_12 rfl (lv_at hl 3 rfl) ?_
  refine hw_zast hx hb hK hP hD hS 2 1 rfl rfl (j := a) (by omega) (by first | decide | omega) dX2_setStretch_13 (fun H locs hP hD hS => ?_)
  replace hP : va_P D vwCl [(g, .inr (2, [.ref q0, .int (nI G), .ref q1, .ref q2, .ref q3, .int fl])), (q1, .inl (cI, G + 1, .inl (upd EN a x))), (q2, .inl (cZ, G + 1, .inl (upd LG a (vp_nar .boolean (hc_b o))))), (q3, .inl (cI, G + 1, .inl BI))] H := hP
  replace hD : va_D A [(g, .inr (2, [.ref q0, .int (nI G), .ref q1, .ref q2, .ref q3, .int fl])), (q1, .inl (cI, G + 1, .inl (upd EN a x))), (q2, .inl (cZ, G + 1, .inl (upd LG a (vp_nar .boolean (hc_b o))))), (q3, .inl (cI, G + 1, .inl BI))] := hD
  refine lv_aload_n hx hb dX2_setStretch_14 rfl (lv_at hl 0 rfl) ?_
  refine va_get (D := D) (ci := 2) (v := .ref q3) (C := RX2) (T := TX2) (N := 6) hx hb htg hi_X2 hown hK hP 0 rfl rfl 4 (by decide) (htg _ hm_80) (fun _ h9 => h9) rfl dX2_setStretch_15 ?_
  refine lv_iload_n hx hb dX2_setStretch_18 rfl (lv_at hl 1 rfl) ?_
  refine lv_iload hx hb dX2_setStretch_19 (lv_at hl 4 rfl) ?_
  refine hw_iast hx hb hK hP hD hS 3 0 rfl rfl (j := a) (by omega) (by first | decide | omega) dX2_setStretch_21 (fun H locs hP hD hS => ?_)
  replace hP : va_P D vwCl [(g, .inr (2, [.ref q0, .int (nI G), .ref q1, .ref q2, .ref q3, .int fl])), (q1, .inl (cI, G + 1, .inl (upd EN a x))), (q2, .inl (cZ, G + 1, .inl (upd LG a (vp_nar .boolean (hc_b o))))), (q3, .inl (cI, G + 1, .inl (upd BI a bit)))] H := hP
  replace hD : va_D A [(g, .inr (2, [.ref q0, .int (nI G), .ref q1, .ref q2, .ref q3, .int fl])), (q1, .inl (cI, G + 1, .inl (upd EN a x))), (q2, .inl (cZ, G + 1, .inl (upd LG a (vp_nar .boolean (hc_b o))))), (q3, .inl (cI, G + 1, .inl (upd BI a bit)))] := hD
  refine lv_aload_n hx hb dX2_setStretch_22 rfl (lv_at hl 0 rfl) ?_
  refine lv_dup hx hb dX2_setStretch_23 rfl ?_
  refine va_get (D := D) (ci := 2) (v := .int fl) (C := RX2) (T := TX2) (N := 6) hx hb htg hi_X2 hown hK hP 0 rfl rfl 5 (by decide) (htg _ hm_81) (fun _ h9 => h9) rfl dX2_setStretch_24 ?_
  refine lv_iload hx hb dX2_setStretch_27 (lv_at hl 4 rfl) ?_
  refine lv_ior hx hb dX2_setStretch_29 ?_
  refine va_put (D := D) (ci := 2) (v := .int (fl ||| bit)) (ty := .int) (C := RX2) (T := TX2) (N := 6) hx hb htg hi_X2 tyX2 tyX2_ok nmX2 hown hK hP hD hS 0 rfl rfl 5 (by decide) (htg _ hm_81) (fun _ h9 => h9) rfl (by decide +kernel) rfl rfl (Nat.le_of_ble_eq_true rfl) dX2_setStretch_30 (fun H locs hP hD hS => ?_)
  replace hP : va_P D vwCl [(g, .inr (2, [.ref q0, .int (nI G), .ref q1, .ref q2, .ref q3, .int (fl ||| bit)])), (q1, .inl (cI, G + 1, .inl (upd EN a x))), (q2, .inl (cZ, G + 1, .inl (upd LG a (vp_nar .boolean (hc_b o))))), (q3, .inl (cI, G + 1, .inl (upd BI a bit)))] H := hP
  replace hD : va_D A [(g, .inr (2, [.ref q0, .int (nI G), .ref q1, .ref q2, .ref q3, .int (fl ||| bit)])), (q1, .inl (cI, G + 1, .inl (upd EN a x))), (q2, .inl (cZ, G + 1, .inl (upd LG a (vp_nar .boolean (hc_b o))))), (q3, .inl (cI, G + 1, .inl (upd BI a bit)))] := hD
  exact W.vret hx hb hr (fun t9 ht9 hW9 => ⟨⟨(upd EN a x, upd LG a (vp_nar .boolean (hc_b o)), upd BI a bit, fl ||| bit), rfl, ⟨rfl, by rw [hw_narb], rfl, rfl⟩, by show va_P D vwCl [(g, .inr (2, [.ref q0, .int (nI G), .ref q1, .ref q2, .ref q3, .int (fl ||| bit)])), (q1, .inl (cI, G + 1, .inl (upd EN a x))), (q2, .inl (cZ, G + 1, .inl (upd LG a (vp_nar .boolean (hc_b o))))), (q3, .inl (cI, G + 1, .inl (upd BI a bit)))] t9.heap; rw [ht9]; exact hP⟩, hS.F ht9⟩) hS.2.2 dX2_setStretch_33

set_option maxHeartbeats 4000000 in
set_option maxRecDepth 100000 in
/-- a cell -/
theorem k_X2_setCell (l : Launch) (D : va_G) (cI cZ cJ : ClassId) (sz : Nat) (a : Nat) (x : Int32) (G : Nat) (EN LG BI : Nat → Int32) (fl : Int32) (g q0 q1 q2 q3 : Nat) (hG : G < 2 ^ 30) (ha : a ≤ G) : Met l yX2_setCell (Cond.code yX2_setCell cX2_setCell 3 none :: hwG) { frames := 1, cells := 0, slots := 0, locals := 24 } (hp_M [.ref g, .int (nI a), .int x] D cI cZ cJ [(g, .inr (2, [.ref q0, .int (nI G), .ref q1, .ref q2, .ref q3, .int fl])), (q1, .inl (cI, G + 1, .inl EN)), (q2, .inl (cZ, G + 1, .inl LG)), (q3, .inl (cI, G + 1, .inl BI))] sz) (va_Qv (S := (Nat → Int32) × (Nat → Int32) × (Nat → Int32) × Int32) (fun u => u.1 = upd EN a x ∧ u.2.1 = upd LG a (hc_b false) ∧ u.2.2.1 = upd BI a (nI 1 <<< (nI a &&& 31)) ∧ u.2.2.2 = fl ||| (nI 1 <<< (nI a &&& 31))) (fun u t => va_P D vwCl ([(g, .inr (2, [.ref q0, .int (nI G), .ref q1, .ref q2, .ref q3, .int u.2.2.2])), (q1, .inl (cI, G + 1, .inl u.1)), (q2, .inl (cZ, G + 1, .inl u.2.1)), (q3, .inl (cI, G + 1, .inl u.2.2.1))]) t.heap) (va_A [(g, .inr (2, [.ref q0, .int (nI G), .ref q1, .ref q2, .ref q3, .int fl])), (q1, .inl (cI, G + 1, .inl EN)), (q2, .inl (cZ, G + 1, .inl LG)), (q3, .inl (cI, G + 1, .inl BI))] sz)) 0 0 (va_A [(g, .inr (2, [.ref q0, .int (nI G), .ref q1, .ref q2, .ref q3, .int fl])), (q1, .inl (cI, G + 1, .inl EN)), (q2, .inl (cZ, G + 1, .inl LG)), (q3, .inl (cI, G + 1, .inl BI))] sz) := by
  refine Met.ofW (cc := cX2_setCell) (maxL := 3) (ret := none) (by decide) rfl ?_
  intro p e s m args below meth c s₁ B hml hv
  obtain ⟨rfl, hsz, hP, hz, hD0⟩ := hv
  have hx := B.exec
  have hb := B.bytes
  have hr := B.returns
  have hts := atoms_spec (ws := (Cond.code yX2_setCell cX2_setCell 3 none :: hwG)) B.pre
  have htg := fun w h => hts w (List.mem_cons_of_mem _ h)
  have hown : s.vm.findClass RX2 = some m.cls := findClass_of_methodNamed B.named
  have hlocks := B.notSynchronized
  have hK := hz.1
  subst hsz
  have hD := hD0.self (sz := s.heap.size)
  generalize hAe : va_A [(g, .inr (2, [.ref q0, .int (nI G), .ref q1, .ref q2, .ref q3, .int fl])), (q1, .inl (cI, G + 1, .inl EN)), (q2, .inl (cZ, G + 1, .inl LG)), (q3, .inl (cI, G + 1, .inl BI))] s.heap.size = A at hD ⊢
  have hA : ∀ q : Nat, s.heap.size ≤ q → A q := fun q h => by rw [← hAe]; exact Or.inr h
  have hS : va_S A s.heap s.heap [] := va_S.rf
  have hl := lv_entry ([.ref g, .int (nI a), .int x]) (n := 3) (Nat.le_of_ble_eq_true rfl)
  rw [lg_entry_eq]
  generalize (lg_sl ([.ref g, .int (nI a), .int x]) ++ List.replicate (3 - (lg_sl ([.ref g, .int (nI a), .int x])).length) Slot.unset).toArray = ls at hl ⊢
  replace hl : lv_has ls 3 [(0, .ref g), (1, .int (nI a)), (2, .int x)] := hl
  replace hP : va_P D vwCl [(g, .inr (2, [.ref q0, .int (nI G), .ref q1, .ref q2, .ref q3, .int fl])), (q1, .inl (cI, G + 1, .inl EN)), (q2, .inl (cZ, G + 1, .inl LG)), (q3, .inl (cI, G + 1, .inl BI))] s.heap := hP
  refine lv_aload_n hx hb dX2_setCell_0 rfl (lv_at hl 0 rfl) ?_
  refine lv_iload_n hx hb dX2_setCell_1 rfl (lv_at hl 1 rfl) ?_
  refine lv_iload_n hx hb dX2_setCell_2 rfl (lv_at hl 2 rfl) ?_
  refine lv_iconst (v := nI 0) hx hb dX2_setCell_3 (by decide) ?_
  refine lv_iconst (v := nI 1) hx hb dX2_setCell_4 (by decide) ?_
  refine lv_iload_n hx hb dX2_setCell_5 rfl (lv_at hl 1 rfl) ?_
  refine lv_ishl hx hb dX2_setCell_6 ?_
  refine hv_callv (w1 := fun u : (Nat → Int32) × (Nat → Int32) × (Nat → Int32) × Int32 => [(g, .inr (2, [.ref q0, .int (nI G), .ref q1, .ref q2, .ref q3, .int u.2.2.2])), (q1, .inl (cI, G + 1, .inl u.1)), (q2, .inl (cZ, G + 1, .inl u.2.1)), (q3, .inl (cI, G + 1, .inl u.2.2.1))]) (va_runV (C := RX2) (b := g) (As := [.int (nI a), .int x, .int (nI 0), .int ((nI 1) <<< ((nI a) &&& 31))]) (rest := []) ⟨hx, hb, hml, hown, htg⟩ (k_X2_setStretch l D cI cZ cJ _ a x (nI 1 <<< (nI a &&& 31)) false G EN LG BI fl g q0 q1 q2 q3 hG ha) (cwV 4 htg (hg_V hm_410 hm_162 hm_163 hm_3 hm_164) rfl rfl rfl (by decide +kernel) ⟨Nat.le_of_ble_eq_true rfl, Nat.le_of_ble_eq_true rfl⟩) ⟨hp_M_blind, va_recv (q := (RX2, TX2, 6)) (q0 := 0) (ci := 2) hK hP rfl rfl, hp_M_pre (hP.sub (ws' := [(g, .inr (2, [.ref q0, .int (nI G), .ref q1, .ref q2, .ref q3, .int fl])), (q1, .inl (cI, G + 1, .inl EN)), (q2, .inl (cZ, G + 1, .inl LG)), (q3, .inl (cI, G + 1, .inl BI))]) [0, 1, 2, 3] rfl) (hD.sub (ws' := [(g, .inr (2, [.ref q0, .int (nI G), .ref q1, .ref q2, .ref q3, .int fl])), (q1, .inl (cI, G + 1, .inl EN)), (q2, .inl (cZ, G + 1, .inl LG)), (q3, .inl (cI, G + 1, .inl BI))]) [0, 1, 2, 3] (by decide) rfl) hz⟩ rfl rfl hl.1 rfl (lv_room (Nat.le_of_ble_eq_true rfl)) dX2_setCell_7 ⟨Nat.zero_le _, Nat.zero_le _⟩) hP hD hS hA [0, 1, 2, 3] rfl (fun _ => rfl) (fun u H locs hu hP hD hS => ?_)
  replace hP : va_P D vwCl [(g, .inr (2, [.ref q0, .int (nI G), .ref q1, .ref q2, .ref q3, .int u.2.2.2])), (q1, .inl (cI, G + 1, .inl u.1)), (q2, .inl (cZ, G + 1, .inl u.2.1)), (q3, .inl (cI, G + 1, .inl u.2.2.1))] H := hP
  replace hD : va_D A [(g, .inr (2, [.ref q0, .int (nI G), .ref q1, .ref q2, .ref q3, .int u.2.2.2])), (q1, .inl (cI, G + 1, .inl u.1)), (q2, .inl (cZ, G + 1, .inl u.2.1)), (q3, .inl (cI, G + 1, .inl u.2.2.1))] := hD
  exact W.vret hx hb hr (fun t9 ht9 hW9 => ⟨⟨u, rfl, hu, by show va_P D vwCl [(g, .inr (2, [.ref q0, .int (nI G), .ref q1, .ref q2, .ref q3, .int u.2.2.2])), (q1, .inl (cI, G + 1, .inl u.1)), (q2, .inl (cZ, G + 1, .inl u.2.1)), (q3, .inl (cI, G + 1, .inl u.2.2.1))] t9.heap; rw [ht9]; exact hP⟩, hS.F ht9⟩) hS.2.2 dX2_setCell_10

set_option maxHeartbeats 4000000 in
set_option maxRecDepth 100000 in
/-- the cell at a goes -/
theorem k_X2_removeCell (l : Launch) (D : va_G) (cI cZ cJ : ClassId) (sz : Nat) (a : Nat) (G : Nat) (EN BI : Nat → Int32) (fl : Int32) (g q0 q1 q2 q3 : Nat) (hG : G < 2 ^ 30) (ha : a ≤ G) : Met l yX2_removeCell (Cond.code yX2_removeCell cX2_removeCell 2 none :: hwG) { frames := 0, cells := 0, slots := 0, locals := 0 } (hp_M [.ref g, .int (nI a)] D cI cZ cJ [(g, .inr (2, [.ref q0, .int (nI G), .ref q1, .ref q2, .ref q3, .int fl])), (q1, .inl (cI, G + 1, .inl EN)), (q3, .inl (cI, G + 1, .inl BI))] sz) (va_Qv (S := (Nat → Int32) × Int32) (fun u => u.1 = upd EN a (-1) ∧ u.2 = fl &&& (BI a ^^^ (-1))) (fun u t => va_P D vwCl ([(g, .inr (2, [.ref q0, .int (nI G), .ref q1, .ref q2, .ref q3, .int u.2])), (q1, .inl (cI, G + 1, .inl u.1)), (q3, .inl (cI, G + 1, .inl BI))]) t.heap) (va_A [(g, .inr (2, [.ref q0, .int (nI G), .ref q1, .ref q2, .ref q3, .int fl])), (q1, .inl (cI, G + 1, .inl EN)), (q3, .inl (cI, G + 1, .inl BI))] sz)) 0 0 (va_A [(g, .inr (2, [.ref q0, .int (nI G), .ref q1, .ref q2, .ref q3, .int fl])), (q1, .inl (cI, G + 1, .inl EN)), (q3, .inl (cI, G + 1, .inl BI))] sz) := by
  refine Met.ofW (cc := cX2_removeCell) (maxL := 2) (ret := none) (by decide) rfl ?_
  intro p e s m args below meth c s₁ B hml hv
  obtain ⟨rfl, hsz, hP, hz, hD0⟩ := hv
  have hx := B.exec
  have hb := B.bytes
  have hr := B.returns
  have hts := atoms_spec (ws := (Cond.code yX2_removeCell cX2_removeCell 2 none :: hwG)) B.pre
  have htg := fun w h => hts w (List.mem_cons_of_mem _ h)
  have hown : s.vm.findClass RX2 = some m.cls := findClass_of_methodNamed B.named
  have hlocks := B.notSynchronized
  have hK := hz.1
  subst hsz
  have hD := hD0.self (sz := s.heap.size)
  generalize hAe : va_A [(g, .inr (2, [.ref q0, .int (nI G), .ref q1, .ref q2, .ref q3, .int fl])), (q1, .inl (cI, G + 1, .inl EN)), (q3, .inl (cI, G + 1, .inl BI))] s.heap.size = A at hD ⊢
  have hA : ∀ q : Nat, s.heap.size ≤ q → A q := fun q h => by rw [← hAe]; exact Or.inr h
  have hS : va_S A s.heap s.heap [] := va_S.rf
  have hl := lv_entry ([.ref g, .int (nI a)]) (n := 2) (Nat.le_of_ble_eq_true rfl)
  rw [lg_entry_eq]
  generalize (lg_sl ([.ref g, .int (nI a)]) ++ List.replicate (2 - (lg_sl ([.ref g, .int (nI a)])).length) Slot.unset).toArray = ls at hl ⊢
  replace hl : lv_has ls 2 [(0, .ref g), (1, .int (nI a))] := hl
  replace hP : va_P D vwCl [(g, .inr (2, [.ref q0, .int (nI G), .ref q1, .ref q2, .ref q3, .int fl])), (q1, .inl (cI, G + 1, .inl EN)), (q3, .inl (cI, G + 1, .inl BI))] s.heap := hP
  refine lv_aload_n hx hb dX2_removeCell_0 rfl (lv_at hl 0 rfl) ?_
  refine va_get (D := D) (ci := 2) (v := .ref q1) (C := RX2) (T := TX2) (N := 6) hx hb htg hi_X2 hown hK hP 0 rfl rfl 2 (by decide) (htg _ hm_77) (fun _ h9 => h9) rfl dX2_removeCell_1 ?_
  refine lv_iload_n hx hb dX2_removeCell_4 rfl (lv_at hl 1 rfl) ?_
  refine lv_iconst (v := (-1)) hx hb dX2_removeCell_5 (by decide) ?_
  refine hw_iast hx hb hK hP hD hS 1 0 rfl rfl (j := a) (by omega) (by first | decide | omega) dX2_removeCell_6 (fun H locs hP hD hS => ?_)
  replace hP : va_P D vwCl [(g, .inr (2, [.ref q0, .int (nI G), .ref q1, .ref q2, .ref q3, .int fl])), (q1, .inl (cI, G + 1, .inl (upd EN a (-1)))), (q3, .inl (cI, G + 1, .inl BI))] H := hP
  replace hD : va_D A [(g, .inr (2, [.ref q0, .int (nI G), .ref q1, .ref q2, .ref q3, .int fl])), (q1, .inl (cI, G + 1, .inl (upd EN a (-1)))), (q3, .inl (cI, G + 1, .inl BI))] := hD
  refine lv_aload_n hx hb dX2_removeCell_7 rfl (lv_at hl 0 rfl) ?_
  refine lv_dup hx hb dX2_removeCell_8 rfl ?_
  refine va_get (D := D) (ci := 2) (v := .int fl) (C := RX2) (T := TX2) (N := 6) hx hb htg hi_X2 hown hK hP 0 rfl rfl 5 (by decide) (htg _ hm_81) (fun _ h9 => h9) rfl dX2_removeCell_9 ?_
  refine lv_aload_n hx hb dX2_removeCell_12 rfl (lv_at hl 0 rfl) ?_
  refine va_get (D := D) (ci := 2) (v := .ref q3) (C := RX2) (T := TX2) (N := 6) hx hb htg hi_X2 hown hK hP 0 rfl rfl 4 (by decide) (htg _ hm_80) (fun _ h9 => h9) rfl dX2_removeCell_13 ?_
  refine lv_iload_n hx hb dX2_removeCell_16 rfl (lv_at hl 1 rfl) ?_
  refine hw_iald hx hb hK hP 2 0 rfl rfl (j := a) (by omega) (by first | decide | omega) (v := BI a) (rfl) dX2_removeCell_17 ?_
  refine lv_iconst (v := (-1)) hx hb dX2_removeCell_18 (by decide) ?_
  refine lv_ixor hx hb dX2_removeCell_19 ?_
  refine lv_iand hx hb dX2_removeCell_20 ?_
  refine va_put (D := D) (ci := 2) (v := .int (fl &&& ((BI a) ^^^ (-1)))) (ty := .int) (C := RX2) (T := TX2) (N := 6) hx hb htg hi_X2 tyX2 tyX2_ok nmX2 hown hK hP hD hS 0 rfl rfl 5 (by decide) (htg _ hm_81) (fun _ h9 => h9) rfl (by decide +kernel) rfl rfl (Nat.le_of_ble_eq_true rfl) dX2_removeCell_21 (fun H locs hP hD hS => ?_)
  replace hP : va_P D vwCl [(g, .inr (2, [.ref q0, .int (nI G), .ref q1, .ref q2, .ref q3, .int (fl &&& ((BI a) ^^^ (-1)))])), (q1, .inl (cI, G + 1, .inl (upd EN a (-1)))), (q3, .inl (cI, G + 1, .inl BI))] H := hP
  replace hD : va_D A [(g, .inr (2, [.ref q0, .int (nI G), .ref q1, .ref q2, .ref q3, .int (fl &&& ((BI a) ^^^ (-1)))])), (q1, .inl (cI, G + 1, .inl (upd EN a (-1)))), (q3, .inl (cI, G + 1, .inl BI))] := hD
  exact W.vret hx hb hr (fun t9 ht9 hW9 => ⟨⟨(upd EN a (-1), fl &&& ((BI a) ^^^ (-1))), rfl, ⟨rfl, rfl⟩, by show va_P D vwCl [(g, .inr (2, [.ref q0, .int (nI G), .ref q1, .ref q2, .ref q3, .int (fl &&& ((BI a) ^^^ (-1)))])), (q1, .inl (cI, G + 1, .inl (upd EN a (-1)))), (q3, .inl (cI, G + 1, .inl BI))] t9.heap; rw [ht9]; exact hP⟩, hS.F ht9⟩) hS.2.2 dX2_removeCell_24

set_option maxHeartbeats 4000000 in
set_option maxRecDepth 100000 in
/-- no cells -/
theorem k_X2_removeAll (l : Launch) (D : va_G) (cI cZ cJ : ClassId) (sz : Nat) (G : Nat) (EN : Nat → Int32) (fl : Int32) (g q0 q1 q2 q3 : Nat) (hG : G < 2 ^ 30) : Met l yX2_removeAll (Cond.code yX2_removeAll cX2_removeAll 1 none :: hwG) { frames := 1, cells := 0, slots := 0, locals := 23 } (hp_M [.ref g] D cI cZ cJ [(g, .inr (2, [.ref q0, .int (nI G), .ref q1, .ref q2, .ref q3, .int fl])), (q1, .inl (cI, G + 1, .inl EN))] sz) (va_Qv (S := Nat → Int32) (fun u => ∀ j, j ≤ G → u j = -1) (fun u t => va_P D vwCl ([(g, .inr (2, [.ref q0, .int (nI G), .ref q1, .ref q2, .ref q3, .int (nI 0)])), (q1, .inl (cI, G + 1, .inl u))]) t.heap) (va_A [(g, .inr (2, [.ref q0, .int (nI G), .ref q1, .ref q2, .ref q3, .int fl])), (q1, .inl (cI, G + 1, .inl EN))] sz)) 0 0 (va_A [(g, .inr (2, [.ref q0, .int (nI G), .ref q1, .ref q2, .ref q3, .int fl])), (q1, .inl (cI, G + 1, .inl EN))] sz) := by
  refine Met.ofW (cc := cX2_removeAll) (maxL := 1) (ret := none) (by decide) rfl ?_
  intro p e s m args below meth c s₁ B hml hv
  obtain ⟨rfl, hsz, hP, hz, hD0⟩ := hv
  have hx := B.exec
  have hb := B.bytes
  have hr := B.returns
  have hts := atoms_spec (ws := (Cond.code yX2_removeAll cX2_removeAll 1 none :: hwG)) B.pre
  have htg := fun w h => hts w (List.mem_cons_of_mem _ h)
  have hown : s.vm.findClass RX2 = some m.cls := findClass_of_methodNamed B.named
  have hlocks := B.notSynchronized
  have hK := hz.1
  subst hsz
  have hD := hD0.self (sz := s.heap.size)
  generalize hAe : va_A [(g, .inr (2, [.ref q0, .int (nI G), .ref q1, .ref q2, .ref q3, .int fl])), (q1, .inl (cI, G + 1, .inl EN))] s.heap.size = A at hD ⊢
  have hA : ∀ q : Nat, s.heap.size ≤ q → A q := fun q h => by rw [← hAe]; exact Or.inr h
  have hS : va_S A s.heap s.heap [] := va_S.rf
  have hl := lv_entry ([.ref g]) (n := 1) (Nat.le_of_ble_eq_true rfl)
  rw [lg_entry_eq]
  generalize (lg_sl ([.ref g]) ++ List.replicate (1 - (lg_sl ([.ref g])).length) Slot.unset).toArray = ls at hl ⊢
  replace hl : lv_has ls 1 [(0, .ref g)] := hl
  replace hP : va_P D vwCl [(g, .inr (2, [.ref q0, .int (nI G), .ref q1, .ref q2, .ref q3, .int fl])), (q1, .inl (cI, G + 1, .inl EN))] s.heap := hP
  refine lv_aload_n hx hb dX2_removeAll_0 rfl (lv_at hl 0 rfl) ?_
  refine va_get (D := D) (ci := 2) (v := .ref q1) (C := RX2) (T := TX2) (N := 6) hx hb htg hi_X2 hown hK hP 0 rfl rfl 2 (by decide) (htg _ hm_77) (fun _ h9 => h9) rfl dX2_removeAll_1 ?_
  refine lv_iconst (v := (-1)) hx hb dX2_removeAll_4 (by decide) ?_
  refine hv_callv (w1 := fun u => [(q1, .inl (cI, G + 1, .inl u))]) (va_runS (As := [.ref q1, .int (-1)]) (rest := []) ⟨hx, hb, hml, hown, htg⟩ (k_J7_fill l D cI cZ cJ _ EN (G + 1) q1 (-1) (by omega)) (va_cwS 2 htg (hg_S hm_70 hm_71 hm_4 hm_72) rfl rfl rfl (by decide +kernel) ⟨Nat.le_of_ble_eq_true rfl, Nat.le_of_ble_eq_true rfl⟩) ⟨hp_M_blind, hp_M_pre (hP.sub (ws' := [(q1, .inl (cI, G + 1, .inl EN))]) [1] rfl) (hD.sub (ws' := [(q1, .inl (cI, G + 1, .inl EN))]) [1] (by decide) rfl) hz⟩ rfl rfl hl.1 rfl (lv_room (Nat.le_of_ble_eq_true rfl)) dX2_removeAll_5 ⟨Nat.zero_le _, Nat.zero_le _⟩) hP hD hS hA [1] rfl (fun _ => rfl) (fun E1 H locs h1 hP hD hS => ?_)
  replace hP : va_P D vwCl [(g, .inr (2, [.ref q0, .int (nI G), .ref q1, .ref q2, .ref q3, .int fl])), (q1, .inl (cI, G + 1, .inl E1))] H := hP
  replace hD : va_D A [(g, .inr (2, [.ref q0, .int (nI G), .ref q1, .ref q2, .ref q3, .int fl])), (q1, .inl (cI, G + 1, .inl E1))] := hD
  refine lv_aload_n hx hb dX2_removeAll_8 rfl (lv_at hl 0 rfl) ?_
  refine lv_iconst (v := nI 0) hx hb dX2_removeAll_9 (by decide) ?_
  refine va_put (D := D) (ci := 2) (v := .int (nI 0)) (ty := .int) (C := RX2) (T := TX2) (N := 6) hx hb htg hi_X2 tyX2 tyX2_ok nmX2 hown hK hP hD hS 0 rfl rfl 5 (by decide) (htg _ hm_81) (fun _ h9 => h9) rfl (by decide +kernel) rfl rfl (Nat.le_of_ble_eq_true rfl) dX2_removeAll_10 (fun H locs hP hD hS => ?_)
  replace hP : va_P D vwCl [(g, .inr (2, [.ref q0, .int (nI G), .ref q1, .ref q2, .ref q3, .int (nI 0)])), (q1, .inl (cI, G + 1, .inl E1))] H := hP
  replace hD : va_D A [(g, .inr (2, [.ref q0, .int (nI G), .ref q1, .ref q2, .ref q3, .int (nI 0)])), (q1, .inl (cI, G + 1, .inl E1))] := hD
  exact W.vret hx hb hr (fun t9 ht9 hW9 => ⟨⟨E1, rfl, fun j hj => h1 j (by omega), by show va_P D vwCl [(g, .inr (2, [.ref q0, .int (nI G), .ref q1, .ref q2, .ref q3, .int (nI 0)])), (q1, .inl (cI, G + 1, .inl E1))] t9.heap; rw [ht9]; exact hP⟩, hS.F ht9⟩) hS.2.2 dX2_removeAll_13

set_option maxHeartbeats 4000000 in
set_option maxRecDepth 100000 in
/-- the least address without a cell -/
theorem k_X2_leastFreeAddress (l : Launch) (D : va_G) (cI cZ cJ : ClassId) (G : Nat) (EN LG BI : Nat → Int32) (nx : Nat → Option Nat) (lg : Nat → Bool) (bi : Nat → Nat) (fl : Int32) (g q0 q1 q2 q3 : Nat) (hG0 : 0 < G) (hG : G < 2 ^ 30) (hH : hs_hp G EN LG BI nx lg bi) : Met l yX2_leastFreeAddress (Cond.code yX2_leastFreeAddress cX2_leastFreeAddress 2 (some .int) :: hwG) { frames := 0, cells := 0, slots := 0, locals := 0 } (hp_R [.ref g] D cI cZ cJ [(g, .inr (2, [.ref q0, .int (nI G), .ref q1, .ref q2, .ref q3, .int fl])), (q1, .inl (cI, G + 1, .inl EN))]) (vp_Si (fun r => (r = -1 ∧ ∀ x, 1 ≤ x → x ≤ G → nx x ≠ none) ∨ ∃ a, r = nI a ∧ 1 ≤ a ∧ a ≤ G ∧ nx a = none ∧ ∀ x, 1 ≤ x → x < a → nx x ≠ none)) 0 0 (fun _ => False) := by
  refine Met.ofW (cc := cX2_leastFreeAddress) (maxL := 2) (ret := (some .int)) (by decide) rfl ?_
  intro p e s m args below meth c s₁ B hml hv
  obtain ⟨rfl, hP, hz⟩ := hv
  have hx := B.exec
  have hb := B.bytes
  have hr := B.returns
  have hts := atoms_spec (ws := (Cond.code yX2_leastFreeAddress cX2_leastFreeAddress 2 (some .int) :: hwG)) B.pre
  have htg := fun w h => hts w (List.mem_cons_of_mem _ h)
  have hown : s.vm.findClass RX2 = some m.cls := findClass_of_methodNamed B.named
  have hlocks := B.notSynchronized
  have hK := hz.1
  have hl := lv_entry ([.ref g]) (n := 2) (Nat.le_of_ble_eq_true rfl)
  rw [lg_entry_eq]
  generalize (lg_sl ([.ref g]) ++ List.replicate (2 - (lg_sl ([.ref g])).length) Slot.unset).toArray = ls at hl ⊢
  replace hl : lv_has ls 2 [(0, .ref g)] := hl
  refine lv_iconst (v := nI 1) hx hb dX2_leastFreeAddress_0 (by decide) ?_
  refine lv_istore_n hx hb dX2_leastFreeAddress_1 rfl hl (by decide) rfl (fun ls hl => ?_)
  replace hl : lv_has ls 2 [(1, .int (nI 1)), (0, .ref g)] := hl
  obtain ⟨b, e_b⟩ : ∃ z : Nat, z = 1 := ⟨_, rfl⟩
  replace hl : lv_has ls 2 [(1, .int (nI b)), (0, .ref g)] := by subst e_b; exact hl
  have hI : ∀ x, 1 ≤ x → x < b → nx x ≠ none := by subst e_b; exact fun x h1 h2 => absurd h2 (by omega)
  have hb1 : 1 ≤ b ∧ b ≤ G + 1 := by subst e_b; omega
  clear e_b
  obtain ⟨k, hk⟩ : ∃ k : Nat, k = G + 1 - b := ⟨_, rfl⟩
  induction k generalizing b ls  with
  | zero =>
    refine lv_iload_n hx hb dX2_leastFreeAddress_2 rfl (lv_at hl 0 rfl) ?_
    refine lv_aload_n hx hb dX2_leastFreeAddress_3 rfl (lv_at hl 1 rfl) ?_
    refine va_get (D := D) (ci := 2) (v := .int (nI G)) (C := RX2) (T := TX2) (N := 6) hx hb htg hi_X2 hown hK hP 0 rfl rfl 1 (by decide) (htg _ hm_76) (fun _ h9 => h9) rfl dX2_leastFreeAddress_4 ?_
    refine hw_icmp_gt hx hb (by omega) (by omega) dX2_leastFreeAddress_7 rfl (fun hc => ?_) (fun hc => absurd hc (by omega))
    refine lv_iconst (v := (-1)) hx hb dX2_leastFreeAddress_28 (by decide) ?_
    exact W.iret (v := -1) hx hb hr (fun t9 ht9 hW9 => ⟨_, rfl, Or.inl ⟨rfl, fun x h1 h2 => hI x h1 (by omega)⟩, ht9⟩) (fun _ h => nomatch h) dX2_leastFreeAddress_29
  | succ k ih =>
    refine lv_iload_n hx hb dX2_leastFreeAddress_2 rfl (lv_at hl 0 rfl) ?_
    refine lv_aload_n hx hb dX2_leastFreeAddress_3 rfl (lv_at hl 1 rfl) ?_
    refine va_get (D := D) (ci := 2) (v := .int (nI G)) (C := RX2) (T := TX2) (N := 6) hx hb htg hi_X2 hown hK hP 0 rfl rfl 1 (by decide) (htg _ hm_76) (fun _ h9 => h9) rfl dX2_leastFreeAddress_4 ?_
    refine hw_icmp_gt hx hb (by omega) (by omega) dX2_leastFreeAddress_7 rfl (fun hc => absurd hc (by omega)) (fun hc => ?_)
    refine lv_aload_n hx hb dX2_leastFreeAddress_10 rfl (lv_at hl 1 rfl) ?_
    refine va_get (D := D) (ci := 2) (v := .ref q1) (C := RX2) (T := TX2) (N := 6) hx hb htg hi_X2 hown hK hP 0 rfl rfl 2 (by decide) (htg _ hm_77) (fun _ h9 => h9) rfl dX2_leastFreeAddress_11 ?_
    refine lv_iload_n hx hb dX2_leastFreeAddress_14 rfl (lv_at hl 0 rfl) ?_
    refine hw_iald hx hb hK hP 1 0 rfl rfl (j := b) (by omega) (by first | decide | omega) (v := EN b) (rfl) dX2_leastFreeAddress_15 ?_
    refine lv_iconst (v := (-1)) hx hb dX2_leastFreeAddress_16 (by decide) ?_
    refine lv_icmp_ne hx hb dX2_leastFreeAddress_17 rfl (fun h1 => ?_) (fun h1 => ?_)
    · refine lv_iinc (v := nI (b + 1)) (k := 0) hx hb dX2_leastFreeAddress_22 hl rfl (hw_inc _) (by decide) rfl (fun ls hl => ?_)
      replace hl : lv_has ls 2 [(1, .int (nI (b + 1))), (0, .ref g)] := hl
      refine lv_goto hx hb dX2_leastFreeAddress_25 rfl ?_
      refine ih (hl := hl) (hI := (fun x h2 h3 => ?_)) (hb1 := (by omega)) (hk := (by omega))
      by_cases hxb : x = b
      · rw [hxb]; exact fun q => h1 ((hH.2 b (by omega) (by omega)).1 q)
      · exact hI x h2 (by omega)
    · refine lv_iload_n hx hb dX2_leastFreeAddress_20 rfl (lv_at hl 0 rfl) ?_
      exact W.iret (v := nI b) hx hb hr (fun t9 ht9 hW9 => ⟨_, rfl, Or.inr ⟨b, rfl, by omega, by omega, by cases hn : nx b with | none => rfl | some z => (have h8 := (hH.2 b (by omega) (by omega)).2 z hn; exact absurd (h8.2.1.symm.trans h1) (hs_nm1 z (by omega))), hI⟩, ht9⟩) (fun _ h => nomatch h) dX2_leastFreeAddress_21

set_option maxHeartbeats 4000000 in
set_option maxRecDepth 100000 in
/-- a CELL piece -/
theorem k_X2_takenByCell (l : Launch) (D : va_G) (cI cZ cJ : ClassId) (st en : Nat) (G : Nat) (EN LG BI : Nat → Int32) (nx : Nat → Option Nat) (lg : Nat → Bool) (bi : Nat → Nat) (fl : Int32) (g q0 q1 q2 q3 : Nat) (hst : st ≤ G) (hen : en ≤ G) (hG : G < 2 ^ 30) (hH : hs_hp G EN LG BI nx lg bi) : Met l yX2_takenByCell (Cond.code yX2_takenByCell cX2_takenByCell 3 (some .int) :: hwG) { frames := 1, cells := 0, slots := 0, locals := 21 } (hp_R [.ref g, .int (nI st), .int (nI en)] D cI cZ cJ [(g, .inr (2, [.ref q0, .int (nI G), .ref q1, .ref q2, .ref q3, .int fl])), (q1, .inl (cI, G + 1, .inl EN)), (q2, .inl (cZ, G + 1, .inl LG)), (q3, .inl (cI, G + 1, .inl BI))]) (vp_Si (fun r => hs_tk nx lg bi st en false r)) 0 0 (fun _ => False) := by
  refine Met.ofW (cc := cX2_takenByCell) (maxL := 3) (ret := (some .int)) (by decide) rfl ?_
  intro p e s m args below meth c s₁ B hml hv
  obtain ⟨rfl, hP, hz⟩ := hv
  have hx := B.exec
  have hb := B.bytes
  have hr := B.returns
  have hts := atoms_spec (ws := (Cond.code yX2_takenByCell cX2_takenByCell 3 (some .int) :: hwG)) B.pre
  have htg := fun w h => hts w (List.mem_cons_of_mem _ h)
  have hown : s.vm.findClass RX2 = some m.cls := findClass_of_methodNamed B.named
  have hlocks := B.notSynchronized
  have hK := hz.1
  have hl := lv_entry ([.ref g, .int (nI st), .int (nI en)]) (n := 3) (Nat.le_of_ble_eq_true rfl)
  rw [lg_entry_eq]
  generalize (lg_sl ([.ref g, .int (nI st), .int (nI en)]) ++ List.replicate (3 - (lg_sl ([.ref g, .int (nI st), .int (nI en)])).length) Slot.unset).toArray = ls at hl ⊢
  replace hl : lv_has ls 3 [(0, .ref g), (1, .int (nI st)), (2, .int (nI en))] := hl
  refine lv_aload_n hx hb dX2_takenByCell_0 rfl (lv_at hl 0 rfl) ?_
  refine lv_iload_n hx hb dX2_takenByCell_1 rfl (lv_at hl 1 rfl) ?_
  refine hw_csi (va_runV (C := RX2) (b := g) (As := [.int (nI st)]) (rest := []) ⟨hx, hb, hml, hown, htg⟩ (k_X2_hasCell l D cI cZ cJ st G EN LG BI nx lg bi fl g q0 q1 q2 q3 (by omega) hG hH) (cwV 1 htg (hg_V hm_174 hm_158 hm_159 hm_3 hm_160) rfl rfl rfl (by decide +kernel) ⟨Nat.le_of_ble_eq_true rfl, Nat.le_of_ble_eq_true rfl⟩) ⟨hp_R_blind, va_recv (q := (RX2, TX2, 6)) (q0 := 0) (ci := 2) hK hP rfl rfl, hp_R_pre (hP.sub (ws' := [(g, .inr (2, [.ref q0, .int (nI G), .ref q1, .ref q2, .ref q3, .int fl])), (q1, .inl (cI, G + 1, .inl EN))]) [0, 1] rfl) hz⟩ rfl rfl hl.1 rfl (lv_room (Nat.le_of_ble_eq_true rfl)) dX2_takenByCell_2 ⟨Nat.zero_le _, Nat.zero_le _⟩) (fun r hq => ?_)
  rcases hq with ⟨rfl, hq⟩ | ⟨rfl, hq⟩
  · refine lv_if_eq hx hb dX2_takenByCell_5 rfl (fun hc => absurd hc (by decide)) (fun hc => ?_)
    obtain ⟨z, hz9⟩ : ∃ z, nx st = some z := by cases hn : nx st with | none => exact absurd hn hq | some z => exact ⟨z, rfl⟩
    have hst := hH.1 st hq
    obtain ⟨j1, j2, j3, j4, j5⟩ := (hH.2 st hst.1 hst.2).2 z hz9
    refine lv_aload_n hx hb dX2_takenByCell_8 rfl (lv_at hl 0 rfl) ?_
    refine va_get (D := D) (ci := 2) (v := .ref q2) (C := RX2) (T := TX2) (N := 6) hx hb htg hi_X2 hown hK hP 0 rfl rfl 3 (by decide) (htg _ hm_79) (fun _ h9 => h9) rfl dX2_takenByCell_9 ?_
    refine lv_iload_n hx hb dX2_takenByCell_12 rfl (lv_at hl 1 rfl) ?_
    refine hw_zald hx hb hK hP 2 1 rfl rfl (j := st) (by omega) (by first | decide | omega) (v := hc_b (lg st)) (j3) dX2_takenByCell_13 ?_
    refine hw_ifne_b hx hb dX2_takenByCell_14 rfl (fun hc1 => ?_) (fun hc1 => ?_)
    · refine lv_iconst (v := (-1)) hx hb dX2_takenByCell_27 (by decide) ?_
      exact W.iret (v := -1) hx hb hr (fun t9 ht9 hW9 => ⟨_, rfl, Or.inl ⟨rfl, fun ⟨l9, h9, _⟩ => by rw [(h9.2 rfl).2.2] at hc1; cases hc1⟩, ht9⟩) (fun _ h => nomatch h) dX2_takenByCell_28
    · refine lv_aload_n hx hb dX2_takenByCell_17 rfl (lv_at hl 0 rfl) ?_
      refine va_get (D := D) (ci := 2) (v := .ref q1) (C := RX2) (T := TX2) (N := 6) hx hb htg hi_X2 hown hK hP 0 rfl rfl 2 (by decide) (htg _ hm_77) (fun _ h9 => h9) rfl dX2_takenByCell_18 ?_
      refine lv_iload_n hx hb dX2_takenByCell_21 rfl (lv_at hl 1 rfl) ?_
      refine hw_iald hx hb hK hP 1 0 rfl rfl (j := st) (by omega) (by first | decide | omega) (v := nI z) (j2) dX2_takenByCell_22 ?_
      refine lv_iload_n hx hb dX2_takenByCell_23 rfl (lv_at hl 2 rfl) ?_
      refine hw_icmp_eq hx hb (by omega) (by omega) dX2_takenByCell_24 rfl (fun hc2 => ?_) (fun hc2 => ?_)
      · refine lv_aload_n hx hb dX2_takenByCell_29 rfl (lv_at hl 0 rfl) ?_
        refine va_get (D := D) (ci := 2) (v := .ref q3) (C := RX2) (T := TX2) (N := 6) hx hb htg hi_X2 hown hK hP 0 rfl rfl 4 (by decide) (htg _ hm_80) (fun _ h9 => h9) rfl dX2_takenByCell_30 ?_
        refine lv_iload_n hx hb dX2_takenByCell_33 rfl (lv_at hl 1 rfl) ?_
        refine hw_iald hx hb hK hP 3 0 rfl rfl (j := st) (by omega) (by first | decide | omega) (v := (1 : Int32) <<< (nI (bi st) &&& 31)) (j4) dX2_takenByCell_34 ?_
        have hbits : ∀ j, j < 32 → (bt ((1 : Int32) <<< (nI (bi st) &&& 31)) j = true ↔ ∃ a, a ∈ [st] ∧ bi a = j) := fun j hj => by
          rw [hb_1 (bi st) (by omega) j hj, decide_eq_true_eq]
          exact ⟨fun h => ⟨st, List.mem_cons_self, h.symm⟩, fun ⟨a, h1, h2⟩ => by rw [← h2, List.mem_singleton.mp h1]⟩
        exact W.iret (v := (1 : Int32) <<< (nI (bi st) &&& 31)) hx hb hr (fun t9 ht9 hW9 => ⟨_, rfl, Or.inr ⟨hb_m1 (i := 31) (by omega) (by rw [hb_1 (bi st) (by omega) 31 (by omega)]; exact decide_eq_false (by omega)), [st], ⟨⟨fun h => (by cases h), fun _ => ⟨rfl, by rw [hz9, hc2], hc1⟩⟩, fun h => (by cases h)⟩, hbits⟩, ht9⟩) (fun _ h => nomatch h) dX2_takenByCell_35
      · refine lv_iconst (v := (-1)) hx hb dX2_takenByCell_27 (by decide) ?_
        exact W.iret (v := -1) hx hb hr (fun t9 ht9 hW9 => ⟨_, rfl, Or.inl ⟨rfl, fun ⟨l9, h9, _⟩ => by have h8 := (h9.2 rfl).2.1; rw [hz9] at h8; injection h8 with h8; exact hc2 h8⟩, ht9⟩) (fun _ h => nomatch h) dX2_takenByCell_28
  · refine lv_if_eq hx hb dX2_takenByCell_5 rfl (fun hc => ?_) (fun hc => absurd rfl hc)
    refine lv_iconst (v := (-1)) hx hb dX2_takenByCell_27 (by decide) ?_
    exact W.iret (v := -1) hx hb hr (fun t9 ht9 hW9 => ⟨_, rfl, Or.inl ⟨rfl, fun ⟨l9, h9, _⟩ => hq (by rw [(h9.2 rfl).2.1]; exact fun q => nomatch q)⟩, ht9⟩) (fun _ h => nomatch h) dX2_takenByCell_28

set_option maxHeartbeats 4000000 in
set_option maxRecDepth 100000 in
/-- a LIST piece -/
theorem k_X2_takenByList (l : Launch) (D : va_G) (cI cZ cJ : ClassId) (st en : Nat) (G : Nat) (EN LG BI : Nat → Int32) (nx : Nat → Option Nat) (lg : Nat → Bool) (bi : Nat → Nat) (fl : Int32) (g q0 q1 q2 q3 : Nat) (hst : st ≤ G) (hen : en ≤ G) (hG : G < 2 ^ 30) (hH : hs_hp G EN LG BI nx lg bi) : Met l yX2_takenByList (Cond.code yX2_takenByList cX2_takenByList 7 (some .int) :: hwG) { frames := 1, cells := 0, slots := 0, locals := 21 } (hp_R [.ref g, .int (nI st), .int (nI en)] D cI cZ cJ [(g, .inr (2, [.ref q0, .int (nI G), .ref q1, .ref q2, .ref q3, .int fl])), (q1, .inl (cI, G + 1, .inl EN)), (q2, .inl (cZ, G + 1, .inl LG)), (q3, .inl (cI, G + 1, .inl BI))]) (vp_Si (fun r => hs_tk nx lg bi st en true r)) 0 0 (fun _ => False) := by
  refine Met.ofW (cc := cX2_takenByList) (maxL := 7) (ret := (some .int)) (by decide) rfl ?_
  intro p e s m args below meth c s₁ B hml hv
  obtain ⟨rfl, hP, hz⟩ := hv
  have hx := B.exec
  have hb := B.bytes
  have hr := B.returns
  have hts := atoms_spec (ws := (Cond.code yX2_takenByList cX2_takenByList 7 (some .int) :: hwG)) B.pre
  have htg := fun w h => hts w (List.mem_cons_of_mem _ h)
  have hown : s.vm.findClass RX2 = some m.cls := findClass_of_methodNamed B.named
  have hlocks := B.notSynchronized
  have hK := hz.1
  have hl := lv_entry ([.ref g, .int (nI st), .int (nI en)]) (n := 7) (Nat.le_of_ble_eq_true rfl)
  rw [lg_entry_eq]
  generalize (lg_sl ([.ref g, .int (nI st), .int (nI en)]) ++ List.replicate (7 - (lg_sl ([.ref g, .int (nI st), .int (nI en)])).length) Slot.unset).toArray = ls at hl ⊢
  replace hl : lv_has ls 7 [(0, .ref g), (1, .int (nI st)), (2, .int (nI en))] := hl
  refine lv_iload_n hx hb dX2_takenByList_0 rfl (lv_at hl 2 rfl) ?_
  refine lv_if_eq hx hb dX2_takenByList_1 rfl (fun he0 => ?_) (fun he0 => ?_)
  · have he9 : en = 0 := by have := nI_eq (a := en) (b := 0) (by omega) (by omega); rw [nI_0] at this; exact this.mp he0
    refine lv_iconst (v := nI 0) hx hb dX2_takenByList_16 (by decide) ?_
    obtain ⟨lo, hlo⟩ : ∃ lo : Bool, (lo = true ↔ hc_lo nx 0 en) ∧ lo = false := ⟨false, ⟨fun h => (by cases h), fun h => absurd he9 h.1⟩, rfl⟩
    have hflag : nI 0 = hc_b lo := by rw [hlo.2]; rfl
    rw [hflag]
    refine lv_istore_n hx hb dX2_takenByList_17 rfl hl (by decide) rfl (fun ls hl => ?_)
    replace hl : lv_has ls 7 [(3, .int (hc_b lo)), (0, .ref g), (1, .int (nI st)), (2, .int (nI en))] := hl
    refine lv_iconst (v := nI 0) hx hb dX2_takenByList_18 (by decide) ?_
    refine lv_istore hx hb dX2_takenByList_19 hl (by decide) rfl (fun ls hl => ?_)
    replace hl : lv_has ls 7 [(4, .int (nI 0)), (3, .int (hc_b lo)), (0, .ref g), (1, .int (nI st)), (2, .int (nI en))] := hl
    refine lv_iload_n hx hb dX2_takenByList_21 rfl (lv_at hl 3 rfl) ?_
    refine lv_istore hx hb dX2_takenByList_22 hl (by decide) rfl (fun ls hl => ?_)
    replace hl : lv_has ls 7 [(5, .int (nI st)), (4, .int (nI 0)), (3, .int (hc_b lo)), (0, .ref g), (1, .int (nI st)), (2, .int (nI en))] := hl
    refine lv_iconst (v := nI 0) hx hb dX2_takenByList_24 (by decide) ?_
    refine lv_istore hx hb dX2_takenByList_25 hl (by decide) rfl (fun ls hl => ?_)
    replace hl : lv_has ls 7 [(6, .int (nI 0)), (5, .int (nI st)), (4, .int (nI 0)), (3, .int (hc_b lo)), (0, .ref g), (1, .int (nI st)), (2, .int (nI en))] := hl
    obtain ⟨k9, e_k9⟩ : ∃ z : Nat, z = 0 := ⟨_, rfl⟩
    obtain ⟨x, e_x⟩ : ∃ z : Nat, z = st := ⟨_, rfl⟩
    obtain ⟨T, e_T⟩ : ∃ z : Int32, z = nI 0 := ⟨_, rfl⟩
    obtain ⟨pre, e_pre⟩ : ∃ z : List Nat, z = ([] : List Nat) := ⟨_, rfl⟩
    replace hl : lv_has ls 7 [(6, .int (nI k9)), (5, .int (nI x)), (4, .int T), (3, .int (hc_b lo)), (0, .ref g), (1, .int (nI st)), (2, .int (nI en))] := by subst e_k9 e_x e_T e_pre; exact hl
    have hx9 : x ≤ G := by subst e_k9 e_x e_T e_pre; exact hst
    have hPP : hc_PP nx en x pre st := by subst e_k9 e_x e_T e_pre; exact rfl
    have hlen : pre.length = k9 := by subst e_k9 e_x e_T e_pre; rfl
    have hT : ∀ j, j < 32 → (bt T j = true ↔ ∃ a, a ∈ pre ∧ bi a = j) := by subst e_k9 e_x e_T e_pre; exact fun j hj => by rw [hb_nI 0 hj]; simp
    have hpl : hc_lo nx 0 en → ∀ a, a ∈ pre → lg a = true → nx a = some en := by subst e_k9 e_x e_T e_pre; exact fun _ a ha => absurd ha List.not_mem_nil
    have hk9 : k9 ≤ G := by subst e_k9 e_x e_T e_pre; exact Nat.zero_le _
    clear e_k9 e_x e_T e_pre
    obtain ⟨k, hk⟩ : ∃ k : Nat, k = G - k9 := ⟨_, rfl⟩
    induction k generalizing k9 x T pre ls  with
    | zero =>
      refine lv_iload hx hb dX2_takenByList_27 (lv_at hl 0 rfl) ?_
      refine lv_aload_n hx hb dX2_takenByList_29 rfl (lv_at hl 4 rfl) ?_
      refine va_get (D := D) (ci := 2) (v := .int (nI G)) (C := RX2) (T := TX2) (N := 6) hx hb htg hi_X2 hown hK hP 0 rfl rfl 1 (by decide) (htg _ hm_76) (fun _ h9 => h9) rfl dX2_takenByList_30 ?_
      refine hw_icmp_ge hx hb (by omega) (by omega) dX2_takenByList_33 rfl (fun hc => ?_) (fun hc => absurd hc (by omega))
      refine lv_iload hx hb dX2_takenByList_107 (lv_at hl 1 rfl) ?_
      refine lv_iload_n hx hb dX2_takenByList_109 rfl (lv_at hl 6 rfl) ?_
      refine hw_icmp_ne hx hb (by omega) (by omega) dX2_takenByList_110 rfl (fun hc7 => ?_) (fun hc7 => ?_)
      · refine lv_iconst (v := (-1)) hx hb dX2_takenByList_118 (by decide) ?_
        exact W.iret (v := -1) hx hb hr (fun t9 ht9 hW9 => ⟨_, rfl, Or.inl ⟨rfl, hc_walk_long hH.1 hPP hc7 (by omega)⟩, ht9⟩) (fun _ h => nomatch h) dX2_takenByList_119
      · have hXE : hc_PP nx en en pre st := by rw [hc7] at hPP; exact hPP
        refine lv_iload hx hb dX2_takenByList_113 (lv_at hl 2 rfl) ?_
        refine lv_goto hx hb dX2_takenByList_115 rfl ?_
        exact W.iret (v := T) hx hb hr (fun t9 ht9 hW9 => ⟨_, rfl, Or.inr ⟨hs_bit31 (fun a ha => by cases hn : nx a with | none => exact absurd hn ha | some z => exact ((hH.2 a (hH.1 a ha).1 (hH.1 a ha).2).2 z hn).2.2.2.2) hT (fun a ha => hs_cell (hc_walk_done (hXE) hpl) ha), pre, hc_walk_done hXE hpl, hT⟩, ht9⟩) (fun _ h => nomatch h) dX2_takenByList_119
    | succ k ih =>
      refine lv_iload hx hb dX2_takenByList_27 (lv_at hl 0 rfl) ?_
      refine lv_aload_n hx hb dX2_takenByList_29 rfl (lv_at hl 4 rfl) ?_
      refine va_get (D := D) (ci := 2) (v := .int (nI G)) (C := RX2) (T := TX2) (N := 6) hx hb htg hi_X2 hown hK hP 0 rfl rfl 1 (by decide) (htg _ hm_76) (fun _ h9 => h9) rfl dX2_takenByList_30 ?_
      refine hw_icmp_ge hx hb (by omega) (by omega) dX2_takenByList_33 rfl (fun hc => absurd hc (by omega)) (fun hc => ?_)
      refine lv_iload hx hb dX2_takenByList_36 (lv_at hl 1 rfl) ?_
      refine lv_iload_n hx hb dX2_takenByList_38 rfl (lv_at hl 6 rfl) ?_
      refine hw_icmp_eq hx hb (by omega) (by omega) dX2_takenByList_39 rfl (fun hc7 => ?_) (fun hc7 => ?_)
      · refine lv_iload hx hb dX2_takenByList_107 (lv_at hl 1 rfl) ?_
        refine lv_iload_n hx hb dX2_takenByList_109 rfl (lv_at hl 6 rfl) ?_
        refine hw_icmp_ne hx hb (by omega) (by omega) dX2_takenByList_110 rfl (fun hc => absurd hc7 hc) (fun hc => ?_)
        have hXE : hc_PP nx en en pre st := by rw [hc7] at hPP; exact hPP
        refine lv_iload hx hb dX2_takenByList_113 (lv_at hl 2 rfl) ?_
        refine lv_goto hx hb dX2_takenByList_115 rfl ?_
        exact W.iret (v := T) hx hb hr (fun t9 ht9 hW9 => ⟨_, rfl, Or.inr ⟨hs_bit31 (fun a ha => by cases hn : nx a with | none => exact absurd hn ha | some z => exact ((hH.2 a (hH.1 a ha).1 (hH.1 a ha).2).2 z hn).2.2.2.2) hT (fun a ha => hs_cell (hc_walk_done (hXE) hpl) ha), pre, hc_walk_done hXE hpl, hT⟩, ht9⟩) (fun _ h => nomatch h) dX2_takenByList_119
      · refine lv_aload_n hx hb dX2_takenByList_42 rfl (lv_at hl 4 rfl) ?_
        refine lv_iload hx hb dX2_takenByList_43 (lv_at hl 1 rfl) ?_
        refine hw_csi (va_runV (C := RX2) (b := g) (As := [.int (nI x)]) (rest := []) ⟨hx, hb, hml, hown, htg⟩ (k_X2_hasCell l D cI cZ cJ x G EN LG BI nx lg bi fl g q0 q1 q2 q3 (by omega) hG hH) (cwV 1 htg (hg_V hm_174 hm_158 hm_159 hm_3 hm_160) rfl rfl rfl (by decide +kernel) ⟨Nat.le_of_ble_eq_true rfl, Nat.le_of_ble_eq_true rfl⟩) ⟨hp_R_blind, va_recv (q := (RX2, TX2, 6)) (q0 := 0) (ci := 2) hK hP rfl rfl, hp_R_pre (hP.sub (ws' := [(g, .inr (2, [.ref q0, .int (nI G), .ref q1, .ref q2, .ref q3, .int fl])), (q1, .inl (cI, G + 1, .inl EN))]) [0, 1] rfl) hz⟩ rfl rfl hl.1 rfl (lv_room (Nat.le_of_ble_eq_true rfl)) dX2_takenByList_45 ⟨Nat.zero_le _, Nat.zero_le _⟩) (fun r hq => ?_)
        rcases hq with ⟨rfl, hq⟩ | ⟨rfl, hq⟩
        · refine lv_if_ne hx hb dX2_takenByList_48 rfl (fun hc => ?_) (fun hc => absurd hc (by decide))
          obtain ⟨z, hz9⟩ : ∃ z, nx x = some z := by cases hn : nx x with | none => exact absurd hn hq | some z => exact ⟨z, rfl⟩
          have hxx := hH.1 x hq
          obtain ⟨j1, j2, j3, j4, j5⟩ := (hH.2 x hxx.1 hxx.2).2 z hz9
          refine lv_iload_n hx hb dX2_takenByList_53 rfl (lv_at hl 3 rfl) ?_
          refine hw_ifeq_b hx hb dX2_takenByList_54 rfl (fun hf1 => ?_) (fun hf1 => ?_)
          · refine lv_iload hx hb dX2_takenByList_80 (lv_at hl 2 rfl) ?_
            refine lv_aload_n hx hb dX2_takenByList_82 rfl (lv_at hl 4 rfl) ?_
            refine va_get (D := D) (ci := 2) (v := .ref q3) (C := RX2) (T := TX2) (N := 6) hx hb htg hi_X2 hown hK hP 0 rfl rfl 4 (by decide) (htg _ hm_80) (fun _ h9 => h9) rfl dX2_takenByList_83 ?_
            refine lv_iload hx hb dX2_takenByList_86 (lv_at hl 1 rfl) ?_
            refine hw_iald hx hb hK hP 3 0 rfl rfl (j := x) (by omega) (by first | decide | omega) (v := (1 : Int32) <<< (nI (bi x) &&& 31)) (j4) dX2_takenByList_88 ?_
            refine lv_ior hx hb dX2_takenByList_89 ?_
            refine lv_istore hx hb dX2_takenByList_90 hl (by decide) rfl (fun ls hl => ?_)
            replace hl : lv_has ls 7 [(4, .int (T ||| ((1 : Int32) <<< (nI (bi x) &&& 31)))), (6, .int (nI k9)), (5, .int (nI x)), (3, .int (hc_b lo)), (0, .ref g), (1, .int (nI st)), (2, .int (nI en))] := hl
            refine lv_aload_n hx hb dX2_takenByList_92 rfl (lv_at hl 4 rfl) ?_
            refine va_get (D := D) (ci := 2) (v := .ref q1) (C := RX2) (T := TX2) (N := 6) hx hb htg hi_X2 hown hK hP 0 rfl rfl 2 (by decide) (htg _ hm_77) (fun _ h9 => h9) rfl dX2_takenByList_93 ?_
            refine lv_iload hx hb dX2_takenByList_96 (lv_at hl 2 rfl) ?_
            refine hw_iald hx hb hK hP 1 0 rfl rfl (j := x) (by omega) (by first | decide | omega) (v := nI z) (j2) dX2_takenByList_98 ?_
            refine lv_istore hx hb dX2_takenByList_99 hl (by decide) rfl (fun ls hl => ?_)
            replace hl : lv_has ls 7 [(5, .int (nI z)), (4, .int (T ||| ((1 : Int32) <<< (nI (bi x) &&& 31)))), (6, .int (nI k9)), (3, .int (hc_b lo)), (0, .ref g), (1, .int (nI st)), (2, .int (nI en))] := hl
            refine lv_iinc (v := nI (k9 + 1)) (k := 2) hx hb dX2_takenByList_101 hl rfl (hw_inc _) (by decide) rfl (fun ls hl => ?_)
            replace hl : lv_has ls 7 [(6, .int (nI (k9 + 1))), (5, .int (nI z)), (4, .int (T ||| ((1 : Int32) <<< (nI (bi x) &&& 31)))), (3, .int (hc_b lo)), (0, .ref g), (1, .int (nI st)), (2, .int (nI en))] := hl
            refine lv_goto hx hb dX2_takenByList_104 rfl ?_
            refine ih (hl := hl) (hx9 := j1) (hPP := (hc_PP_snoc hc7 hz9 _ _ hPP)) (hlen := (by rw [List.length_append, hlen]; rfl)) (hT := (fun j hj => ?_)) (hpl := (fun hlo9 a ha hla => ?_)) (hk9 := (by omega)) (hk := (by omega))
            · rw [b_or, Bool.or_eq_true, hT j hj, hb_1 (bi x) (by omega) j hj, decide_eq_true_eq]
              constructor
              · rintro (⟨a, h1, h2⟩ | h1)
                · exact ⟨a, List.mem_append.mpr (Or.inl h1), h2⟩
                · exact ⟨x, List.mem_append.mpr (Or.inr List.mem_cons_self), h1.symm⟩
              · rintro ⟨a, h1, h2⟩
                rcases List.mem_append.mp h1 with h1 | h1
                · exact Or.inl ⟨a, h1, h2⟩
                · exact Or.inr (by rw [← h2, List.mem_singleton.mp h1])
            · rcases List.mem_append.mp ha with ha | ha
              · exact hpl hlo9 a ha hla
              · rw [List.mem_singleton.mp ha] at hla ⊢
                exact absurd (hlo.1.mpr hlo9) (by rw [hf1]; decide)
          · refine lv_aload_n hx hb dX2_takenByList_57 rfl (lv_at hl 4 rfl) ?_
            refine va_get (D := D) (ci := 2) (v := .ref q2) (C := RX2) (T := TX2) (N := 6) hx hb htg hi_X2 hown hK hP 0 rfl rfl 3 (by decide) (htg _ hm_79) (fun _ h9 => h9) rfl dX2_takenByList_58 ?_
            refine lv_iload hx hb dX2_takenByList_61 (lv_at hl 1 rfl) ?_
            refine hw_zald hx hb hK hP 2 1 rfl rfl (j := x) (by omega) (by first | decide | omega) (v := hc_b (lg x)) (j3) dX2_takenByList_63 ?_
            refine hw_ifeq_b hx hb dX2_takenByList_64 rfl (fun hf2 => ?_) (fun hf2 => ?_)
            · refine lv_iload hx hb dX2_takenByList_80 (lv_at hl 2 rfl) ?_
              refine lv_aload_n hx hb dX2_takenByList_82 rfl (lv_at hl 4 rfl) ?_
              refine va_get (D := D) (ci := 2) (v := .ref q3) (C := RX2) (T := TX2) (N := 6) hx hb htg hi_X2 hown hK hP 0 rfl rfl 4 (by decide) (htg _ hm_80) (fun _ h9 => h9) rfl dX2_takenByList_83 ?_
              refine lv_iload hx hb dX2_takenByList_86 (lv_at hl 1 rfl) ?_
              refine hw_iald hx hb hK hP 3 0 rfl rfl (j := x) (by omega) (by first | decide | omega) (v := (1 : Int32) <<< (nI (bi x) &&& 31)) (j4) dX2_takenByList_88 ?_
              refine lv_ior hx hb dX2_takenByList_89 ?_
              refine lv_istore hx hb dX2_takenByList_90 hl (by decide) rfl (fun ls hl => ?_)
              replace hl : lv_has ls 7 [(4, .int (T ||| ((1 : Int32) <<< (nI (bi x) &&& 31)))), (6, .int (nI k9)), (5, .int (nI x)), (3, .int (hc_b lo)), (0, .ref g), (1, .int (nI st)), (2, .int (nI en))] := hl
              refine lv_aload_n hx hb dX2_takenByList_92 rfl (lv_at hl 4 rfl) ?_
              refine va_get (D := D) (ci := 2) (v := .ref q1) (C := RX2) (T := TX2) (N := 6) hx hb htg hi_X2 hown hK hP 0 rfl rfl 2 (by decide) (htg _ hm_77) (fun _ h9 => h9) rfl dX2_takenByList_93 ?_
              refine lv_iload hx hb dX2_takenByList_96 (lv_at hl 2 rfl) ?_
              refine hw_iald hx hb hK hP 1 0 rfl rfl (j := x) (by omega) (by first | decide | omega) (v := nI z) (j2) dX2_takenByList_98 ?_
              refine lv_istore hx hb dX2_takenByList_99 hl (by decide) rfl (fun ls hl => ?_)
              replace hl : lv_has ls 7 [(5, .int (nI z)), (4, .int (T ||| ((1 : Int32) <<< (nI (bi x) &&& 31)))), (6, .int (nI k9)), (3, .int (hc_b lo)), (0, .ref g), (1, .int (nI st)), (2, .int (nI en))] := hl
              refine lv_iinc (v := nI (k9 + 1)) (k := 2) hx hb dX2_takenByList_101 hl rfl (hw_inc _) (by decide) rfl (fun ls hl => ?_)
              replace hl : lv_has ls 7 [(6, .int (nI (k9 + 1))), (5, .int (nI z)), (4, .int (T ||| ((1 : Int32) <<< (nI (bi x) &&& 31)))), (3, .int (hc_b lo)), (0, .ref g), (1, .int (nI st)), (2, .int (nI en))] := hl
              refine lv_goto hx hb dX2_takenByList_104 rfl ?_
              refine ih (hl := hl) (hx9 := j1) (hPP := (hc_PP_snoc hc7 hz9 _ _ hPP)) (hlen := (by rw [List.length_append, hlen]; rfl)) (hT := (fun j hj => ?_)) (hpl := (fun hlo9 a ha hla => ?_)) (hk9 := (by omega)) (hk := (by omega))
              · rw [b_or, Bool.or_eq_true, hT j hj, hb_1 (bi x) (by omega) j hj, decide_eq_true_eq]
                constructor
                · rintro (⟨a, h1, h2⟩ | h1)
                  · exact ⟨a, List.mem_append.mpr (Or.inl h1), h2⟩
                  · exact ⟨x, List.mem_append.mpr (Or.inr List.mem_cons_self), h1.symm⟩
                · rintro ⟨a, h1, h2⟩
                  rcases List.mem_append.mp h1 with h1 | h1
                  · exact Or.inl ⟨a, h1, h2⟩
                  · exact Or.inr (by rw [← h2, List.mem_singleton.mp h1])
              · rcases List.mem_append.mp ha with ha | ha
                · exact hpl hlo9 a ha hla
                · rw [List.mem_singleton.mp ha] at hla ⊢
                  rw [hf2] at hla; cases hla
            · refine lv_aload_n hx hb dX2_takenByList_67 rfl (lv_at hl 4 rfl) ?_
              refine va_get (D := D) (ci := 2) (v := .ref q1) (C := RX2) (T := TX2) (N := 6) hx hb htg hi_X2 hown hK hP 0 rfl rfl 2 (by decide) (htg _ hm_77) (fun _ h9 => h9) rfl dX2_takenByList_68 ?_
              refine lv_iload hx hb dX2_takenByList_71 (lv_at hl 1 rfl) ?_
              refine hw_iald hx hb hK hP 1 0 rfl rfl (j := x) (by omega) (by first | decide | omega) (v := nI z) (j2) dX2_takenByList_73 ?_
              refine lv_iload_n hx hb dX2_takenByList_74 rfl (lv_at hl 6 rfl) ?_
              refine hw_icmp_eq hx hb (by omega) (by omega) dX2_takenByList_75 rfl (fun hf3 => ?_) (fun hf3 => ?_)
              · refine lv_iload hx hb dX2_takenByList_80 (lv_at hl 2 rfl) ?_
                refine lv_aload_n hx hb dX2_takenByList_82 rfl (lv_at hl 4 rfl) ?_
                refine va_get (D := D) (ci := 2) (v := .ref q3) (C := RX2) (T := TX2) (N := 6) hx hb htg hi_X2 hown hK hP 0 rfl rfl 4 (by decide) (htg _ hm_80) (fun _ h9 => h9) rfl dX2_takenByList_83 ?_
                refine lv_iload hx hb dX2_takenByList_86 (lv_at hl 1 rfl) ?_
                refine hw_iald hx hb hK hP 3 0 rfl rfl (j := x) (by omega) (by first | decide | omega) (v := (1 : Int32) <<< (nI (bi x) &&& 31)) (j4) dX2_takenByList_88 ?_
                refine lv_ior hx hb dX2_takenByList_89 ?_
                refine lv_istore hx hb dX2_takenByList_90 hl (by decide) rfl (fun ls hl => ?_)
                replace hl : lv_has ls 7 [(4, .int (T ||| ((1 : Int32) <<< (nI (bi x) &&& 31)))), (6, .int (nI k9)), (5, .int (nI x)), (3, .int (hc_b lo)), (0, .ref g), (1, .int (nI st)), (2, .int (nI en))] := hl
                refine lv_aload_n hx hb dX2_takenByList_92 rfl (lv_at hl 4 rfl) ?_
                refine va_get (D := D) (ci := 2) (v := .ref q1) (C := RX2) (T := TX2) (N := 6) hx hb htg hi_X2 hown hK hP 0 rfl rfl 2 (by decide) (htg _ hm_77) (fun _ h9 => h9) rfl dX2_takenByList_93 ?_
                refine lv_iload hx hb dX2_takenByList_96 (lv_at hl 2 rfl) ?_
                refine hw_iald hx hb hK hP 1 0 rfl rfl (j := x) (by omega) (by first | decide | omega) (v := nI z) (j2) dX2_takenByList_98 ?_
                refine lv_istore hx hb dX2_takenByList_99 hl (by decide) rfl (fun ls hl => ?_)
                replace hl : lv_has ls 7 [(5, .int (nI z)), (4, .int (T ||| ((1 : Int32) <<< (nI (bi x) &&& 31)))), (6, .int (nI k9)), (3, .int (hc_b lo)), (0, .ref g), (1, .int (nI st)), (2, .int (nI en))] := hl
                refine lv_iinc (v := nI (k9 + 1)) (k := 2) hx hb dX2_takenByList_101 hl rfl (hw_inc _) (by decide) rfl (fun ls hl => ?_)
                replace hl : lv_has ls 7 [(6, .int (nI (k9 + 1))), (5, .int (nI z)), (4, .int (T ||| ((1 : Int32) <<< (nI (bi x) &&& 31)))), (3, .int (hc_b lo)), (0, .ref g), (1, .int (nI st)), (2, .int (nI en))] := hl
                refine lv_goto hx hb dX2_takenByList_104 rfl ?_
                refine ih (hl := hl) (hx9 := j1) (hPP := (hc_PP_snoc hc7 hz9 _ _ hPP)) (hlen := (by rw [List.length_append, hlen]; rfl)) (hT := (fun j hj => ?_)) (hpl := (fun hlo9 a ha hla => ?_)) (hk9 := (by omega)) (hk := (by omega))
                · rw [b_or, Bool.or_eq_true, hT j hj, hb_1 (bi x) (by omega) j hj, decide_eq_true_eq]
                  constructor
                  · rintro (⟨a, h1, h2⟩ | h1)
                    · exact ⟨a, List.mem_append.mpr (Or.inl h1), h2⟩
                    · exact ⟨x, List.mem_append.mpr (Or.inr List.mem_cons_self), h1.symm⟩
                  · rintro ⟨a, h1, h2⟩
                    rcases List.mem_append.mp h1 with h1 | h1
                    · exact Or.inl ⟨a, h1, h2⟩
                    · exact Or.inr (by rw [← h2, List.mem_singleton.mp h1])
                · rcases List.mem_append.mp ha with ha | ha
                  · exact hpl hlo9 a ha hla
                  · rw [List.mem_singleton.mp ha] at hla ⊢
                    rw [hz9, hf3]
              · refine lv_iconst (v := (-1)) hx hb dX2_takenByList_78 (by decide) ?_
                exact W.iret (v := -1) hx hb hr (fun t9 ht9 hW9 => ⟨_, rfl, Or.inl ⟨rfl, hc_walk_loose hPP hc7 (hlo.1.mp hf1) hf2 (fun q => hf3 (by rw [hz9] at q; injection q))⟩, ht9⟩) (fun _ h => nomatch h) dX2_takenByList_79
        · refine lv_if_ne hx hb dX2_takenByList_48 rfl (fun hc => absurd rfl hc) (fun hc => ?_)
          refine lv_iconst (v := (-1)) hx hb dX2_takenByList_51 (by decide) ?_
          have hq9 : nx x = none := Classical.not_not.mp hq
          exact W.iret (v := -1) hx hb hr (fun t9 ht9 hW9 => ⟨_, rfl, Or.inl ⟨rfl, hc_walk_none hPP hc7 hq9⟩, ht9⟩) (fun _ h => nomatch h) dX2_takenByList_52
  · have he9 : en ≠ 0 := fun q => he0 (by rw [q]; rfl)
    refine lv_aload_n hx hb dX2_takenByList_4 rfl (lv_at hl 0 rfl) ?_
    refine lv_iload_n hx hb dX2_takenByList_5 rfl (lv_at hl 2 rfl) ?_
    refine hw_csi (va_runV (C := RX2) (b := g) (As := [.int (nI en)]) (rest := []) ⟨hx, hb, hml, hown, htg⟩ (k_X2_hasCell l D cI cZ cJ en G EN LG BI nx lg bi fl g q0 q1 q2 q3 (by omega) hG hH) (cwV 1 htg (hg_V hm_174 hm_158 hm_159 hm_3 hm_160) rfl rfl rfl (by decide +kernel) ⟨Nat.le_of_ble_eq_true rfl, Nat.le_of_ble_eq_true rfl⟩) ⟨hp_R_blind, va_recv (q := (RX2, TX2, 6)) (q0 := 0) (ci := 2) hK hP rfl rfl, hp_R_pre (hP.sub (ws' := [(g, .inr (2, [.ref q0, .int (nI G), .ref q1, .ref q2, .ref q3, .int fl])), (q1, .inl (cI, G + 1, .inl EN))]) [0, 1] rfl) hz⟩ rfl rfl hl.1 rfl (lv_room (Nat.le_of_ble_eq_true rfl)) dX2_takenByList_6 ⟨Nat.zero_le _, Nat.zero_le _⟩) (fun r hq => ?_)
    rcases hq with ⟨rfl, hq⟩ | ⟨rfl, hq⟩
    · refine lv_if_ne hx hb dX2_takenByList_9 rfl (fun hc => ?_) (fun hc => absurd hc (by decide))
      refine lv_iconst (v := nI 0) hx hb dX2_takenByList_16 (by decide) ?_
      obtain ⟨lo, hlo⟩ : ∃ lo : Bool, (lo = true ↔ hc_lo nx 0 en) ∧ lo = false := ⟨false, ⟨fun h => (by cases h), fun h => absurd h.2 hq⟩, rfl⟩
      have hflag : nI 0 = hc_b lo := by rw [hlo.2]; rfl
      rw [hflag]
      refine lv_istore_n hx hb dX2_takenByList_17 rfl hl (by decide) rfl (fun ls hl => ?_)
      replace hl : lv_has ls 7 [(3, .int (hc_b lo)), (0, .ref g), (1, .int (nI st)), (2, .int (nI en))] := hl
      refine lv_iconst (v := nI 0) hx hb dX2_takenByList_18 (by decide) ?_
      refine lv_istore hx hb dX2_takenByList_19 hl (by decide) rfl (fun ls hl => ?_)
      replace hl : lv_has ls 7 [(4, .int (nI 0)), (3, .int (hc_b lo)), (0, .ref g), (1, .int (nI st)), (2, .int (nI en))] := hl
      refine lv_iload_n hx hb dX2_takenByList_21 rfl (lv_at hl 3 rfl) ?_
      refine lv_istore hx hb dX2_takenByList_22 hl (by decide) rfl (fun ls hl => ?_)
      replace hl : lv_has ls 7 [(5, .int (nI st)), (4, .int (nI 0)), (3, .int (hc_b lo)), (0, .ref g), (1, .int (nI st)), (2, .int (nI en))] := hl
      refine lv_iconst (v := nI 0) hx hb dX2_takenByList_24 (by decide) ?_
      refine lv_istore hx hb dX2_takenByList_25 hl (by decide) rfl (fun ls hl => ?_)
      replace hl : lv_has ls 7 [(6, .int (nI 0)), (5, .int (nI st)), (4, .int (nI 0)), (3, .int (hc_b lo)), (0, .ref g), (1, .int (nI st)), (2, .int (nI en))] := hl
      obtain ⟨k9, e_k9⟩ : ∃ z : Nat, z = 0 := ⟨_, rfl⟩
      obtain ⟨x, e_x⟩ : ∃ z : Nat, z = st := ⟨_, rfl⟩
      obtain ⟨T, e_T⟩ : ∃ z : Int32, z = nI 0 := ⟨_, rfl⟩
      obtain ⟨pre, e_pre⟩ : ∃ z : List Nat, z = ([] : List Nat) := ⟨_, rfl⟩
      replace hl : lv_has ls 7 [(6, .int (nI k9)), (5, .int (nI x)), (4, .int T), (3, .int (hc_b lo)), (0, .ref g), (1, .int (nI st)), (2, .int (nI en))] := by subst e_k9 e_x e_T e_pre; exact hl
      have hx9 : x ≤ G := by subst e_k9 e_x e_T e_pre; exact hst
      have hPP : hc_PP nx en x pre st := by subst e_k9 e_x e_T e_pre; exact rfl
      have hlen : pre.length = k9 := by subst e_k9 e_x e_T e_pre; rfl
      have hT : ∀ j, j < 32 → (bt T j = true ↔ ∃ a, a ∈ pre ∧ bi a = j) := by subst e_k9 e_x e_T e_pre; exact fun j hj => by rw [hb_nI 0 hj]; simp
      have hpl : hc_lo nx 0 en → ∀ a, a ∈ pre → lg a = true → nx a = some en := by subst e_k9 e_x e_T e_pre; exact fun _ a ha => absurd ha List.not_mem_nil
      have hk9 : k9 ≤ G := by subst e_k9 e_x e_T e_pre; exact Nat.zero_le _
      clear e_k9 e_x e_T e_pre
      obtain ⟨k, hk⟩ : ∃ k : Nat, k = G - k9 := ⟨_, rfl⟩
      induction k generalizing k9 x T pre ls  with
      | zero =>
        refine lv_iload hx hb dX2_takenByList_27 (lv_at hl 0 rfl) ?_
        refine lv_aload_n hx hb dX2_takenByList_29 rfl (lv_at hl 4 rfl) ?_
        refine va_get (D := D) (ci := 2) (v := .int (nI G)) (C := RX2) (T := TX2) (N := 6) hx hb htg hi_X2 hown hK hP 0 rfl rfl 1 (by decide) (htg _ hm_76) (fun _ h9 => h9) rfl dX2_takenByList_30 ?_
        refine hw_icmp_ge hx hb (by omega) (by omega) dX2_takenByList_33 rfl (fun hc => ?_) (fun hc => absurd hc (by omega))
        refine lv_iload hx hb dX2_takenByList_107 (lv_at hl 1 rfl) ?_
        refine lv_iload_n hx hb dX2_takenByList_109 rfl (lv_at hl 6 rfl) ?_
        refine hw_icmp_ne hx hb (by omega) (by omega) dX2_takenByList_110 rfl (fun hc7 => ?_) (fun hc7 => ?_)
        · refine lv_iconst (v := (-1)) hx hb dX2_takenByList_118 (by decide) ?_
          exact W.iret (v := -1) hx hb hr (fun t9 ht9 hW9 => ⟨_, rfl, Or.inl ⟨rfl, hc_walk_long hH.1 hPP hc7 (by omega)⟩, ht9⟩) (fun _ h => nomatch h) dX2_takenByList_119
        · have hXE : hc_PP nx en en pre st := by rw [hc7] at hPP; exact hPP
          refine lv_iload hx hb dX2_takenByList_113 (lv_at hl 2 rfl) ?_
          refine lv_goto hx hb dX2_takenByList_115 rfl ?_
          exact W.iret (v := T) hx hb hr (fun t9 ht9 hW9 => ⟨_, rfl, Or.inr ⟨hs_bit31 (fun a ha => by cases hn : nx a with | none => exact absurd hn ha | some z => exact ((hH.2 a (hH.1 a ha).1 (hH.1 a ha).2).2 z hn).2.2.2.2) hT (fun a ha => hs_cell (hc_walk_done (hXE) hpl) ha), pre, hc_walk_done hXE hpl, hT⟩, ht9⟩) (fun _ h => nomatch h) dX2_takenByList_119
      | succ k ih =>
        refine lv_iload hx hb dX2_takenByList_27 (lv_at hl 0 rfl) ?_
        refine lv_aload_n hx hb dX2_takenByList_29 rfl (lv_at hl 4 rfl) ?_
        refine va_get (D := D) (ci := 2) (v := .int (nI G)) (C := RX2) (T := TX2) (N := 6) hx hb htg hi_X2 hown hK hP 0 rfl rfl 1 (by decide) (htg _ hm_76) (fun _ h9 => h9) rfl dX2_takenByList_30 ?_
        refine hw_icmp_ge hx hb (by omega) (by omega) dX2_takenByList_33 rfl (fun hc => absurd hc (by omega)) (fun hc => ?_)
        refine lv_iload hx hb dX2_takenByList_36 (lv_at hl 1 rfl) ?_
        refine lv_iload_n hx hb dX2_takenByList_38 rfl (lv_at hl 6 rfl) ?_
        refine hw_icmp_eq hx hb (by omega) (by omega) dX2_takenByList_39 rfl (fun hc7 => ?_) (fun hc7 => ?_)
        · refine lv_iload hx hb dX2_takenByList_107 (lv_at hl 1 rfl) ?_
          refine lv_iload_n hx hb dX2_takenByList_109 rfl (lv_at hl 6 rfl) ?_
          refine hw_icmp_ne hx hb (by omega) (by omega) dX2_takenByList_110 rfl (fun hc => absurd hc7 hc) (fun hc => ?_)
          have hXE : hc_PP nx en en pre st := by rw [hc7] at hPP; exact hPP
          refine lv_iload hx hb dX2_takenByList_113 (lv_at hl 2 rfl) ?_
          refine lv_goto hx hb dX2_takenByList_115 rfl ?_
          exact W.iret (v := T) hx hb hr (fun t9 ht9 hW9 => ⟨_, rfl, Or.inr ⟨hs_bit31 (fun a ha => by cases hn : nx a with | none => exact absurd hn ha | some z => exact ((hH.2 a (hH.1 a ha).1 (hH.1 a ha).2).2 z hn).2.2.2.2) hT (fun a ha => hs_cell (hc_walk_done (hXE) hpl) ha), pre, hc_walk_done hXE hpl, hT⟩, ht9⟩) (fun _ h => nomatch h) dX2_takenByList_119
        · refine lv_aload_n hx hb dX2_takenByList_42 rfl (lv_at hl 4 rfl) ?_
          refine lv_iload hx hb dX2_takenByList_43 (lv_at hl 1 rfl) ?_
          refine hw_csi (va_runV (C := RX2) (b := g) (As := [.int (nI x)]) (rest := []) ⟨hx, hb, hml, hown, htg⟩ (k_X2_hasCell l D cI cZ cJ x G EN LG BI nx lg bi fl g q0 q1 q2 q3 (by omega) hG hH) (cwV 1 htg (hg_V hm_174 hm_158 hm_159 hm_3 hm_160) rfl rfl rfl (by decide +kernel) ⟨Nat.le_of_ble_eq_true rfl, Nat.le_of_ble_eq_true rfl⟩) ⟨hp_R_blind, va_recv (q := (RX2, TX2, 6)) (q0 := 0) (ci := 2) hK hP rfl rfl, hp_R_pre (hP.sub (ws' := [(g, .inr (2, [.ref q0, .int (nI G), .ref q1, .ref q2, .ref q3, .int fl])), (q1, .inl (cI, G + 1, .inl EN))]) [0, 1] rfl) hz⟩ rfl rfl hl.1 rfl (lv_room (Nat.le_of_ble_eq_true rfl)) dX2_takenByList_45 ⟨Nat.zero_le _, Nat.zero_le _⟩) (fun r hq => ?_)
          rcases hq with ⟨rfl, hq⟩ | ⟨rfl, hq⟩
          · refine lv_if_ne hx hb dX2_takenByList_48 rfl (fun hc => ?_) (fun hc => absurd hc (by decide))
            obtain ⟨z, hz9⟩ : ∃ z, nx x = some z := by cases hn : nx x with | none => exact absurd hn hq | some z => exact ⟨z, rfl⟩
            have hxx := hH.1 x hq
            obtain ⟨j1, j2, j3, j4, j5⟩ := (hH.2 x hxx.1 hxx.2).2 z hz9
            refine lv_iload_n hx hb dX2_takenByList_53 rfl (lv_at hl 3 rfl) ?_
            refine hw_ifeq_b hx hb dX2_takenByList_54 rfl (fun hf1 => ?_) (fun hf1 => ?_)
            · refine lv_iload hx hb dX2_takenByList_80 (lv_at hl 2 rfl) ?_
              refine lv_aload_n hx hb dX2_takenByList_82 rfl (lv_at hl 4 rfl) ?_
              refine va_get (D := D) (ci := 2) (v := .ref q3) (C := RX2) (T := TX2) (N := 6) hx hb htg hi_X2 hown hK hP 0 rfl rfl 4 (by decide) (htg _ hm_80) (fun _ h9 => h9) rfl dX2_takenByList_83 ?_
              refine lv_iload hx hb dX2_takenByList_86 (lv_at hl 1 rfl) ?_
              refine hw_iald hx hb hK hP 3 0 rfl rfl (j := x) (by omega) (by first | decide | omega) (v := (1 : Int32) <<< (nI (bi x) &&& 31)) (j4) dX2_takenByList_88 ?_
              refine lv_ior hx hb dX2_takenByList_89 ?_
              refine lv_istore hx hb dX2_takenByList_90 hl (by decide) rfl (fun ls hl => ?_)
              replace hl : lv_has ls 7 [(4, .int (T ||| ((1 : Int32) <<< (nI (bi x) &&& 31)))), (6, .int (nI k9)), (5, .int (nI x)), (3, .int (hc_b lo)), (0, .ref g), (1, .int (nI st)), (2, .int (nI en))] := hl
              refine lv_aload_n hx hb dX2_takenByList_92 rfl (lv_at hl 4 rfl) ?_
              refine va_get (D := D) (ci := 2) (v := .ref q1) (C := RX2) (T := TX2) (N := 6) hx hb htg hi_X2 hown hK hP 0 rfl rfl 2 (by decide) (htg _ hm_77) (fun _ h9 => h9) rfl dX2_takenByList_93 ?_
              refine lv_iload hx hb dX2_takenByList_96 (lv_at hl 2 rfl) ?_
              refine hw_iald hx hb hK hP 1 0 rfl rfl (j := x) (by omega) (by first | decide | omega) (v := nI z) (j2) dX2_takenByList_98 ?_
              refine lv_istore hx hb dX2_takenByList_99 hl (by decide) rfl (fun ls hl => ?_)
              replace hl : lv_has ls 7 [(5, .int (nI z)), (4, .int (T ||| ((1 : Int32) <<< (nI (bi x) &&& 31)))), (6, .int (nI k9)), (3, .int (hc_b lo)), (0, .ref g), (1, .int (nI st)), (2, .int (nI en))] := hl
              refine lv_iinc (v := nI (k9 + 1)) (k := 2) hx hb dX2_takenByList_101 hl rfl (hw_inc _) (by decide) rfl (fun ls hl => ?_)
              replace hl : lv_has ls 7 [(6, .int (nI (k9 + 1))), (5, .int (nI z)), (4, .int (T ||| ((1 : Int32) <<< (nI (bi x) &&& 31)))), (3, .int (hc_b lo)), (0, .ref g), (1, .int (nI st)), (2, .int (nI en))] := hl
              refine lv_goto hx hb dX2_takenByList_104 rfl ?_
              refine ih (hl := hl) (hx9 := j1) (hPP := (hc_PP_snoc hc7 hz9 _ _ hPP)) (hlen := (by rw [List.length_append, hlen]; rfl)) (hT := (fun j hj => ?_)) (hpl := (fun hlo9 a ha hla => ?_)) (hk9 := (by omega)) (hk := (by omega))
              · rw [b_or, Bool.or_eq_true, hT j hj, hb_1 (bi x) (by omega) j hj, decide_eq_true_eq]
                constructor
                · rintro (⟨a, h1, h2⟩ | h1)
                  · exact ⟨a, List.mem_append.mpr (Or.inl h1), h2⟩
                  · exact ⟨x, List.mem_append.mpr (Or.inr List.mem_cons_self), h1.symm⟩
                · rintro ⟨a, h1, h2⟩
                  rcases List.mem_append.mp h1 with h1 | h1
                  · exact Or.inl ⟨a, h1, h2⟩
                  · exact Or.inr (by rw [← h2, List.mem_singleton.mp h1])
              · rcases List.mem_append.mp ha with ha | ha
                · exact hpl hlo9 a ha hla
                · rw [List.mem_singleton.mp ha] at hla ⊢
                  exact absurd (hlo.1.mpr hlo9) (by rw [hf1]; decide)
            · refine lv_aload_n hx hb dX2_takenByList_57 rfl (lv_at hl 4 rfl) ?_
              refine va_get (D := D) (ci := 2) (v := .ref q2) (C := RX2) (T := TX2) (N := 6) hx hb htg hi_X2 hown hK hP 0 rfl rfl 3 (by decide) (htg _ hm_79) (fun _ h9 => h9) rfl dX2_takenByList_58 ?_
              refine lv_iload hx hb dX2_takenByList_61 (lv_at hl 1 rfl) ?_
              refine hw_zald hx hb hK hP 2 1 rfl rfl (j := x) (by omega) (by first | decide | omega) (v := hc_b (lg x)) (j3) dX2_takenByList_63 ?_
              refine hw_ifeq_b hx hb dX2_takenByList_64 rfl (fun hf2 => ?_) (fun hf2 => ?_)
              · refine lv_iload hx hb dX2_takenByList_80 (lv_at hl 2 rfl) ?_
                refine lv_aload_n hx hb dX2_takenByList_82 rfl (lv_at hl 4 rfl) ?_
                refine va_get (D := D) (ci := 2) (v := .ref q3) (C := RX2) (T := TX2) (N := 6) hx hb htg hi_X2 hown hK hP 0 rfl rfl 4 (by decide) (htg _ hm_80) (fun _ h9 => h9) rfl dX2_takenByList_83 ?_
                refine lv_iload hx hb dX2_takenByList_86 (lv_at hl 1 rfl) ?_
                refine hw_iald hx hb hK hP 3 0 rfl rfl (j := x) (by omega) (by first | decide | omega) (v := (1 : Int32) <<< (nI (bi x) &&& 31)) (j4) dX2_takenByList_88 ?_
                refine lv_ior hx hb dX2_takenByList_89 ?_
                refine lv_istore hx hb dX2_takenByList_90 hl (by decide) rfl (fun ls hl => ?_)
                replace hl : lv_has ls 7 [(4, .int (T ||| ((1 : Int32) <<< (nI (bi x) &&& 31)))), (6, .int (nI k9)), (5, .int (nI x)), (3, .int (hc_b lo)), (0, .ref g), (1, .int (nI st)), (2, .int (nI en))] := hl
                refine lv_aload_n hx hb dX2_takenByList_92 rfl (lv_at hl 4 rfl) ?_
                refine va_get (D := D) (ci := 2) (v := .ref q1) (C := RX2) (T := TX2) (N := 6) hx hb htg hi_X2 hown hK hP 0 rfl rfl 2 (by decide) (htg _ hm_77) (fun _ h9 => h9) rfl dX2_takenByList_93 ?_
                refine lv_iload hx hb dX2_takenByList_96 (lv_at hl 2 rfl) ?_
                refine hw_iald hx hb hK hP 1 0 rfl rfl (j := x) (by omega) (by first | decide | omega) (v := nI z) (j2) dX2_takenByList_98 ?_
                refine lv_istore hx hb dX2_takenByList_99 hl (by decide) rfl (fun ls hl => ?_)
                replace hl : lv_has ls 7 [(5, .int (nI z)), (4, .int (T ||| ((1 : Int32) <<< (nI (bi x) &&& 31)))), (6, .int (nI k9)), (3, .int (hc_b lo)), (0, .ref g), (1, .int (nI st)), (2, .int (nI en))] := hl
                refine lv_iinc (v := nI (k9 + 1)) (k := 2) hx hb dX2_takenByList_101 hl rfl (hw_inc _) (by decide) rfl (fun ls hl => ?_)
                replace hl : lv_has ls 7 [(6, .int (nI (k9 + 1))), (5, .int (nI z)), (4, .int (T ||| ((1 : Int32) <<< (nI (bi x) &&& 31)))), (3, .int (hc_b lo)), (0, .ref g), (1, .int (nI st)), (2, .int (nI en))] := hl
                refine lv_goto hx hb dX2_takenByList_104 rfl ?_
                refine ih (hl := hl) (hx9 := j1) (hPP := (hc_PP_snoc hc7 hz9 _ _ hPP)) (hlen := (by rw [List.length_append, hlen]; rfl)) (hT := (fun j hj => ?_)) (hpl := (fun hlo9 a ha hla => ?_)) (hk9 := (by omega)) (hk := (by omega))
                · rw [b_or, Bool.or_eq_true, hT j hj, hb_1 (bi x) (by omega) j hj, decide_eq_true_eq]
                  constructor
                  · rintro (⟨a, h1, h2⟩ | h1)
                    · exact ⟨a, List.mem_append.mpr (Or.inl h1), h2⟩
                    · exact ⟨x, List.mem_append.mpr (Or.inr List.mem_cons_self), h1.symm⟩
                  · rintro ⟨a, h1, h2⟩
                    rcases List.mem_append.mp h1 with h1 | h1
                    · exact Or.inl ⟨a, h1, h2⟩
                    · exact Or.inr (by rw [← h2, List.mem_singleton.mp h1])
                · rcases List.mem_append.mp ha with ha | ha
                  · exact hpl hlo9 a ha hla
                  · rw [List.mem_singleton.mp ha] at hla ⊢
                    rw [hf2] at hla; cases hla
              · refine lv_aload_n hx hb dX2_takenByList_67 rfl (lv_at hl 4 rfl) ?_
                refine va_get (D := D) (ci := 2) (v := .ref q1) (C := RX2) (T := TX2) (N := 6) hx hb htg hi_X2 hown hK hP 0 rfl rfl 2 (by decide) (htg _ hm_77) (fun _ h9 => h9) rfl dX2_takenByList_68 ?_
                refine lv_iload hx hb dX2_takenByList_71 (lv_at hl 1 rfl) ?_
                refine hw_iald hx hb hK hP 1 0 rfl rfl (j := x) (by omega) (by first | decide | omega) (v := nI z) (j2) dX2_takenByList_73 ?_
                refine lv_iload_n hx hb dX2_takenByList_74 rfl (lv_at hl 6 rfl) ?_
                refine hw_icmp_eq hx hb (by omega) (by omega) dX2_takenByList_75 rfl (fun hf3 => ?_) (fun hf3 => ?_)
                · refine lv_iload hx hb dX2_takenByList_80 (lv_at hl 2 rfl) ?_
                  refine lv_aload_n hx hb dX2_takenByList_82 rfl (lv_at hl 4 rfl) ?_
                  refine va_get (D := D) (ci := 2) (v := .ref q3) (C := RX2) (T := TX2) (N := 6) hx hb htg hi_X2 hown hK hP 0 rfl rfl 4 (by decide) (htg _ hm_80) (fun _ h9 => h9) rfl dX2_takenByList_83 ?_
                  refine lv_iload hx hb dX2_takenByList_86 (lv_at hl 1 rfl) ?_
                  refine hw_iald hx hb hK hP 3 0 rfl rfl (j := x) (by omega) (by first | decide | omega) (v := (1 : Int32) <<< (nI (bi x) &&& 31)) (j4) dX2_takenByList_88 ?_
                  refine lv_ior hx hb dX2_takenByList_89 ?_
                  refine lv_istore hx hb dX2_takenByList_90 hl (by decide) rfl (fun ls hl => ?_)
                  replace hl : lv_has ls 7 [(4, .int (T ||| ((1 : Int32) <<< (nI (bi x) &&& 31)))), (6, .int (nI k9)), (5, .int (nI x)), (3, .int (hc_b lo)), (0, .ref g), (1, .int (nI st)), (2, .int (nI en))] := hl
                  refine lv_aload_n hx hb dX2_takenByList_92 rfl (lv_at hl 4 rfl) ?_
                  refine va_get (D := D) (ci := 2) (v := .ref q1) (C := RX2) (T := TX2) (N := 6) hx hb htg hi_X2 hown hK hP 0 rfl rfl 2 (by decide) (htg _ hm_77) (fun _ h9 => h9) rfl dX2_takenByList_93 ?_
                  refine lv_iload hx hb dX2_takenByList_96 (lv_at hl 2 rfl) ?_
                  refine hw_iald hx hb hK hP 1 0 rfl rfl (j := x) (by omega) (by first | decide | omega) (v := nI z) (j2) dX2_takenByList_98 ?_
                  refine lv_istore hx hb dX2_takenByList_99 hl (by decide) rfl (fun ls hl => ?_)
                  replace hl : lv_has ls 7 [(5, .int (nI z)), (4, .int (T ||| ((1 : Int32) <<< (nI (bi x) &&& 31)))), (6, .int (nI k9)), (3, .int (hc_b lo)), (0, .ref g), (1, .int (nI st)), (2, .int (nI en))] := hl
                  refine lv_iinc (v := nI (k9 + 1)) (k := 2) hx hb dX2_takenByList_101 hl rfl (hw_inc _) (by decide) rfl (fun ls hl => ?_)
                  replace hl : lv_has ls 7 [(6, .int (nI (k9 + 1))), (5, .int (nI z)), (4, .int (T ||| ((1 : Int32) <<< (nI (bi x) &&& 31)))), (3, .int (hc_b lo)), (0, .ref g), (1, .int (nI st)), (2, .int (nI en))] := hl
                  refine lv_goto hx hb dX2_takenByList_104 rfl ?_
                  refine ih (hl := hl) (hx9 := j1) (hPP := (hc_PP_snoc hc7 hz9 _ _ hPP)) (hlen := (by rw [List.length_append, hlen]; rfl)) (hT := (fun j hj => ?_)) (hpl := (fun hlo9 a ha hla => ?_)) (hk9 := (by omega)) (hk := (by omega))
                  · rw [b_or, Bool.or_eq_true, hT j hj, hb_1 (bi x) (by omega) j hj, decide_eq_true_eq]
                    constructor
                    · rintro (⟨a, h1, h2⟩ | h1)
                      · exact ⟨a, List.mem_append.mpr (Or.inl h1), h2⟩
                      · exact ⟨x, List.mem_append.mpr (Or.inr List.mem_cons_self), h1.symm⟩
                    · rintro ⟨a, h1, h2⟩
                      rcases List.mem_append.mp h1 with h1 | h1
                      · exact Or.inl ⟨a, h1, h2⟩
                      · exact Or.inr (by rw [← h2, List.mem_singleton.mp h1])
                  · rcases List.mem_append.mp ha with ha | ha
                    · exact hpl hlo9 a ha hla
                    · rw [List.mem_singleton.mp ha] at hla ⊢
                      rw [hz9, hf3]
                · refine lv_iconst (v := (-1)) hx hb dX2_takenByList_78 (by decide) ?_
                  exact W.iret (v := -1) hx hb hr (fun t9 ht9 hW9 => ⟨_, rfl, Or.inl ⟨rfl, hc_walk_loose hPP hc7 (hlo.1.mp hf1) hf2 (fun q => hf3 (by rw [hz9] at q; injection q))⟩, ht9⟩) (fun _ h => nomatch h) dX2_takenByList_79
          · refine lv_if_ne hx hb dX2_takenByList_48 rfl (fun hc => absurd rfl hc) (fun hc => ?_)
            refine lv_iconst (v := (-1)) hx hb dX2_takenByList_51 (by decide) ?_
            have hq9 : nx x = none := Classical.not_not.mp hq
            exact W.iret (v := -1) hx hb hr (fun t9 ht9 hW9 => ⟨_, rfl, Or.inl ⟨rfl, hc_walk_none hPP hc7 hq9⟩, ht9⟩) (fun _ h => nomatch h) dX2_takenByList_52
    · refine lv_if_ne hx hb dX2_takenByList_9 rfl (fun hc => absurd rfl hc) (fun hc => ?_)
      refine lv_iconst (v := nI 1) hx hb dX2_takenByList_12 (by decide) ?_
      refine lv_goto hx hb dX2_takenByList_13 rfl ?_
      obtain ⟨lo, hlo⟩ : ∃ lo : Bool, (lo = true ↔ hc_lo nx 0 en) ∧ lo = true := ⟨true, ⟨fun _ => ⟨he9, Classical.not_not.mp hq⟩, fun _ => rfl⟩, rfl⟩
      have hflag : nI 1 = hc_b lo := by rw [hlo.2]; rfl
      rw [hflag]
      refine lv_istore_n hx hb dX2_takenByList_17 rfl hl (by decide) rfl (fun ls hl => ?_)
      replace hl : lv_has ls 7 [(3, .int (hc_b lo)), (0, .ref g), (1, .int (nI st)), (2, .int (nI en))] := hl
      refine lv_iconst (v := nI 0) hx hb dX2_takenByList_18 (by decide) ?_
      refine lv_istore hx hb dX2_takenByList_19 hl (by decide) rfl (fun ls hl => ?_)
      replace hl : lv_has ls 7 [(4, .int (nI 0)), (3, .int (hc_b lo)), (0, .ref g), (1, .int (nI st)), (2, .int (nI en))] := hl
      refine lv_iload_n hx hb dX2_takenByList_21 rfl (lv_at hl 3 rfl) ?_
      refine lv_istore hx hb dX2_takenByList_22 hl (by decide) rfl (fun ls hl => ?_)
      replace hl : lv_has ls 7 [(5, .int (nI st)), (4, .int (nI 0)), (3, .int (hc_b lo)), (0, .ref g), (1, .int (nI st)), (2, .int (nI en))] := hl
      refine lv_iconst (v := nI 0) hx hb dX2_takenByList_24 (by decide) ?_
      refine lv_istore hx hb dX2_takenByList_25 hl (by decide) rfl (fun ls hl => ?_)
      replace hl : lv_has ls 7 [(6, .int (nI 0)), (5, .int (nI st)), (4, .int (nI 0)), (3, .int (hc_b lo)), (0, .ref g), (1, .int (nI st)), (2, .int (nI en))] := hl
      obtain ⟨k9, e_k9⟩ : ∃ z : Nat, z = 0 := ⟨_, rfl⟩
      obtain ⟨x, e_x⟩ : ∃ z : Nat, z = st := ⟨_, rfl⟩
      obtain ⟨T, e_T⟩ : ∃ z : Int32, z = nI 0 := ⟨_, rfl⟩
      obtain ⟨pre, e_pre⟩ : ∃ z : List Nat, z = ([] : List Nat) := ⟨_, rfl⟩
      replace hl : lv_has ls 7 [(6, .int (nI k9)), (5, .int (nI x)), (4, .int T), (3, .int (hc_b lo)), (0, .ref g), (1, .int (nI st)), (2, .int (nI en))] := by subst e_k9 e_x e_T e_pre; exact hl
      have hx9 : x ≤ G := by subst e_k9 e_x e_T e_pre; exact hst
      have hPP : hc_PP nx en x pre st := by subst e_k9 e_x e_T e_pre; exact rfl
      have hlen : pre.length = k9 := by subst e_k9 e_x e_T e_pre; rfl
      have hT : ∀ j, j < 32 → (bt T j = true ↔ ∃ a, a ∈ pre ∧ bi a = j) := by subst e_k9 e_x e_T e_pre; exact fun j hj => by rw [hb_nI 0 hj]; simp
      have hpl : hc_lo nx 0 en → ∀ a, a ∈ pre → lg a = true → nx a = some en := by subst e_k9 e_x e_T e_pre; exact fun _ a ha => absurd ha List.not_mem_nil
      have hk9 : k9 ≤ G := by subst e_k9 e_x e_T e_pre; exact Nat.zero_le _
      clear e_k9 e_x e_T e_pre
      obtain ⟨k, hk⟩ : ∃ k : Nat, k = G - k9 := ⟨_, rfl⟩
      induction k generalizing k9 x T pre ls  with
      | zero =>
        refine lv_iload hx hb dX2_takenByList_27 (lv_at hl 0 rfl) ?_
        refine lv_aload_n hx hb dX2_takenByList_29 rfl (lv_at hl 4 rfl) ?_
        refine va_get (D := D) (ci := 2) (v := .int (nI G)) (C := RX2) (T := TX2) (N := 6) hx hb htg hi_X2 hown hK hP 0 rfl rfl 1 (by decide) (htg _ hm_76) (fun _ h9 => h9) rfl dX2_takenByList_30 ?_
        refine hw_icmp_ge hx hb (by omega) (by omega) dX2_takenByList_33 rfl (fun hc => ?_) (fun hc => absurd hc (by omega))
        refine lv_iload hx hb dX2_takenByList_107 (lv_at hl 1 rfl) ?_
        refine lv_iload_n hx hb dX2_takenByList_109 rfl (lv_at hl 6 rfl) ?_
        refine hw_icmp_ne hx hb (by omega) (by omega) dX2_takenByList_110 rfl (fun hc7 => ?_) (fun hc7 => ?_)
        · refine lv_iconst (v := (-1)) hx hb dX2_takenByList_118 (by decide) ?_
          exact W.iret (v := -1) hx hb hr (fun t9 ht9 hW9 => ⟨_, rfl, Or.inl ⟨rfl, hc_walk_long hH.1 hPP hc7 (by omega)⟩, ht9⟩) (fun _ h => nomatch h) dX2_takenByList_119
        · have hXE : hc_PP nx en en pre st := by rw [hc7] at hPP; exact hPP
          refine lv_iload hx hb dX2_takenByList_113 (lv_at hl 2 rfl) ?_
          refine lv_goto hx hb dX2_takenByList_115 rfl ?_
          exact W.iret (v := T) hx hb hr (fun t9 ht9 hW9 => ⟨_, rfl, Or.inr ⟨hs_bit31 (fun a ha => by cases hn : nx a with | none => exact absurd hn ha | some z => exact ((hH.2 a (hH.1 a ha).1 (hH.1 a ha).2).2 z hn).2.2.2.2) hT (fun a ha => hs_cell (hc_walk_done (hXE) hpl) ha), pre, hc_walk_done hXE hpl, hT⟩, ht9⟩) (fun _ h => nomatch h) dX2_takenByList_119
      | succ k ih =>
        refine lv_iload hx hb dX2_takenByList_27 (lv_at hl 0 rfl) ?_
        refine lv_aload_n hx hb dX2_takenByList_29 rfl (lv_at hl 4 rfl) ?_
        refine va_get (D := D) (ci := 2) (v := .int (nI G)) (C := RX2) (T := TX2) (N := 6) hx hb htg hi_X2 hown hK hP 0 rfl rfl 1 (by decide) (htg _ hm_76) (fun _ h9 => h9) rfl dX2_takenByList_30 ?_
        refine hw_icmp_ge hx hb (by omega) (by omega) dX2_takenByList_33 rfl (fun hc => absurd hc (by omega)) (fun hc => ?_)
        refine lv_iload hx hb dX2_takenByList_36 (lv_at hl 1 rfl) ?_
        refine lv_iload_n hx hb dX2_takenByList_38 rfl (lv_at hl 6 rfl) ?_
        refine hw_icmp_eq hx hb (by omega) (by omega) dX2_takenByList_39 rfl (fun hc7 => ?_) (fun hc7 => ?_)
        · refine lv_iload hx hb dX2_takenByList_107 (lv_at hl 1 rfl) ?_
          refine lv_iload_n hx hb dX2_takenByList_109 rfl (lv_at hl 6 rfl) ?_
          refine hw_icmp_ne hx hb (by omega) (by omega) dX2_takenByList_110 rfl (fun hc => absurd hc7 hc) (fun hc => ?_)
          have hXE : hc_PP nx en en pre st := by rw [hc7] at hPP; exact hPP
          refine lv_iload hx hb dX2_takenByList_113 (lv_at hl 2 rfl) ?_
          refine lv_goto hx hb dX2_takenByList_115 rfl ?_
          exact W.iret (v := T) hx hb hr (fun t9 ht9 hW9 => ⟨_, rfl, Or.inr ⟨hs_bit31 (fun a ha => by cases hn : nx a with | none => exact absurd hn ha | some z => exact ((hH.2 a (hH.1 a ha).1 (hH.1 a ha).2).2 z hn).2.2.2.2) hT (fun a ha => hs_cell (hc_walk_done (hXE) hpl) ha), pre, hc_walk_done hXE hpl, hT⟩, ht9⟩) (fun _ h => nomatch h) dX2_takenByList_119
        · refine lv_aload_n hx hb dX2_takenByList_42 rfl (lv_at hl 4 rfl) ?_
          refine lv_iload hx hb dX2_takenByList_43 (lv_at hl 1 rfl) ?_
          refine hw_csi (va_runV (C := RX2) (b := g) (As := [.int (nI x)]) (rest := []) ⟨hx, hb, hml, hown, htg⟩ (k_X2_hasCell l D cI cZ cJ x G EN LG BI nx lg bi fl g q0 q1 q2 q3 (by omega) hG hH) (cwV 1 htg (hg_V hm_174 hm_158 hm_159 hm_3 hm_160) rfl rfl rfl (by decide +kernel) ⟨Nat.le_of_ble_eq_true rfl, Nat.le_of_ble_eq_true rfl⟩) ⟨hp_R_blind, va_recv (q := (RX2, TX2, 6)) (q0 := 0) (ci := 2) hK hP rfl rfl, hp_R_pre (hP.sub (ws' := [(g, .inr (2, [.ref q0, .int (nI G), .ref q1, .ref q2, .ref q3, .int fl])), (q1, .inl (cI, G + 1, .inl EN))]) [0, 1] rfl) hz⟩ rfl rfl hl.1 rfl (lv_room (Nat.le_of_ble_eq_true rfl)) dX2_takenByList_45 ⟨Nat.zero_le _, Nat.zero_le _⟩) (fun r hq => ?_)
          rcases hq with ⟨rfl, hq⟩ | ⟨rfl, hq⟩
          · refine lv_if_ne hx hb dX2_takenByList_48 rfl (fun hc => ?_) (fun hc => absurd hc (by decide))
            obtain ⟨z, hz9⟩ : ∃ z, nx x = some z := by cases hn : nx x with | none => exact absurd hn hq | some z => exact ⟨z, rfl⟩
            have hxx := hH.1 x hq
            obtain ⟨j1, j2, j3, j4, j5⟩ := (hH.2 x hxx.1 hxx.2).2 z hz9
            refine lv_iload_n hx hb dX2_takenByList_53 rfl (lv_at hl 3 rfl) ?_
            refine hw_ifeq_b hx hb dX2_takenByList_54 rfl (fun hf1 => ?_) (fun hf1 => ?_)
            · refine lv_iload hx hb dX2_takenByList_80 (lv_at hl 2 rfl) ?_
              refine lv_aload_n hx hb dX2_takenByList_82 rfl (lv_at hl 4 rfl) ?_
              refine va_get (D := D) (ci := 2) (v := .ref q3) (C := RX2) (T := TX2) (N := 6) hx hb htg hi_X2 hown hK hP 0 rfl rfl 4 (by decide) (htg _ hm_80) (fun _ h9 => h9) rfl dX2_takenByList_83 ?_
              refine lv_iload hx hb dX2_takenByList_86 (lv_at hl 1 rfl) ?_
              refine hw_iald hx hb hK hP 3 0 rfl rfl (j := x) (by omega) (by first | decide | omega) (v := (1 : Int32) <<< (nI (bi x) &&& 31)) (j4) dX2_takenByList_88 ?_
              refine lv_ior hx hb dX2_takenByList_89 ?_
              refine lv_istore hx hb dX2_takenByList_90 hl (by decide) rfl (fun ls hl => ?_)
              replace hl : lv_has ls 7 [(4, .int (T ||| ((1 : Int32) <<< (nI (bi x) &&& 31)))), (6, .int (nI k9)), (5, .int (nI x)), (3, .int (hc_b lo)), (0, .ref g), (1, .int (nI st)), (2, .int (nI en))] := hl
              refine lv_aload_n hx hb dX2_takenByList_92 rfl (lv_at hl 4 rfl) ?_
              refine va_get (D := D) (ci := 2) (v := .ref q1) (C := RX2) (T := TX2) (N := 6) hx hb htg hi_X2 hown hK hP 0 rfl rfl 2 (by decide) (htg _ hm_77) (fun _ h9 => h9) rfl dX2_takenByList_93 ?_
              refine lv_iload hx hb dX2_takenByList_96 (lv_at hl 2 rfl) ?_
              refine hw_iald hx hb hK hP 1 0 rfl rfl (j := x) (by omega) (by first | decide | omega) (v := nI z) (j2) dX2_takenByList_98 ?_
              refine lv_istore hx hb dX2_takenByList_99 hl (by decide) rfl (fun ls hl => ?_)
              replace hl : lv_has ls 7 [(5, .int (nI z)), (4, .int (T ||| ((1 : Int32) <<< (nI (bi x) &&& 31)))), (6, .int (nI k9)), (3, .int (hc_b lo)), (0, .ref g), (1, .int (nI st)), (2, .int (nI en))] := hl
              refine lv_iinc (v := nI (k9 + 1)) (k := 2) hx hb dX2_takenByList_101 hl rfl (hw_inc _) (by decide) rfl (fun ls hl => ?_)
              replace hl : lv_has ls 7 [(6, .int (nI (k9 + 1))), (5, .int (nI z)), (4, .int (T ||| ((1 : Int32) <<< (nI (bi x) &&& 31)))), (3, .int (hc_b lo)), (0, .ref g), (1, .int (nI st)), (2, .int (nI en))] := hl
              refine lv_goto hx hb dX2_takenByList_104 rfl ?_
              refine ih (hl := hl) (hx9 := j1) (hPP := (hc_PP_snoc hc7 hz9 _ _ hPP)) (hlen := (by rw [List.length_append, hlen]; rfl)) (hT := (fun j hj => ?_)) (hpl := (fun hlo9 a ha hla => ?_)) (hk9 := (by omega)) (hk := (by omega))
              · rw [b_or, Bool.or_eq_true, hT j hj, hb_1 (bi x) (by omega) j hj, decide_eq_true_eq]
                constructor
                · rintro (⟨a, h1, h2⟩ | h1)
                  · exact ⟨a, List.mem_append.mpr (Or.inl h1), h2⟩
                  · exact ⟨x, List.mem_append.mpr (Or.inr List.mem_cons_self), h1.symm⟩
                · rintro ⟨a, h1, h2⟩
                  rcases List.mem_append.mp h1 with h1 | h1
                  · exact Or.inl ⟨a, h1, h2⟩
                  · exact Or.inr (by rw [← h2, List.mem_singleton.mp h1])
              · rcases List.mem_append.mp ha with ha | ha
                · exact hpl hlo9 a ha hla
                · rw [List.mem_singleton.mp ha] at hla ⊢
                  exact absurd (hlo.1.mpr hlo9) (by rw [hf1]; decide)
            · refine lv_aload_n hx hb dX2_takenByList_57 rfl (lv_at hl 4 rfl) ?_
              refine va_get (D := D) (ci := 2) (v := .ref q2) (C := RX2) (T := TX2) (N := 6) hx hb htg hi_X2 hown hK hP 0 rfl rfl 3 (by decide) (htg _ hm_79) (fun _ h9 => h9) rfl dX2_takenByList_58 ?_
              refine lv_iload hx hb dX2_takenByList_61 (lv_at hl 1 rfl) ?_
              refine hw_zald hx hb hK hP 2 1 rfl rfl (j := x) (by omega) (by first | decide | omega) (v := hc_b (lg x)) (j3) dX2_takenByList_63 ?_
              refine hw_ifeq_b hx hb dX2_takenByList_64 rfl (fun hf2 => ?_) (fun hf2 => ?_)
              · refine lv_iload hx hb dX2_takenByList_80 (lv_at hl 2 rfl) ?_
                refine lv_aload_n hx hb dX2_takenByList_82 rfl (lv_at hl 4 rfl) ?_
                refine va_get (D := D) (ci := 2) (v := .ref q3) (C := RX2) (T := TX2) (N := 6) hx hb htg hi_X2 hown hK hP 0 rfl rfl 4 (by decide) (htg _ hm_80) (fun _ h9 => h9) rfl dX2_takenByList_83 ?_
                refine lv_iload hx hb dX2_takenByList_86 (lv_at hl 1 rfl) ?_
                refine hw_iald hx hb hK hP 3 0 rfl rfl (j := x) (by omega) (by first | decide | omega) (v := (1 : Int32) <<< (nI (bi x) &&& 31)) (j4) dX2_takenByList_88 ?_
                refine lv_ior hx hb dX2_takenByList_89 ?_
                refine lv_istore hx hb dX2_takenByList_90 hl (by decide) rfl (fun ls hl => ?_)
                replace hl : lv_has ls 7 [(4, .int (T ||| ((1 : Int32) <<< (nI (bi x) &&& 31)))), (6, .int (nI k9)), (5, .int (nI x)), (3, .int (hc_b lo)), (0, .ref g), (1, .int (nI st)), (2, .int (nI en))] := hl
                refine lv_aload_n hx hb dX2_takenByList_92 rfl (lv_at hl 4 rfl) ?_
                refine va_get (D := D) (ci := 2) (v := .ref q1) (C := RX2) (T := TX2) (N := 6) hx hb htg hi_X2 hown hK hP 0 rfl rfl 2 (by decide) (htg _ hm_77) (fun _ h9 => h9) rfl dX2_takenByList_93 ?_
                refine lv_iload hx hb dX2_takenByList_96 (lv_at hl 2 rfl) ?_
                refine hw_iald hx hb hK hP 1 0 rfl rfl (j := x) (by omega) (by first | decide | omega) (v := nI z) (j2) dX2_takenByList_98 ?_
                refine lv_istore hx hb dX2_takenByList_99 hl (by decide) rfl (fun ls hl => ?_)
                replace hl : lv_has ls 7 [(5, .int (nI z)), (4, .int (T ||| ((1 : Int32) <<< (nI (bi x) &&& 31)))), (6, .int (nI k9)), (3, .int (hc_b lo)), (0, .ref g), (1, .int (nI st)), (2, .int (nI en))] := hl
                refine lv_iinc (v := nI (k9 + 1)) (k := 2) hx hb dX2_takenByList_101 hl rfl (hw_inc _) (by decide) rfl (fun ls hl => ?_)
                replace hl : lv_has ls 7 [(6, .int (nI (k9 + 1))), (5, .int (nI z)), (4, .int (T ||| ((1 : Int32) <<< (nI (bi x) &&& 31)))), (3, .int (hc_b lo)), (0, .ref g), (1, .int (nI st)), (2, .int (nI en))] := hl
                refine lv_goto hx hb dX2_takenByList_104 rfl ?_
                refine ih (hl := hl) (hx9 := j1) (hPP := (hc_PP_snoc hc7 hz9 _ _ hPP)) (hlen := (by rw [List.length_append, hlen]; rfl)) (hT := (fun j hj => ?_)) (hpl := (fun hlo9 a ha hla => ?_)) (hk9 := (by omega)) (hk := (by omega))
                · rw [b_or, Bool.or_eq_true, hT j hj, hb_1 (bi x) (by omega) j hj, decide_eq_true_eq]
                  constructor
                  · rintro (⟨a, h1, h2⟩ | h1)
                    · exact ⟨a, List.mem_append.mpr (Or.inl h1), h2⟩
                    · exact ⟨x, List.mem_append.mpr (Or.inr List.mem_cons_self), h1.symm⟩
                  · rintro ⟨a, h1, h2⟩
                    rcases List.mem_append.mp h1 with h1 | h1
                    · exact Or.inl ⟨a, h1, h2⟩
                    · exact Or.inr (by rw [← h2, List.mem_singleton.mp h1])
                · rcases List.mem_append.mp ha with ha | ha
                  · exact hpl hlo9 a ha hla
                  · rw [List.mem_singleton.mp ha] at hla ⊢
                    rw [hf2] at hla; cases hla
              · refine lv_aload_n hx hb dX2_takenByList_67 rfl (lv_at hl 4 rfl) ?_
                refine va_get (D := D) (ci := 2) (v := .ref q1) (C := RX2) (T := TX2) (N := 6) hx hb htg hi_X2 hown hK hP 0 rfl rfl 2 (by decide) (htg _ hm_77) (fun _ h9 => h9) rfl dX2_takenByList_68 ?_
                refine lv_iload hx hb dX2_takenByList_71 (lv_at hl 1 rfl) ?_
                refine hw_iald hx hb hK hP 1 0 rfl rfl (j := x) (by omega) (by first | decide | omega) (v := nI z) (j2) dX2_takenByList_73 ?_
                refine lv_iload_n hx hb dX2_takenByList_74 rfl (lv_at hl 6 rfl) ?_
                refine hw_icmp_eq hx hb (by omega) (by omega) dX2_takenByList_75 rfl (fun hf3 => ?_) (fun hf3 => ?_)
                · refine lv_iload hx hb dX2_takenByList_80 (lv_at hl 2 rfl) ?_
                  refine lv_aload_n hx hb dX2_takenByList_82 rfl (lv_at hl 4 rfl) ?_
                  refine va_get (D := D) (ci := 2) (v := .ref q3) (C := RX2) (T := TX2) (N := 6) hx hb htg hi_X2 hown hK hP 0 rfl rfl 4 (by decide) (htg _ hm_80) (fun _ h9 => h9) rfl dX2_takenByList_83 ?_
                  refine lv_iload hx hb dX2_takenByList_86 (lv_at hl 1 rfl) ?_
                  refine hw_iald hx hb hK hP 3 0 rfl rfl (j := x) (by omega) (by first | decide | omega) (v := (1 : Int32) <<< (nI (bi x) &&& 31)) (j4) dX2_takenByList_88 ?_
                  refine lv_ior hx hb dX2_takenByList_89 ?_
                  refine lv_istore hx hb dX2_takenByList_90 hl (by decide) rfl (fun ls hl => ?_)
                  replace hl : lv_has ls 7 [(4, .int (T ||| ((1 : Int32) <<< (nI (bi x) &&& 31)))), (6, .int (nI k9)), (5, .int (nI x)), (3, .int (hc_b lo)), (0, .ref g), (1, .int (nI st)), (2, .int (nI en))] := hl
                  refine lv_aload_n hx hb dX2_takenByList_92 rfl (lv_at hl 4 rfl) ?_
                  refine va_get (D := D) (ci := 2) (v := .ref q1) (C := RX2) (T := TX2) (N := 6) hx hb htg hi_X2 hown hK hP 0 rfl rfl 2 (by decide) (htg _ hm_77) (fun _ h9 => h9) rfl dX2_takenByList_93 ?_
                  refine lv_iload hx hb dX2_takenByList_96 (lv_at hl 2 rfl) ?_
                  refine hw_iald hx hb hK hP 1 0 rfl rfl (j := x) (by omega) (by first | decide | omega) (v := nI z) (j2) dX2_takenByList_98 ?_
                  refine lv_istore hx hb dX2_takenByList_99 hl (by decide) rfl (fun ls hl => ?_)
                  replace hl : lv_has ls 7 [(5, .int (nI z)), (4, .int (T ||| ((1 : Int32) <<< (nI (bi x) &&& 31)))), (6, .int (nI k9)), (3, .int (hc_b lo)), (0, .ref g), (1, .int (nI st)), (2, .int (nI en))] := hl
                  refine lv_iinc (v := nI (k9 + 1)) (k := 2) hx hb dX2_takenByList_101 hl rfl (hw_inc _) (by decide) rfl (fun ls hl => ?_)
                  replace hl : lv_has ls 7 [(6, .int (nI (k9 + 1))), (5, .int (nI z)), (4, .int (T ||| ((1 : Int32) <<< (nI (bi x) &&& 31)))), (3, .int (hc_b lo)), (0, .ref g), (1, .int (nI st)), (2, .int (nI en))] := hl
                  refine lv_goto hx hb dX2_takenByList_104 rfl ?_
                  refine ih (hl := hl) (hx9 := j1) (hPP := (hc_PP_snoc hc7 hz9 _ _ hPP)) (hlen := (by rw [List.length_append, hlen]; rfl)) (hT := (fun j hj => ?_)) (hpl := (fun hlo9 a ha hla => ?_)) (hk9 := (by omega)) (hk := (by omega))
                  · rw [b_or, Bool.or_eq_true, hT j hj, hb_1 (bi x) (by omega) j hj, decide_eq_true_eq]
                    constructor
                    · rintro (⟨a, h1, h2⟩ | h1)
                      · exact ⟨a, List.mem_append.mpr (Or.inl h1), h2⟩
                      · exact ⟨x, List.mem_append.mpr (Or.inr List.mem_cons_self), h1.symm⟩
                    · rintro ⟨a, h1, h2⟩
                      rcases List.mem_append.mp h1 with h1 | h1
                      · exact Or.inl ⟨a, h1, h2⟩
                      · exact Or.inr (by rw [← h2, List.mem_singleton.mp h1])
                  · rcases List.mem_append.mp ha with ha | ha
                    · exact hpl hlo9 a ha hla
                    · rw [List.mem_singleton.mp ha] at hla ⊢
                      rw [hz9, hf3]
                · refine lv_iconst (v := (-1)) hx hb dX2_takenByList_78 (by decide) ?_
                  exact W.iret (v := -1) hx hb hr (fun t9 ht9 hW9 => ⟨_, rfl, Or.inl ⟨rfl, hc_walk_loose hPP hc7 (hlo.1.mp hf1) hf2 (fun q => hf3 (by rw [hz9] at q; injection q))⟩, ht9⟩) (fun _ h => nomatch h) dX2_takenByList_79
          · refine lv_if_ne hx hb dX2_takenByList_48 rfl (fun hc => absurd rfl hc) (fun hc => ?_)
            refine lv_iconst (v := (-1)) hx hb dX2_takenByList_51 (by decide) ?_
            have hq9 : nx x = none := Classical.not_not.mp hq
            exact W.iret (v := -1) hx hb hr (fun t9 ht9 hW9 => ⟨_, rfl, Or.inl ⟨rfl, hc_walk_none hPP hc7 hq9⟩, ht9⟩) (fun _ h => nomatch h) dX2_takenByList_52
end
section
set_option maxHeartbeats 4000000 in
set_option maxRecDepth 100000 in
/-- what a claim takes of a heap -/
theorem k_X2_takenBy (l : Launch) (D : va_G) (cI cZ cJ : ClassId) (v : Nat → Nat) (V : Nat → Int32) (sm ot : Nat → Nat → Bool) (n : Nat) (fr to : Nat → Nat) (li : Nat → Bool) (S O Fr To Li : Nat → Int32) (nm : Int32) (h a1 a2 a3 a4 a5 : Nat) (G : Nat) (EN LG BI : Nat → Int32) (nx : Nat → Option Nat) (lg : Nat → Bool) (bi : Nat → Nat) (fl : Int32) (g q0 q1 q2 q3 : Nat) (hV : ∀ t, t < 6 → V t = nI (v t)) (hvG : ∀ t, t < 6 → v t ≤ G) (hC : hs_cl S O Fr To Li sm ot n fr to li) (hG : G < 2 ^ 30) (hH : hs_hp G EN LG BI nx lg bi) (hbi : ∀ a b, nx a ≠ none → nx b ≠ none → bi a = bi b → a = b) : Met l yX2_takenBy (Cond.code yX2_takenBy cX2_takenBy 7 (some .int) :: hwG) { frames := 2, cells := 0, slots := 0, locals := 47 } (hp_R [.ref g, .ref h] D cI cZ cJ [(g, .inr (2, [.ref q0, .int (nI G), .ref q1, .ref q2, .ref q3, .int fl])), (q0, .inl (cI, 6, .inl V)), (q1, .inl (cI, G + 1, .inl EN)), (q2, .inl (cZ, G + 1, .inl LG)), (q3, .inl (cI, G + 1, .inl BI)), (h, .inr (1, [.ref a1, .ref a2, .ref a3, .ref a4, .ref a5, .int (nI n), .int nm])), (a1, .inl (cI, 6, .inl S)), (a2, .inl (cI, 6, .inl O)), (a3, .inl (cI, 5, .inl Fr)), (a4, .inl (cI, 5, .inl To)), (a5, .inl (cZ, 5, .inl Li))]) (vp_Si (fun r => hs_tb nx lg bi v sm ot n fr to li r)) 0 0 (fun _ => False) := by
  refine Met.ofW (cc := cX2_takenBy) (maxL := 7) (ret := (some .int)) (by decide) rfl ?_
  intro p e s m args below meth c s₁ B hml hv
  obtain ⟨rfl, hP, hz⟩ := hv
  have hx := B.exec
  have hb := B.bytes
  have hr := B.returns
  have hts := atoms_spec (ws := (Cond.code yX2_takenBy cX2_takenBy 7 (some .int) :: hwG)) B.pre
  have htg := fun w h => hts w (List.mem_cons_of_mem _ h)
  have hown : s.vm.findClass RX2 = some m.cls := findClass_of_methodNamed B.named
  have hlocks := B.notSynchronized
  have hK := hz.1
  have hl := lv_entry ([.ref g, .ref h]) (n := 7) (Nat.le_of_ble_eq_true rfl)
  rw [lg_entry_eq]
  generalize (lg_sl ([.ref g, .ref h]) ++ List.replicate (7 - (lg_sl ([.ref g, .ref h])).length) Slot.unset).toArray = ls at hl ⊢
  replace hl : lv_has ls 7 [(0, .ref g), (1, .ref h)] := hl
  refine lv_aload_n hx hb dX2_takenBy_0 rfl (lv_at hl 1 rfl) ?_
  refine lv_aload_n hx hb dX2_takenBy_1 rfl (lv_at hl 0 rfl) ?_
  refine va_get (D := D) (ci := 2) (v := .ref q0) (C := RX2) (T := TX2) (N := 6) hx hb htg hi_X2 hown hK hP 0 rfl rfl 0 (by decide) (htg _ hm_73) (fun _ h9 => h9) rfl dX2_takenBy_2 ?_
  refine hw_csi (va_runV (C := RX1) (b := h) (As := [.ref q0]) (rest := []) ⟨hx, hb, hml, hown, htg⟩ (k_X1_pairsFit l D cI cZ cJ v V q0 sm ot n fr to li S O Fr To Li nm h a1 a2 a3 a4 a5 hV (fun t ht => by have := hvG t ht; omega) hC) (cwV 1 htg (hg_V hm_169 hm_147 hm_148 hm_2 hm_149) rfl rfl rfl (by decide +kernel) ⟨Nat.le_of_ble_eq_true rfl, Nat.le_of_ble_eq_true rfl⟩) ⟨hp_R_blind, va_recv (q := (RX1, TX1, 7)) (q0 := 5) (ci := 1) hK hP rfl rfl, hp_R_pre (hP.sub (ws' := [(h, .inr (1, [.ref a1, .ref a2, .ref a3, .ref a4, .ref a5, .int (nI n), .int nm])), (a1, .inl (cI, 6, .inl S)), (a2, .inl (cI, 6, .inl O)), (q0, .inl (cI, 6, .inl V))]) [5, 6, 7, 1] rfl) hz⟩ rfl rfl hl.1 rfl (lv_room (Nat.le_of_ble_eq_true rfl)) dX2_takenBy_5 ⟨Nat.zero_le _, Nat.zero_le _⟩) (fun r hq => ?_)
  rcases hq with ⟨rfl, hq⟩ | ⟨rfl, hq⟩
  · refine lv_if_ne hx hb dX2_takenBy_8 rfl (fun hc => ?_) (fun hc => absurd hc (by decide))
    refine lv_iconst (v := nI 0) hx hb dX2_takenBy_13 (by decide) ?_
    refine lv_istore_n hx hb dX2_takenBy_14 rfl hl (by decide) rfl (fun ls hl => ?_)
    replace hl : lv_has ls 7 [(2, .int (nI 0)), (0, .ref g), (1, .ref h)] := hl
    refine lv_iconst (v := nI 0) hx hb dX2_takenBy_15 (by decide) ?_
    refine lv_istore_n hx hb dX2_takenBy_16 rfl hl (by decide) rfl (fun ls hl => ?_)
    replace hl : lv_has ls 7 [(3, .int (nI 0)), (2, .int (nI 0)), (0, .ref g), (1, .ref h)] := hl
    have hb31 := hs_b31 hH
    have hn5 := hC.1
    obtain ⟨p9, e_p9⟩ : ∃ z : Nat, z = 0 := ⟨_, rfl⟩
    obtain ⟨T, e_T⟩ : ∃ z : Int32, z = nI 0 := ⟨_, rfl⟩
    obtain ⟨c9, e_c9⟩ : ∃ z : Nat → List Nat, z = (fun _ => []) := ⟨_, rfl⟩
    replace hl : lv_has ls 7 [(3, .int (nI p9)), (2, .int T), (0, .ref g), (1, .ref h)] := by subst e_p9 e_T e_c9; exact hl
    have hT : hs_TB nx lg bi (fun p => v (fr p)) (fun p => v (to p)) li p9 T c9 := by subst e_p9 e_T e_c9; exact hs_TB_0
    have hp9 : p9 ≤ n := by subst e_p9 e_T e_c9; exact Nat.zero_le _
    clear e_p9 e_T e_c9
    obtain ⟨k, hk⟩ : ∃ k : Nat, k = n - p9 := ⟨_, rfl⟩
    induction k generalizing p9 T c9 ls  with
    | zero =>
      refine lv_iload_n hx hb dX2_takenBy_17 rfl (lv_at hl 0 rfl) ?_
      refine lv_aload_n hx hb dX2_takenBy_18 rfl (lv_at hl 3 rfl) ?_
      refine va_getN (D := D) (ci := 1) (v := .int (nI n)) (C := RX1) (T := TX1) (N := 7) hx hb htg hi_X1 hown hK hP 5 rfl rfl 5 (by decide) (hz_useF hz hn_44) (fun _ h9 => h9) rfl dX2_takenBy_19 ?_
      refine hw_icmp_ge hx hb (by omega) (by omega) dX2_takenBy_22 rfl (fun hc => ?_) (fun hc => absurd hc (by omega))
      refine lv_iload_n hx hb dX2_takenBy_107 rfl (lv_at hl 1 rfl) ?_
      have hpn : p9 = n := by omega
      subst hpn
      exact W.iret (v := T) hx hb hr (fun t9 ht9 hW9 => ⟨_, rfl, Or.inr ⟨hs_TB_m1 hb31 hT, hq, c9, hT⟩, ht9⟩) (fun _ h => nomatch h) dX2_takenBy_108
    | succ k ih =>
      refine lv_iload_n hx hb dX2_takenBy_17 rfl (lv_at hl 0 rfl) ?_
      refine lv_aload_n hx hb dX2_takenBy_18 rfl (lv_at hl 3 rfl) ?_
      refine va_getN (D := D) (ci := 1) (v := .int (nI n)) (C := RX1) (T := TX1) (N := 7) hx hb htg hi_X1 hown hK hP 5 rfl rfl 5 (by decide) (hz_useF hz hn_44) (fun _ h9 => h9) rfl dX2_takenBy_19 ?_
      refine hw_icmp_ge hx hb (by omega) (by omega) dX2_takenBy_22 rfl (fun hc => absurd hc (by omega)) (fun hc => ?_)
      obtain ⟨f1, f2, f3, f4, f5⟩ := hC.2.2 p9 (by omega)
      refine lv_aload_n hx hb dX2_takenBy_25 rfl (lv_at hl 2 rfl) ?_
      refine va_get (D := D) (ci := 2) (v := .ref q0) (C := RX2) (T := TX2) (N := 6) hx hb htg hi_X2 hown hK hP 0 rfl rfl 0 (by decide) (htg _ hm_73) (fun _ h9 => h9) rfl dX2_takenBy_26 ?_
      refine lv_aload_n hx hb dX2_takenBy_29 rfl (lv_at hl 3 rfl) ?_
      refine va_getN (D := D) (ci := 1) (v := .ref a3) (C := RX1) (T := TX1) (N := 7) hx hb htg hi_X1 hown hK hP 5 rfl rfl 2 (by decide) (hz_useF hz hn_34) (fun _ h9 => h9) rfl dX2_takenBy_30 ?_
      refine lv_iload_n hx hb dX2_takenBy_33 rfl (lv_at hl 0 rfl) ?_
      refine hw_iald hx hb hK hP 8 0 rfl rfl (j := p9) (by omega) (by first | decide | omega) (v := nI (fr p9)) ((hC.2.2 p9 (by omega)).1) dX2_takenBy_34 ?_
      refine hw_iald hx hb hK hP 1 0 rfl rfl (j := (fr p9)) (by omega) (by first | decide | omega) (v := nI (v (fr p9))) (hV (fr p9) (by first | assumption | omega)) dX2_takenBy_35 ?_
      refine lv_istore hx hb dX2_takenBy_36 hl (by decide) rfl (fun ls hl => ?_)
      replace hl : lv_has ls 7 [(4, .int (nI (v (fr p9)))), (3, .int (nI p9)), (2, .int T), (0, .ref g), (1, .ref h)] := hl
      refine lv_aload_n hx hb dX2_takenBy_38 rfl (lv_at hl 3 rfl) ?_
      refine va_get (D := D) (ci := 2) (v := .ref q0) (C := RX2) (T := TX2) (N := 6) hx hb htg hi_X2 hown hK hP 0 rfl rfl 0 (by decide) (htg _ hm_73) (fun _ h9 => h9) rfl dX2_takenBy_39 ?_
      refine lv_aload_n hx hb dX2_takenBy_42 rfl (lv_at hl 4 rfl) ?_
      refine va_getN (D := D) (ci := 1) (v := .ref a4) (C := RX1) (T := TX1) (N := 7) hx hb htg hi_X1 hown hK hP 5 rfl rfl 3 (by decide) (hz_useF hz hn_37) (fun _ h9 => h9) rfl dX2_takenBy_43 ?_
      refine lv_iload_n hx hb dX2_takenBy_46 rfl (lv_at hl 1 rfl) ?_
      refine hw_iald hx hb hK hP 9 0 rfl rfl (j := p9) (by omega) (by first | decide | omega) (v := nI (to p9)) ((hC.2.2 p9 (by omega)).2.2.1) dX2_takenBy_47 ?_
      refine hw_iald hx hb hK hP 1 0 rfl rfl (j := (to p9)) (by omega) (by first | decide | omega) (v := nI (v (to p9))) (hV (to p9) (by first | assumption | omega)) dX2_takenBy_48 ?_
      refine lv_istore hx hb dX2_takenBy_49 hl (by decide) rfl (fun ls hl => ?_)
      replace hl : lv_has ls 7 [(5, .int (nI (v (to p9)))), (4, .int (nI (v (fr p9)))), (3, .int (nI p9)), (2, .int T), (0, .ref g), (1, .ref h)] := hl
      refine lv_aload_n hx hb dX2_takenBy_51 rfl (lv_at hl 5 rfl) ?_
      refine va_getN (D := D) (ci := 1) (v := .ref a5) (C := RX1) (T := TX1) (N := 7) hx hb htg hi_X1 hown hK hP 5 rfl rfl 4 (by decide) (hz_useF hz hn_40) (fun _ h9 => h9) rfl dX2_takenBy_52 ?_
      refine lv_iload_n hx hb dX2_takenBy_55 rfl (lv_at hl 2 rfl) ?_
      refine hw_zald hx hb hK hP 10 1 rfl rfl (j := p9) (by omega) (by first | decide | omega) (v := hc_b (li p9)) ((hC.2.2 p9 (by omega)).2.2.2.2) dX2_takenBy_56 ?_
      refine hw_ifeq_b hx hb dX2_takenBy_57 rfl (fun hli => ?_) (fun hli => ?_)
      · refine lv_aload_n hx hb dX2_takenBy_71 rfl (lv_at hl 4 rfl) ?_
        refine lv_iload hx hb dX2_takenBy_72 (lv_at hl 1 rfl) ?_
        refine lv_iload hx hb dX2_takenBy_74 (lv_at hl 0 rfl) ?_
        refine hw_csi (va_runV (C := RX2) (b := g) (As := [.int (nI (v (fr p9))), .int (nI (v (to p9)))]) (rest := []) ⟨hx, hb, hml, hown, htg⟩ (k_X2_takenByCell l D cI cZ cJ (v (fr p9)) (v (to p9)) G EN LG BI nx lg bi fl g q0 q1 q2 q3 (hvG _ f2) (hvG _ f4) hG hH) (cwV 2 htg (hg_V hm_175 hm_177 hs_yX2_takenByCell hm_3 hm_178) rfl rfl rfl (by decide +kernel) ⟨Nat.le_of_ble_eq_true rfl, Nat.le_of_ble_eq_true rfl⟩) ⟨hp_R_blind, va_recv (q := (RX2, TX2, 6)) (q0 := 0) (ci := 2) hK hP rfl rfl, hp_R_pre (hP.sub (ws' := [(g, .inr (2, [.ref q0, .int (nI G), .ref q1, .ref q2, .ref q3, .int fl])), (q1, .inl (cI, G + 1, .inl EN)), (q2, .inl (cZ, G + 1, .inl LG)), (q3, .inl (cI, G + 1, .inl BI))]) [0, 2, 3, 4] rfl) hz⟩ rfl rfl hl.1 rfl (lv_room (Nat.le_of_ble_eq_true rfl)) dX2_takenBy_76 ⟨Nat.zero_le _, Nat.zero_le _⟩) (fun r9 htk => ?_)
        rw [← hli] at htk
        refine lv_istore hx hb dX2_takenBy_79 hl (by decide) rfl (fun ls hl => ?_)
        replace hl : lv_has ls 7 [(6, .int r9), (5, .int (nI (v (to p9)))), (4, .int (nI (v (fr p9)))), (3, .int (nI p9)), (2, .int T), (0, .ref g), (1, .ref h)] := hl
        refine lv_iload hx hb dX2_takenBy_81 (lv_at hl 0 rfl) ?_
        refine lv_iconst (v := (-1)) hx hb dX2_takenBy_83 (by decide) ?_
        rcases htk with ⟨rfl, htk⟩ | ⟨hne, l9, htk, hbt⟩
        · refine lv_icmp_eq hx hb dX2_takenBy_84 rfl (fun hc => ?_) (fun hc => absurd rfl hc)
          refine lv_iconst (v := (-1)) hx hb dX2_takenBy_94 (by decide) ?_
          exact W.iret (v := -1) hx hb hr (fun t9 ht9 hW9 => ⟨_, rfl, Or.inl ⟨rfl, fun h9 => hs_TB_none (S := fun p => v (fr p)) (E := fun p => v (to p)) (I := li) (n := n) (p := p9) (by omega) htk h9.2⟩, ht9⟩) (fun _ h => nomatch h) dX2_takenBy_95
        · refine lv_icmp_eq hx hb dX2_takenBy_84 rfl (fun hc => absurd hc hne) (fun hc => ?_)
          refine lv_iload hx hb dX2_takenBy_87 (lv_at hl 0 rfl) ?_
          refine lv_iload_n hx hb dX2_takenBy_89 rfl (lv_at hl 4 rfl) ?_
          refine lv_iand hx hb dX2_takenBy_90 ?_
          refine lv_if_eq hx hb dX2_takenBy_91 rfl (fun hov => ?_) (fun hov => ?_)
          · refine lv_iload_n hx hb dX2_takenBy_96 rfl (lv_at hl 4 rfl) ?_
            refine lv_iload hx hb dX2_takenBy_97 (lv_at hl 0 rfl) ?_
            refine lv_ior hx hb dX2_takenBy_99 ?_
            refine lv_istore_n hx hb dX2_takenBy_100 rfl hl (by decide) rfl (fun ls hl => ?_)
            replace hl : lv_has ls 7 [(2, .int (T ||| r9)), (6, .int r9), (5, .int (nI (v (to p9)))), (4, .int (nI (v (fr p9)))), (3, .int (nI p9)), (0, .ref g), (1, .ref h)] := hl
            refine lv_iinc (v := nI (p9 + 1)) (k := 4) hx hb dX2_takenBy_101 hl rfl (hw_inc _) (by decide) rfl (fun ls hl => ?_)
            replace hl : lv_has ls 7 [(3, .int (nI (p9 + 1))), (2, .int (T ||| r9)), (6, .int r9), (5, .int (nI (v (to p9)))), (4, .int (nI (v (fr p9)))), (0, .ref g), (1, .ref h)] := hl
            refine lv_goto hx hb dX2_takenBy_104 rfl ?_
            replace hl : lv_has ls 7 [(3, .int (nI (p9 + 1))), (2, .int (T ||| r9)), (0, .ref g), (1, .ref h)] := lv_sub hl [0, 1, 5, 6] rfl
            refine ih (hl := hl) (hT := (hs_TB_step hbi hb31 hT htk hbt hov)) (hp9 := (by omega)) (hk := (by omega))
          · refine lv_iconst (v := (-1)) hx hb dX2_takenBy_94 (by decide) ?_
            exact W.iret (v := -1) hx hb hr (fun t9 ht9 hW9 => ⟨_, rfl, Or.inl ⟨rfl, fun h9 => hs_TB_over hbi (S := fun p => v (fr p)) (E := fun p => v (to p)) (I := li) (n := n) (p := p9) (by omega) hT htk hbt hov h9.2⟩, ht9⟩) (fun _ h => nomatch h) dX2_takenBy_95
      · refine lv_aload_n hx hb dX2_takenBy_60 rfl (lv_at hl 4 rfl) ?_
        refine lv_iload hx hb dX2_takenBy_61 (lv_at hl 1 rfl) ?_
        refine lv_iload hx hb dX2_takenBy_63 (lv_at hl 0 rfl) ?_
        refine hw_csi (va_runV (C := RX2) (b := g) (As := [.int (nI (v (fr p9))), .int (nI (v (to p9)))]) (rest := []) ⟨hx, hb, hml, hown, htg⟩ (k_X2_takenByList l D cI cZ cJ (v (fr p9)) (v (to p9)) G EN LG BI nx lg bi fl g q0 q1 q2 q3 (hvG _ f2) (hvG _ f4) hG hH) (cwV 2 htg (hg_V hm_170 hm_172 hs_yX2_takenByList hm_3 hm_173) rfl rfl rfl (by decide +kernel) ⟨Nat.le_of_ble_eq_true rfl, Nat.le_of_ble_eq_true rfl⟩) ⟨hp_R_blind, va_recv (q := (RX2, TX2, 6)) (q0 := 0) (ci := 2) hK hP rfl rfl, hp_R_pre (hP.sub (ws' := [(g, .inr (2, [.ref q0, .int (nI G), .ref q1, .ref q2, .ref q3, .int fl])), (q1, .inl (cI, G + 1, .inl EN)), (q2, .inl (cZ, G + 1, .inl LG)), (q3, .inl (cI, G + 1, .inl BI))]) [0, 2, 3, 4] rfl) hz⟩ rfl rfl hl.1 rfl (lv_room (Nat.le_of_ble_eq_true rfl)) dX2_takenBy_65 ⟨Nat.zero_le _, Nat.zero_le _⟩) (fun r9 htk => ?_)
        rw [← hli] at htk
        refine lv_goto hx hb dX2_takenBy_68 rfl ?_
        refine lv_istore hx hb dX2_takenBy_79 hl (by decide) rfl (fun ls hl => ?_)
        replace hl : lv_has ls 7 [(6, .int r9), (5, .int (nI (v (to p9)))), (4, .int (nI (v (fr p9)))), (3, .int (nI p9)), (2, .int T), (0, .ref g), (1, .ref h)] := hl
        refine lv_iload hx hb dX2_takenBy_81 (lv_at hl 0 rfl) ?_
        refine lv_iconst (v := (-1)) hx hb dX2_takenBy_83 (by decide) ?_
        rcases htk with ⟨rfl, htk⟩ | ⟨hne, l9, htk, hbt⟩
        · refine lv_icmp_eq hx hb dX2_takenBy_84 rfl (fun hc => ?_) (fun hc => absurd rfl hc)
          refine lv_iconst (v := (-1)) hx hb dX2_takenBy_94 (by decide) ?_
          exact W.iret (v := -1) hx hb hr (fun t9 ht9 hW9 => ⟨_, rfl, Or.inl ⟨rfl, fun h9 => hs_TB_none (S := fun p => v (fr p)) (E := fun p => v (to p)) (I := li) (n := n) (p := p9) (by omega) htk h9.2⟩, ht9⟩) (fun _ h => nomatch h) dX2_takenBy_95
        · refine lv_icmp_eq hx hb dX2_takenBy_84 rfl (fun hc => absurd hc hne) (fun hc => ?_)
          refine lv_iload hx hb dX2_takenBy_87 (lv_at hl 0 rfl) ?_
          refine lv_iload_n hx hb dX2_takenBy_89 rfl (lv_at hl 4 rfl) ?_
          refine lv_iand hx hb dX2_takenBy_90 ?_
          refine lv_if_eq hx hb dX2_takenBy_91 rfl (fun hov => ?_) (fun hov => ?_)
          · refine lv_iload_n hx hb dX2_takenBy_96 rfl (lv_at hl 4 rfl) ?_
            refine lv_iload hx hb dX2_takenBy_97 (lv_at hl 0 rfl) ?_
            refine lv_ior hx hb dX2_takenBy_99 ?_
            refine lv_istore_n hx hb dX2_takenBy_100 rfl hl (by decide) rfl (fun ls hl => ?_)
            replace hl : lv_has ls 7 [(2, .int (T ||| r9)), (6, .int r9), (5, .int (nI (v (to p9)))), (4, .int (nI (v (fr p9)))), (3, .int (nI p9)), (0, .ref g), (1, .ref h)] := hl
            refine lv_iinc (v := nI (p9 + 1)) (k := 4) hx hb dX2_takenBy_101 hl rfl (hw_inc _) (by decide) rfl (fun ls hl => ?_)
            replace hl : lv_has ls 7 [(3, .int (nI (p9 + 1))), (2, .int (T ||| r9)), (6, .int r9), (5, .int (nI (v (to p9)))), (4, .int (nI (v (fr p9)))), (0, .ref g), (1, .ref h)] := hl
            refine lv_goto hx hb dX2_takenBy_104 rfl ?_
            replace hl : lv_has ls 7 [(3, .int (nI (p9 + 1))), (2, .int (T ||| r9)), (0, .ref g), (1, .ref h)] := lv_sub hl [0, 1, 5, 6] rfl
            refine ih (hl := hl) (hT := (hs_TB_step hbi hb31 hT htk hbt hov)) (hp9 := (by omega)) (hk := (by omega))
          · refine lv_iconst (v := (-1)) hx hb dX2_takenBy_94 (by decide) ?_
            exact W.iret (v := -1) hx hb hr (fun t9 ht9 hW9 => ⟨_, rfl, Or.inl ⟨rfl, fun h9 => hs_TB_over hbi (S := fun p => v (fr p)) (E := fun p => v (to p)) (I := li) (n := n) (p := p9) (by omega) hT htk hbt hov h9.2⟩, ht9⟩) (fun _ h => nomatch h) dX2_takenBy_95
  · refine lv_if_ne hx hb dX2_takenBy_8 rfl (fun hc => absurd rfl hc) (fun hc => ?_)
    refine lv_iconst (v := (-1)) hx hb dX2_takenBy_11 (by decide) ?_
    exact W.iret (v := -1) hx hb hr (fun t9 ht9 hW9 => ⟨_, rfl, Or.inl ⟨rfl, fun h9 => hq h9.1⟩, ht9⟩) (fun _ h => nomatch h) dX2_takenBy_12
end
section
set_option maxHeartbeats 4000000 in
set_option maxRecDepth 100000 in
/-- the first case -/
theorem k_X0_begin (l : Launch) (D : va_G) (cI cZ cJ : ClassId) (sz : Nat) (x nmC : Int32) (V : Nat → Int32) (G : Nat) (fl : Int32) (k0 g q0 q1 q2 q3 : Nat) : Met l yX0_begin (Cond.code yX0_begin cX0_begin 2 none :: hwG) { frames := 1, cells := 0, slots := 0, locals := 23 } (hp_M [.ref k0, .int x] D cI cZ cJ [(k0, .inr (0, [.ref g, .int nmC])), (g, .inr (2, [.ref q0, .int (nI G), .ref q1, .ref q2, .ref q3, .int fl])), (q0, .inl (cI, 6, .inl V))] sz) (va_Qv (S := Nat → Int32) (fun u => ∀ j, j < 6 → u j = nI 0) (fun u t => va_P D vwCl ([(k0, .inr (0, [.ref g, .int x])), (g, .inr (2, [.ref q0, .int (nI G), .ref q1, .ref q2, .ref q3, .int fl])), (q0, .inl (cI, 6, .inl u))]) t.heap) (va_A [(k0, .inr (0, [.ref g, .int nmC])), (g, .inr (2, [.ref q0, .int (nI G), .ref q1, .ref q2, .ref q3, .int fl])), (q0, .inl (cI, 6, .inl V))] sz)) 0 0 (va_A [(k0, .inr (0, [.ref g, .int nmC])), (g, .inr (2, [.ref q0, .int (nI G), .ref q1, .ref q2, .ref q3, .int fl])), (q0, .inl (cI, 6, .inl V))] sz) := by
  refine Met.ofW (cc := cX0_begin) (maxL := 2) (ret := none) (by decide) rfl ?_
  intro p e s m args below meth c s₁ B hml hv
  obtain ⟨rfl, hsz, hP, hz, hD0⟩ := hv
  have hx := B.exec
  have hb := B.bytes
  have hr := B.returns
  have hts := atoms_spec (ws := (Cond.code yX0_begin cX0_begin 2 none :: hwG)) B.pre
  have htg := fun w h => hts w (List.mem_cons_of_mem _ h)
  have hown : s.vm.findClass RX0 = some m.cls := findClass_of_methodNamed B.named
  have hlocks := B.notSynchronized
  have hK := hz.1
  subst hsz
  have hD := hD0.self (sz := s.heap.size)
  generalize hAe : va_A [(k0, .inr (0, [.ref g, .int nmC])), (g, .inr (2, [.ref q0, .int (nI G), .ref q1, .ref q2, .ref q3, .int fl])), (q0, .inl (cI, 6, .inl V))] s.heap.size = A at hD ⊢
  have hA : ∀ q : Nat, s.heap.size ≤ q → A q := fun q h => by rw [← hAe]; exact Or.inr h
  have hS : va_S A s.heap s.heap [] := va_S.rf
  have hl := lv_entry ([.ref k0, .int x]) (n := 2) (Nat.le_of_ble_eq_true rfl)
  rw [lg_entry_eq]
  generalize (lg_sl ([.ref k0, .int x]) ++ List.replicate (2 - (lg_sl ([.ref k0, .int x])).length) Slot.unset).toArray = ls at hl ⊢
  replace hl : lv_has ls 2 [(0, .ref k0), (1, .int x)] := hl
  replace hP : va_P D vwCl [(k0, .inr (0, [.ref g, .int nmC])), (g, .inr (2, [.ref q0, .int (nI G), .ref q1, .ref q2, .ref q3, .int fl])), (q0, .inl (cI, 6, .inl V))] s.heap := hP
  refine lv_aload_n hx hb dX0_begin_0 rfl (lv_at hl 0 rfl) ?_
  refine lv_iload_n hx hb dX0_begin_1 rfl (lv_at hl 1 rfl) ?_
  refine va_put (D := D) (ci := 0) (v := .int x) (ty := .int) (C := RX0) (T := TX0) (N := 2) hx hb htg hi_X0 tyX0 tyX0_ok nmX0 hown hK hP hD hS 0 rfl rfl 1 (by decide) (htg _ hm_106) (fun _ h9 => h9) rfl (by decide +kernel) rfl rfl (Nat.le_of_ble_eq_true rfl) dX0_begin_2 (fun H locs hP hD hS => ?_)
  replace hP : va_P D vwCl [(k0, .inr (0, [.ref g, .int x])), (g, .inr (2, [.ref q0, .int (nI G), .ref q1, .ref q2, .ref q3, .int fl])), (q0, .inl (cI, 6, .inl V))] H := hP
  replace hD : va_D A [(k0, .inr (0, [.ref g, .int x])), (g, .inr (2, [.ref q0, .int (nI G), .ref q1, .ref q2, .ref q3, .int fl])), (q0, .inl (cI, 6, .inl V))] := hD
  refine lv_aload_n hx hb dX0_begin_5 rfl (lv_at hl 0 rfl) ?_
  refine va_get (D := D) (ci := 0) (v := .ref g) (C := RX0) (T := TX0) (N := 2) hx hb htg hi_X0 hown hK hP 0 rfl rfl 0 (by decide) (htg _ hm_104) (fun _ h9 => h9) rfl dX0_begin_6 ?_
  refine va_getN (D := D) (ci := 2) (v := .ref q0) (C := RX2) (T := TX2) (N := 6) hx hb htg hi_X2 hown hK hP 1 rfl rfl 0 (by decide) (hz_useF hz hn_74) (fun _ h9 => h9) rfl dX0_begin_9 ?_
  refine lv_iconst (v := nI 0) hx hb dX0_begin_12 (by decide) ?_
  refine hv_callv (w1 := fun u => [(q0, .inl (cI, 6, .inl u))]) (va_runS (As := [.ref q0, .int (nI 0)]) (rest := []) ⟨hx, hb, hml, hown, htg⟩ (k_J7_fill l D cI cZ cJ _ V 6 q0 (nI 0) (by decide)) (va_cwS 2 htg (hg_S hm_141 hm_71 hm_4 hm_72) rfl rfl rfl (by decide +kernel) ⟨Nat.le_of_ble_eq_true rfl, Nat.le_of_ble_eq_true rfl⟩) ⟨hp_M_blind, hp_M_pre (hP.sub (ws' := [(q0, .inl (cI, 6, .inl V))]) [2] rfl) (hD.sub (ws' := [(q0, .inl (cI, 6, .inl V))]) [2] (by decide) rfl) hz⟩ rfl rfl hl.1 rfl (lv_room (Nat.le_of_ble_eq_true rfl)) dX0_begin_13 ⟨Nat.zero_le _, Nat.zero_le _⟩) hP hD hS hA [2] rfl (fun _ => rfl) (fun V1 H locs h1 hP hD hS => ?_)
  replace hP : va_P D vwCl [(k0, .inr (0, [.ref g, .int x])), (g, .inr (2, [.ref q0, .int (nI G), .ref q1, .ref q2, .ref q3, .int fl])), (q0, .inl (cI, 6, .inl V1))] H := hP
  replace hD : va_D A [(k0, .inr (0, [.ref g, .int x])), (g, .inr (2, [.ref q0, .int (nI G), .ref q1, .ref q2, .ref q3, .int fl])), (q0, .inl (cI, 6, .inl V1))] := hD
  exact W.vret hx hb hr (fun t9 ht9 hW9 => ⟨⟨V1, rfl, h1, by show va_P D vwCl [(k0, .inr (0, [.ref g, .int x])), (g, .inr (2, [.ref q0, .int (nI G), .ref q1, .ref q2, .ref q3, .int fl])), (q0, .inl (cI, 6, .inl V1))] t9.heap; rw [ht9]; exact hP⟩, hS.F ht9⟩) hS.2.2 dX0_begin_16

set_option maxHeartbeats 4000000 in
set_option maxRecDepth 100000 in
/-- the greatest before t -/
theorem k_X0_greatestBefore (l : Launch) (D : va_G) (cI cZ cJ : ClassId) (l0 : List Nat) (V : Nat → Int32) (t : Nat) (nmC : Int32) (G : Nat) (fl : Int32) (k0 g q0 q1 q2 q3 : Nat) (hV : ∀ j, j < 6 → V j = nI (l0.getD j 0)) (hB : ∀ j, j < 6 → l0.getD j 0 < 2 ^ 30) (ht : t ≤ 6) : Met l yX0_greatestBefore (Cond.code yX0_greatestBefore cX0_greatestBefore 4 (some .int) :: hwG) { frames := 1, cells := 0, slots := 0, locals := 13 } (hp_R [.ref k0, .int (nI t)] D cI cZ cJ [(k0, .inr (0, [.ref g, .int nmC])), (g, .inr (2, [.ref q0, .int (nI G), .ref q1, .ref q2, .ref q3, .int fl])), (q0, .inl (cI, 6, .inl V))]) (vp_Si (fun r => r = nI (hc_mx l0 t))) 0 0 (fun _ => False) := by
  refine Met.ofW (cc := cX0_greatestBefore) (maxL := 4) (ret := (some .int)) (by decide) rfl ?_
  intro p e s m args below meth c s₁ B hml hv
  obtain ⟨rfl, hP, hz⟩ := hv
  have hx := B.exec
  have hb := B.bytes
  have hr := B.returns
  have hts := atoms_spec (ws := (Cond.code yX0_greatestBefore cX0_greatestBefore 4 (some .int) :: hwG)) B.pre
  have htg := fun w h => hts w (List.mem_cons_of_mem _ h)
  have hown : s.vm.findClass RX0 = some m.cls := findClass_of_methodNamed B.named
  have hlocks := B.notSynchronized
  have hK := hz.1
  have hl := lv_entry ([.ref k0, .int (nI t)]) (n := 4) (Nat.le_of_ble_eq_true rfl)
  rw [lg_entry_eq]
  generalize (lg_sl ([.ref k0, .int (nI t)]) ++ List.replicate (4 - (lg_sl ([.ref k0, .int (nI t)])).length) Slot.unset).toArray = ls at hl ⊢
  replace hl : lv_has ls 4 [(0, .ref k0), (1, .int (nI t))] := hl
  refine lv_iconst (v := nI 0) hx hb dX0_greatestBefore_0 (by decide) ?_
  refine lv_istore_n hx hb dX0_greatestBefore_1 rfl hl (by decide) rfl (fun ls hl => ?_)
  replace hl : lv_has ls 4 [(2, .int (nI 0)), (0, .ref k0), (1, .int (nI t))] := hl
  refine lv_iconst (v := nI 0) hx hb dX0_greatestBefore_2 (by decide) ?_
  refine lv_istore_n hx hb dX0_greatestBefore_3 rfl hl (by decide) rfl (fun ls hl => ?_)
  replace hl : lv_has ls 4 [(3, .int (nI 0)), (2, .int (nI 0)), (0, .ref k0), (1, .int (nI t))] := hl
  obtain ⟨b, e_b⟩ : ∃ z : Nat, z = 0 := ⟨_, rfl⟩
  obtain ⟨r9, e_r9⟩ : ∃ z : Nat, z = 0 := ⟨_, rfl⟩
  replace hl : lv_has ls 4 [(3, .int (nI b)), (2, .int (nI r9)), (0, .ref k0), (1, .int (nI t))] := by subst e_b e_r9; exact hl
  have hr9 : r9 = hc_mx l0 b := by subst e_b e_r9; rfl
  have hbt : b ≤ t := by subst e_b e_r9; omega
  clear e_b e_r9
  obtain ⟨k, hk⟩ : ∃ k : Nat, k = t - b := ⟨_, rfl⟩
  induction k generalizing b r9 ls  with
  | zero =>
    refine lv_iload_n hx hb dX0_greatestBefore_4 rfl (lv_at hl 0 rfl) ?_
    refine lv_iload_n hx hb dX0_greatestBefore_5 rfl (lv_at hl 3 rfl) ?_
    refine hw_icmp_ge hx hb (by omega) (by omega) dX0_greatestBefore_6 rfl (fun hc => ?_) (fun hc => absurd hc (by omega))
    refine lv_iload_n hx hb dX0_greatestBefore_29 rfl (lv_at hl 1 rfl) ?_
    exact W.iret (v := nI r9) hx hb hr (fun t9 ht9 hW9 => ⟨_, rfl, by rw [hr9, show b = t by omega], ht9⟩) (fun _ h => nomatch h) dX0_greatestBefore_30
  | succ k ih =>
    refine lv_iload_n hx hb dX0_greatestBefore_4 rfl (lv_at hl 0 rfl) ?_
    refine lv_iload_n hx hb dX0_greatestBefore_5 rfl (lv_at hl 3 rfl) ?_
    refine hw_icmp_ge hx hb (by omega) (by omega) dX0_greatestBefore_6 rfl (fun hc => absurd hc (by omega)) (fun hc => ?_)
    have hm1 : hc_mx l0 b < 2 ^ 30 := hc_mx_lt (by decide) hB b (by omega)
    have hm2 := hB b (by omega)
    refine lv_iload_n hx hb dX0_greatestBefore_9 rfl (lv_at hl 1 rfl) ?_
    refine lv_aload_n hx hb dX0_greatestBefore_10 rfl (lv_at hl 2 rfl) ?_
    refine va_get (D := D) (ci := 0) (v := .ref g) (C := RX0) (T := TX0) (N := 2) hx hb htg hi_X0 hown hK hP 0 rfl rfl 0 (by decide) (htg _ hm_104) (fun _ h9 => h9) rfl dX0_greatestBefore_11 ?_
    refine va_getN (D := D) (ci := 2) (v := .ref q0) (C := RX2) (T := TX2) (N := 6) hx hb htg hi_X2 hown hK hP 1 rfl rfl 0 (by decide) (hz_useF hz hn_74) (fun _ h9 => h9) rfl dX0_greatestBefore_14 ?_
    refine lv_iload_n hx hb dX0_greatestBefore_17 rfl (lv_at hl 0 rfl) ?_
    refine hw_iald hx hb hK hP 2 0 rfl rfl (j := b) (by omega) (by first | decide | omega) (v := nI (l0.getD b 0)) (hV b (by omega)) dX0_greatestBefore_18 ?_
    refine va_mmax hx hb (hml.trans hl.1.symm) hown (htg _ hm_187) (htg _ hm_188) (htg _ hm_12) (htg _ hm_189) (Nat.le_of_ble_eq_true rfl) (Nat.le_of_ble_eq_true rfl) (Nat.zero_le _) (Nat.zero_le _) dX0_greatestBefore_19 ?_
    rw [hs_max (by omega) (by omega)]
    refine lv_istore_n hx hb dX0_greatestBefore_22 rfl hl (by decide) rfl (fun ls hl => ?_)
    replace hl : lv_has ls 4 [(2, .int (nI (max r9 (l0.getD b 0)))), (3, .int (nI b)), (0, .ref k0), (1, .int (nI t))] := hl
    refine lv_iinc (v := nI (b + 1)) (k := 1) hx hb dX0_greatestBefore_23 hl rfl (hw_inc _) (by decide) rfl (fun ls hl => ?_)
    replace hl : lv_has ls 4 [(3, .int (nI (b + 1))), (2, .int (nI (max r9 (l0.getD b 0)))), (0, .ref k0), (1, .int (nI t))] := hl
    refine lv_goto hx hb dX0_greatestBefore_26 rfl ?_
    refine ih (hl := hl) (hr9 := (by rw [hr9]; rfl)) (hbt := (by omega)) (hk := (by omega))

set_option maxHeartbeats 4000000 in
set_option maxRecDepth 100000 in
/-- the next case -/
theorem k_X0_advance (l : Launch) (D : va_G) (cI cZ cJ : ClassId) (sz : Nat) (l0 : List Nat) (V : Nat → Int32) (M : Nat) (nmC : Int32) (G : Nat) (fl : Int32) (k0 g q0 q1 q2 q3 : Nat) (hV : ∀ j, j < 6 → V j = nI (l0.getD j 0)) (hB : ∀ j, j < 6 → l0.getD j 0 < 2 ^ 30) (hL : l0.length = 6) (hM : ∀ t, t < 5 → bt nmC t = M.testBit t) : Met l yX0_advance (Cond.code yX0_advance cX0_advance 3 (some .boolean) :: hwG) { frames := 2, cells := 0, slots := 0, locals := 36 } (hp_M [.ref k0] D cI cZ cJ [(k0, .inr (0, [.ref g, .int nmC])), (g, .inr (2, [.ref q0, .int (nI G), .ref q1, .ref q2, .ref q3, .int fl])), (q0, .inl (cI, 6, .inl V))] sz) (va_Qi (S := Nat → Int32) (fun r u => (r = nI 1 ∧ ∃ l2, hc_av M 5 l0 = some l2 ∧ ∀ j, j < 6 → u j = nI (l2.getD j 0)) ∨ (r = nI 0 ∧ hc_av M 5 l0 = none)) (fun u t => va_P D vwCl ([(k0, .inr (0, [.ref g, .int nmC])), (g, .inr (2, [.ref q0, .int (nI G), .ref q1, .ref q2, .ref q3, .int fl])), (q0, .inl (cI, 6, .inl u))]) t.heap) (va_A [(k0, .inr (0, [.ref g, .int nmC])), (g, .inr (2, [.ref q0, .int (nI G), .ref q1, .ref q2, .ref q3, .int fl])), (q0, .inl (cI, 6, .inl V))] sz)) 0 0 (va_A [(k0, .inr (0, [.ref g, .int nmC])), (g, .inr (2, [.ref q0, .int (nI G), .ref q1, .ref q2, .ref q3, .int fl])), (q0, .inl (cI, 6, .inl V))] sz) := by
  refine Met.ofW (cc := cX0_advance) (maxL := 3) (ret := (some .boolean)) (by decide) rfl ?_
  intro p e s m args below meth c s₁ B hml hv
  obtain ⟨rfl, hsz, hP, hz, hD0⟩ := hv
  have hx := B.exec
  have hb := B.bytes
  have hr := B.returns
  have hts := atoms_spec (ws := (Cond.code yX0_advance cX0_advance 3 (some .boolean) :: hwG)) B.pre
  have htg := fun w h => hts w (List.mem_cons_of_mem _ h)
  have hown : s.vm.findClass RX0 = some m.cls := findClass_of_methodNamed B.named
  have hlocks := B.notSynchronized
  have hK := hz.1
  subst hsz
  have hD := hD0.self (sz := s.heap.size)
  generalize hAe : va_A [(k0, .inr (0, [.ref g, .int nmC])), (g, .inr (2, [.ref q0, .int (nI G), .ref q1, .ref q2, .ref q3, .int fl])), (q0, .inl (cI, 6, .inl V))] s.heap.size = A at hD ⊢
  have hA : ∀ q : Nat, s.heap.size ≤ q → A q := fun q h => by rw [← hAe]; exact Or.inr h
  have hS : va_S A s.heap s.heap [] := va_S.rf
  have hl := lv_entry ([.ref k0]) (n := 3) (Nat.le_of_ble_eq_true rfl)
  rw [lg_entry_eq]
  generalize (lg_sl ([.ref k0]) ++ List.replicate (3 - (lg_sl ([.ref k0])).length) Slot.unset).toArray = ls at hl ⊢
  replace hl : lv_has ls 3 [(0, .ref k0)] := hl
  replace hP : va_P D vwCl [(k0, .inr (0, [.ref g, .int nmC])), (g, .inr (2, [.ref q0, .int (nI G), .ref q1, .ref q2, .ref q3, .int fl])), (q0, .inl (cI, 6, .inl V))] s.heap := hP
  refine lv_aload_n hx hb dX0_advance_0 rfl (lv_at hl 0 rfl) ?_
  refine va_get (D := D) (ci := 0) (v := .ref g) (C := RX0) (T := TX0) (N := 2) hx hb htg hi_X0 hown hK hP 0 rfl rfl 0 (by decide) (htg _ hm_104) (fun _ h9 => h9) rfl dX0_advance_1 ?_
  refine va_getN (D := D) (ci := 2) (v := .ref q0) (C := RX2) (T := TX2) (N := 6) hx hb htg hi_X2 hown hK hP 1 rfl rfl 0 (by decide) (hz_useF hz hn_74) (fun _ h9 => h9) rfl dX0_advance_4 ?_
  refine lv_astore_n hx hb dX0_advance_7 rfl hl (by decide) rfl (fun ls hl => ?_)
  replace hl : lv_has ls 3 [(1, .ref q0), (0, .ref k0)] := hl
  refine lv_iconst (v := nI 4) hx hb dX0_advance_8 (by decide) ?_
  refine lv_istore_n hx hb dX0_advance_9 rfl hl (by decide) rfl (fun ls hl => ?_)
  replace hl : lv_has ls 3 [(2, .int (nI 4)), (1, .ref q0), (0, .ref k0)] := hl
  obtain ⟨H, e_H⟩ : ∃ z : Heap, z = s.heap := ⟨_, rfl⟩
  obtain ⟨locs, e_locs⟩ : ∃ z : List Loc, z = [] := ⟨_, rfl⟩
  replace hP : va_P D vwCl [(k0, .inr (0, [.ref g, .int nmC])), (g, .inr (2, [.ref q0, .int (nI G), .ref q1, .ref q2, .ref q3, .int fl])), (q0, .inl (cI, 6, .inl V))] H := by subst e_H; exact hP
  replace hS : va_S A s.heap H locs := by subst e_H e_locs; exact hS
  rw [← e_H, ← e_locs]
  clear e_H e_locs
  obtain ⟨t1, e_t1⟩ : ∃ z : Nat, z = 5 := ⟨_, rfl⟩
  obtain ⟨z, e_z⟩ : ∃ z : Int32, z = nI 4 := ⟨_, rfl⟩
  obtain ⟨V1, e_V1⟩ : ∃ z : Nat → Int32, z = V := ⟨_, rfl⟩
  obtain ⟨l1, e_l1⟩ : ∃ z : List Nat, z = l0 := ⟨_, rfl⟩
  replace hl : lv_has ls 3 [(2, .int z), (1, .ref q0), (0, .ref k0)] := by subst e_t1 e_z e_V1 e_l1; exact hl
  replace hP : va_P D vwCl [(k0, .inr (0, [.ref g, .int nmC])), (g, .inr (2, [.ref q0, .int (nI G), .ref q1, .ref q2, .ref q3, .int fl])), (q0, .inl (cI, 6, .inl V1))] H := by subst e_t1 e_z e_V1 e_l1; exact hP
  replace hD : va_D A [(k0, .inr (0, [.ref g, .int nmC])), (g, .inr (2, [.ref q0, .int (nI G), .ref q1, .ref q2, .ref q3, .int fl])), (q0, .inl (cI, 6, .inl V1))] := by subst e_t1 e_z e_V1 e_l1; exact hD
  have hzt : z = nI t1 + (-1) := by subst e_t1 e_z e_V1 e_l1; decide
  have hV1 : ∀ j, j < 6 → V1 j = nI (l1.getD j 0) := by subst e_t1 e_z e_V1 e_l1; exact hV
  have hB1 : ∀ j, j < 6 → l1.getD j 0 < 2 ^ 30 := by subst e_t1 e_z e_V1 e_l1; exact hB
  have hL1 : l1.length = 6 := by subst e_t1 e_z e_V1 e_l1; exact hL
  have hav : hc_av M 5 l0 = hc_av M t1 l1 := by subst e_t1 e_z e_V1 e_l1; rfl
  have ht5 : t1 ≤ 5 := by subst e_t1 e_z e_V1 e_l1; omega
  clear e_t1 e_z e_V1 e_l1
  obtain ⟨k, hk⟩ : ∃ k : Nat, k = t1 := ⟨_, rfl⟩
  induction k generalizing t1 z V1 l1 ls H locs  with
  | zero =>
    have hz0 : z = -1 := by rw [hzt, ← hk]; decide
    subst hz0
    refine lv_iload_n hx hb dX0_advance_10 rfl (lv_at hl 0 rfl) ?_
    refine lv_if_lt hx hb dX0_advance_11 rfl (fun hc => ?_) (fun hc => absurd (by decide) hc)
    refine lv_iconst (v := nI 0) hx hb dX0_advance_55 (by decide) ?_
    exact W.zret (v := nI 0) hx hb hr (by decide +kernel) (fun t9 ht9 hW9 => ⟨⟨_, V1, rfl, Or.inr ⟨rfl, by rw [hav, ← hk]; rfl⟩, by show va_P D vwCl [(k0, .inr (0, [.ref g, .int nmC])), (g, .inr (2, [.ref q0, .int (nI G), .ref q1, .ref q2, .ref q3, .int fl])), (q0, .inl (cI, 6, .inl V1))] t9.heap; rw [ht9]; exact hP⟩, hS.F ht9⟩) hS.2.2 dX0_advance_56
  | succ k ih =>
    have hz0 : z = nI k := by rw [hzt, ← hk]; exact pk_m1 k
    subst hz0
    refine lv_iload_n hx hb dX0_advance_10 rfl (lv_at hl 0 rfl) ?_
    refine lv_if_lt hx hb dX0_advance_11 rfl (fun hc => absurd hc (nI_pos (by omega))) (fun hc => ?_)
    refine lv_aload_n hx hb dX0_advance_14 rfl (lv_at hl 2 rfl) ?_
    refine va_get (D := D) (ci := 0) (v := .int nmC) (C := RX0) (T := TX0) (N := 2) hx hb htg hi_X0 hown hK hP 0 rfl rfl 1 (by decide) (htg _ hm_106) (fun _ h9 => h9) rfl dX0_advance_15 ?_
    refine lv_iconst (v := nI 1) hx hb dX0_advance_18 (by decide) ?_
    refine lv_iload_n hx hb dX0_advance_19 rfl (lv_at hl 0 rfl) ?_
    refine lv_ishl hx hb dX0_advance_20 ?_
    refine lv_iand hx hb dX0_advance_21 ?_
    rw [← hk] at hav
    refine lv_if_eq hx hb dX0_advance_22 rfl (fun h1 => ?_) (fun h1 => ?_)
    · have hbk : M.testBit k = false := by rw [← hM k (by omega)]; exact (hs_bitz (by omega)).mp h1
      refine lv_iinc (v := nI k + (-1)) (k := 0) hx hb dX0_advance_49 hl rfl rfl (by decide) rfl (fun ls hl => ?_)
      replace hl : lv_has ls 3 [(2, .int (nI k + (-1))), (1, .ref q0), (0, .ref k0)] := hl
      refine lv_goto hx hb dX0_advance_52 rfl ?_
      refine ih (l1 := l1) (hS := hS) (hl := hl) (hP := hP) (hD := hD) (hzt := rfl) (hV1 := hV1) (hB1 := hB1) (hL1 := hL1) (hav := (by rw [hav]; show (if M.testBit k = true then _ else _) = _; rw [if_neg (by rw [hbk]; decide)])) (ht5 := (by omega)) (hk := rfl)
    · have hbk : M.testBit k = true := by rw [← hM k (by omega)]; cases hb9 : bt nmC k with | true => rfl | false => exact absurd ((hs_bitz (by omega)).mpr hb9) h1
      have hm1 : hc_mx l1 k < 2 ^ 30 := hc_mx_lt (by decide) hB1 k (by omega)
      have hm2 := hB1 k (by omega)
      refine lv_aload_n hx hb dX0_advance_25 rfl (lv_at hl 1 rfl) ?_
      refine lv_iload_n hx hb dX0_advance_26 rfl (lv_at hl 0 rfl) ?_
      refine hw_iald hx hb hK hP 2 0 rfl rfl (j := k) (by omega) (by first | decide | omega) (v := nI (l1.getD k 0)) (hV1 k (by omega)) dX0_advance_27 ?_
      refine lv_aload_n hx hb dX0_advance_28 rfl (lv_at hl 2 rfl) ?_
      refine lv_iload_n hx hb dX0_advance_29 rfl (lv_at hl 0 rfl) ?_
      refine hw_csi (va_runV (C := RX0) (b := k0) (As := [.int (nI k)]) (rest := [.int (nI (l1.getD k 0))]) ⟨hx, hb, hml, hown, htg⟩ (k_X0_greatestBefore l D cI cZ cJ l1 V1 k nmC G fl k0 g q0 q1 q2 q3 hV1 hB1 (by omega)) (cwV 1 htg (hg_V hm_183 hm_185 hs_yX0_greatestBefore hm_5 hm_186) rfl rfl rfl (by decide +kernel) ⟨Nat.le_of_ble_eq_true rfl, Nat.le_of_ble_eq_true rfl⟩) ⟨hp_R_blind, va_recv (q := (RX0, TX0, 2)) (q0 := 0) (ci := 0) hK hP rfl rfl, hp_R_pre (hP.sub (ws' := [(k0, .inr (0, [.ref g, .int nmC])), (g, .inr (2, [.ref q0, .int (nI G), .ref q1, .ref q2, .ref q3, .int fl])), (q0, .inl (cI, 6, .inl V1))]) [0, 1, 2] rfl) hz⟩ rfl rfl hl.1 rfl (lv_room (Nat.le_of_ble_eq_true rfl)) dX0_advance_30 ⟨Nat.zero_le _, Nat.zero_le _⟩) (fun rg hg => ?_)
      subst hg
      refine hw_icmp_gt hx hb (by omega) (by omega) dX0_advance_33 rfl (fun h2 => ?_) (fun h2 => ?_)
      · refine lv_aload_n hx hb dX0_advance_45 rfl (lv_at hl 1 rfl) ?_
        refine lv_iload_n hx hb dX0_advance_46 rfl (lv_at hl 0 rfl) ?_
        refine lv_iconst (v := nI 0) hx hb dX0_advance_47 (by decide) ?_
        refine hw_iast hx hb hK hP hD hS 2 0 rfl rfl (j := k) (by omega) (by first | decide | omega) dX0_advance_48 (fun H locs hP hD hS => ?_)
        replace hP : va_P D vwCl [(k0, .inr (0, [.ref g, .int nmC])), (g, .inr (2, [.ref q0, .int (nI G), .ref q1, .ref q2, .ref q3, .int fl])), (q0, .inl (cI, 6, .inl (upd V1 k (nI 0))))] H := hP
        replace hD : va_D A [(k0, .inr (0, [.ref g, .int nmC])), (g, .inr (2, [.ref q0, .int (nI G), .ref q1, .ref q2, .ref q3, .int fl])), (q0, .inl (cI, 6, .inl (upd V1 k (nI 0))))] := hD
        refine lv_iinc (v := nI k + (-1)) (k := 0) hx hb dX0_advance_49 hl rfl rfl (by decide) rfl (fun ls hl => ?_)
        replace hl : lv_has ls 3 [(2, .int (nI k + (-1))), (1, .ref q0), (0, .ref k0)] := hl
        refine lv_goto hx hb dX0_advance_52 rfl ?_
        refine ih (l1 := (l1.set k 0)) (hS := hS) (hl := hl) (hP := hP) (hD := hD) (hzt := rfl) (hV1 := (fun j hj => by rw [hc_set_getD hL1 j (by omega)]; unfold upd; by_cases hjk : j = k; (rw [if_pos hjk, if_pos hjk]); (rw [if_neg hjk, if_neg hjk]; exact hV1 j hj))) (hB1 := (fun j hj => by rw [hc_set_getD hL1 j (by omega)]; by_cases hjk : j = k; (rw [if_pos hjk]; decide); (rw [if_neg hjk]; exact hB1 j hj))) (hL1 := (by rw [List.length_set]; exact hL1)) (hav := (by rw [hav]; show (if M.testBit k = true then (if l1.getD k 0 ≤ hc_mx l1 k then _ else _) else _) = _; rw [if_pos hbk, if_neg (by omega)])) (ht5 := (by omega)) (hk := rfl)
      · refine lv_aload_n hx hb dX0_advance_36 rfl (lv_at hl 1 rfl) ?_
        refine lv_iload_n hx hb dX0_advance_37 rfl (lv_at hl 0 rfl) ?_
        refine lv_dup2_11 hx hb dX0_advance_38 rfl rfl ?_
        refine hw_iald hx hb hK hP 2 0 rfl rfl (j := k) (by omega) (by first | decide | omega) (v := nI (l1.getD k 0)) (hV1 k (by omega)) dX0_advance_39 ?_
        refine lv_iconst (v := nI 1) hx hb dX0_advance_40 (by decide) ?_
        refine hw_iadd hx hb dX0_advance_41 ?_
        refine hw_iast hx hb hK hP hD hS 2 0 rfl rfl (j := k) (by omega) (by first | decide | omega) dX0_advance_42 (fun H locs hP hD hS => ?_)
        replace hP : va_P D vwCl [(k0, .inr (0, [.ref g, .int nmC])), (g, .inr (2, [.ref q0, .int (nI G), .ref q1, .ref q2, .ref q3, .int fl])), (q0, .inl (cI, 6, .inl (upd V1 k (nI (l1.getD k 0 + 1)))))] H := hP
        replace hD : va_D A [(k0, .inr (0, [.ref g, .int nmC])), (g, .inr (2, [.ref q0, .int (nI G), .ref q1, .ref q2, .ref q3, .int fl])), (q0, .inl (cI, 6, .inl (upd V1 k (nI (l1.getD k 0 + 1)))))] := hD
        refine lv_iconst (v := nI 1) hx hb dX0_advance_43 (by decide) ?_
        exact W.zret (v := nI 1) hx hb hr (by decide +kernel) (fun t9 ht9 hW9 => ⟨⟨_, upd V1 k (nI (l1.getD k 0 + 1)), rfl, Or.inl ⟨rfl, l1.set k (l1.getD k 0 + 1), by rw [hav]; show (if M.testBit k = true then (if l1.getD k 0 ≤ hc_mx l1 k then _ else _) else _) = _; rw [if_pos hbk, if_pos h2], fun j hj => by rw [hc_set_getD hL1 j (by omega)]; unfold upd; by_cases hjk : j = k; (rw [if_pos hjk, if_pos hjk]); (rw [if_neg hjk, if_neg hjk]; exact hV1 j hj)⟩, by show va_P D vwCl [(k0, .inr (0, [.ref g, .int nmC])), (g, .inr (2, [.ref q0, .int (nI G), .ref q1, .ref q2, .ref q3, .int fl])), (q0, .inl (cI, 6, .inl (upd V1 k (nI (l1.getD k 0 + 1)))))] t9.heap; rw [ht9]; exact hP⟩, hS.F ht9⟩) hS.2.2 dX0_advance_44

set_option maxHeartbeats 4000000 in
set_option maxRecDepth 100000 in
/-- a claim drawn -/
theorem k_X0_draw (l : Launch) (D : va_G) (cI cZ cJ : ClassId) (sz : Nat) (v : Nat → Nat) (V : Nat → Int32) (sm ot : Nat → Nat → Bool) (n : Nat) (fr to : Nat → Nat) (li : Nat → Bool) (S O Fr To Li : Nat → Int32) (nm : Int32) (h a1 a2 a3 a4 a5 : Nat) (EN LG BI : Nat → Int32) (nmC : Int32) (fl : Int32) (k0 g q0 q1 q2 q3 : Nat) (hV : ∀ t, t < 6 → V t = nI (v t)) (hv5 : ∀ t, t < 6 → v t < 6) (hC : hs_cl S O Fr To Li sm ot n fr to li) : Met l yX0_draw (Cond.code yX0_draw cX0_draw 6 (some .boolean) :: hwG) { frames := 2, cells := 0, slots := 0, locals := 46 } (hp_M [.ref k0, .ref h] D cI cZ cJ [(k0, .inr (0, [.ref g, .int nmC])), (g, .inr (2, [.ref q0, .int (nI 5), .ref q1, .ref q2, .ref q3, .int fl])), (q0, .inl (cI, 6, .inl V)), (q1, .inl (cI, 5 + 1, .inl EN)), (q2, .inl (cZ, 5 + 1, .inl LG)), (q3, .inl (cI, 5 + 1, .inl BI)), (h, .inr (1, [.ref a1, .ref a2, .ref a3, .ref a4, .ref a5, .int (nI n), .int nm])), (a1, .inl (cI, 6, .inl S)), (a2, .inl (cI, 6, .inl O)), (a3, .inl (cI, 5, .inl Fr)), (a4, .inl (cI, 5, .inl To)), (a5, .inl (cZ, 5, .inl Li))] sz) (va_Qi (S := (Nat → Int32) × (Nat → Int32) × (Nat → Int32) × Int32) (fun r u => hc_r r (hc_PO v sm ot ∧ hc_BG 0 n (fun p => v (fr p)) (fun p => v (to p)) li) ∧ (r = nI 1 → ∃ nx lg bi, hd_I (fun p => v (fr p)) (fun p => v (to p)) li n u.1 u.2.1 u.2.2.1 u.2.2.2 nx lg bi)) (fun u t => va_P D vwCl ([(k0, .inr (0, [.ref g, .int nmC])), (g, .inr (2, [.ref q0, .int (nI 5), .ref q1, .ref q2, .ref q3, .int u.2.2.2])), (q0, .inl (cI, 6, .inl V)), (q1, .inl (cI, 5 + 1, .inl u.1)), (q2, .inl (cZ, 5 + 1, .inl u.2.1)), (q3, .inl (cI, 5 + 1, .inl u.2.2.1)), (h, .inr (1, [.ref a1, .ref a2, .ref a3, .ref a4, .ref a5, .int (nI n), .int nm])), (a1, .inl (cI, 6, .inl S)), (a2, .inl (cI, 6, .inl O)), (a3, .inl (cI, 5, .inl Fr)), (a4, .inl (cI, 5, .inl To)), (a5, .inl (cZ, 5, .inl Li))]) t.heap) (va_A [(k0, .inr (0, [.ref g, .int nmC])), (g, .inr (2, [.ref q0, .int (nI 5), .ref q1, .ref q2, .ref q3, .int fl])), (q0, .inl (cI, 6, .inl V)), (q1, .inl (cI, 5 + 1, .inl EN)), (q2, .inl (cZ, 5 + 1, .inl LG)), (q3, .inl (cI, 5 + 1, .inl BI)), (h, .inr (1, [.ref a1, .ref a2, .ref a3, .ref a4, .ref a5, .int (nI n), .int nm])), (a1, .inl (cI, 6, .inl S)), (a2, .inl (cI, 6, .inl O)), (a3, .inl (cI, 5, .inl Fr)), (a4, .inl (cI, 5, .inl To)), (a5, .inl (cZ, 5, .inl Li))] sz)) 0 0 (va_A [(k0, .inr (0, [.ref g, .int nmC])), (g, .inr (2, [.ref q0, .int (nI 5), .ref q1, .ref q2, .ref q3, .int fl])), (q0, .inl (cI, 6, .inl V)), (q1, .inl (cI, 5 + 1, .inl EN)), (q2, .inl (cZ, 5 + 1, .inl LG)), (q3, .inl (cI, 5 + 1, .inl BI)), (h, .inr (1, [.ref a1, .ref a2, .ref a3, .ref a4, .ref a5, .int (nI n), .int nm])), (a1, .inl (cI, 6, .inl S)), (a2, .inl (cI, 6, .inl O)), (a3, .inl (cI, 5, .inl Fr)), (a4, .inl (cI, 5, .inl To)), (a5, .inl (cZ, 5, .inl Li))] sz) := by
  refine Met.ofW (cc := cX0_draw) (maxL := 6) (ret := (some .boolean)) (by decide) rfl ?_
  intro p e s m args below meth c s₁ B hml hv
  obtain ⟨rfl, hsz, hP, hz, hD0⟩ := hv
  have hx := B.exec
  have hb := B.bytes
  have hr := B.returns
  have hts := atoms_spec (ws := (Cond.code yX0_draw cX0_draw 6 (some .boolean) :: hwG)) B.pre
  have htg := fun w h => hts w (List.mem_cons_of_mem _ h)
  have hown : s.vm.findClass RX0 = some m.cls := findClass_of_methodNamed B.named
  have hlocks := B.notSynchronized
  have hK := hz.1
  subst hsz
  have hD := hD0.self (sz := s.heap.size)
  generalize hAe : va_A [(k0, .inr (0, [.ref g, .int nmC])), (g, .inr (2, [.ref q0, .int (nI 5), .ref q1, .ref q2, .ref q3, .int fl])), (q0, .inl (cI, 6, .inl V)), (q1, .inl (cI, 5 + 1, .inl EN)), (q2, .inl (cZ, 5 + 1, .inl LG)), (q3, .inl (cI, 5 + 1, .inl BI)), (h, .inr (1, [.ref a1, .ref a2, .ref a3, .ref a4, .ref a5, .int (nI n), .int nm])), (a1, .inl (cI, 6, .inl S)), (a2, .inl (cI, 6, .inl O)), (a3, .inl (cI, 5, .inl Fr)), (a4, .inl (cI, 5, .inl To)), (a5, .inl (cZ, 5, .inl Li))] s.heap.size = A at hD ⊢
  have hA : ∀ q : Nat, s.heap.size ≤ q → A q := fun q h => by rw [← hAe]; exact Or.inr h
  have hS : va_S A s.heap s.heap [] := va_S.rf
  have hl := lv_entry ([.ref k0, .ref h]) (n := 6) (Nat.le_of_ble_eq_true rfl)
  rw [lg_entry_eq]
  generalize (lg_sl ([.ref k0, .ref h]) ++ List.replicate (6 - (lg_sl ([.ref k0, .ref h])).length) Slot.unset).toArray = ls at hl ⊢
  replace hl : lv_has ls 6 [(0, .ref k0), (1, .ref h)] := hl
  replace hP : va_P D vwCl [(k0, .inr (0, [.ref g, .int nmC])), (g, .inr (2, [.ref q0, .int (nI 5), .ref q1, .ref q2, .ref q3, .int fl])), (q0, .inl (cI, 6, .inl V)), (q1, .inl (cI, 5 + 1, .inl EN)), (q2, .inl (cZ, 5 + 1, .inl LG)), (q3, .inl (cI, 5 + 1, .inl BI)), (h, .inr (1, [.ref a1, .ref a2, .ref a3, .ref a4, .ref a5, .int (nI n), .int nm])), (a1, .inl (cI, 6, .inl S)), (a2, .inl (cI, 6, .inl O)), (a3, .inl (cI, 5, .inl Fr)), (a4, .inl (cI, 5, .inl To)), (a5, .inl (cZ, 5, .inl Li))] s.heap := hP
  refine lv_aload_n hx hb dX0_draw_0 rfl (lv_at hl 1 rfl) ?_
  refine lv_aload_n hx hb dX0_draw_1 rfl (lv_at hl 0 rfl) ?_
  refine va_get (D := D) (ci := 0) (v := .ref g) (C := RX0) (T := TX0) (N := 2) hx hb htg hi_X0 hown hK hP 0 rfl rfl 0 (by decide) (htg _ hm_104) (fun _ h9 => h9) rfl dX0_draw_2 ?_
  refine va_getN (D := D) (ci := 2) (v := .ref q0) (C := RX2) (T := TX2) (N := 6) hx hb htg hi_X2 hown hK hP 1 rfl rfl 0 (by decide) (hz_useF hz hn_74) (fun _ h9 => h9) rfl dX0_draw_5 ?_
  refine hw_csi (va_runV (C := RX1) (b := h) (As := [.ref q0]) (rest := []) ⟨hx, hb, hml, hown, htg⟩ (k_X1_pairsFit l D cI cZ cJ v V q0 sm ot n fr to li S O Fr To Li nm h a1 a2 a3 a4 a5 hV (fun t ht => by have := hv5 t ht; omega) hC) (cwV 1 htg (hg_V hm_146 hm_147 hm_148 hm_2 hm_149) rfl rfl rfl (by decide +kernel) ⟨Nat.le_of_ble_eq_true rfl, Nat.le_of_ble_eq_true rfl⟩) ⟨hp_R_blind, va_recv (q := (RX1, TX1, 7)) (q0 := 6) (ci := 1) hK hP rfl rfl, hp_R_pre (hP.sub (ws' := [(h, .inr (1, [.ref a1, .ref a2, .ref a3, .ref a4, .ref a5, .int (nI n), .int nm])), (a1, .inl (cI, 6, .inl S)), (a2, .inl (cI, 6, .inl O)), (q0, .inl (cI, 6, .inl V))]) [6, 7, 8, 2] rfl) hz⟩ rfl rfl hl.1 rfl (lv_room (Nat.le_of_ble_eq_true rfl)) dX0_draw_8 ⟨Nat.zero_le _, Nat.zero_le _⟩) (fun r hq => ?_)
  rcases hq with ⟨rfl, hq⟩ | ⟨rfl, hq⟩
  · refine lv_if_ne hx hb dX0_draw_11 rfl (fun hc => ?_) (fun hc => absurd hc (by decide))
    refine lv_aload_n hx hb dX0_draw_16 rfl (lv_at hl 0 rfl) ?_
    refine va_get (D := D) (ci := 0) (v := .ref g) (C := RX0) (T := TX0) (N := 2) hx hb htg hi_X0 hown hK hP 0 rfl rfl 0 (by decide) (htg _ hm_104) (fun _ h9 => h9) rfl dX0_draw_17 ?_
    refine hv_callv (w1 := fun u => [(g, .inr (2, [.ref q0, .int (nI 5), .ref q1, .ref q2, .ref q3, .int (nI 0)])), (q1, .inl (cI, 5 + 1, .inl u))]) (va_runV (C := RX2) (b := g) (As := []) (rest := []) ⟨hx, hb, hml, hown, htg⟩ (k_X2_removeAll l D cI cZ cJ _ 5 EN fl g q0 q1 q2 q3 (by decide)) (cwV 0 htg (hg_V hm_153 hm_154 hm_155 hm_3 hm_156) rfl rfl rfl (by decide +kernel) ⟨Nat.le_of_ble_eq_true rfl, Nat.le_of_ble_eq_true rfl⟩) ⟨hp_M_blind, va_recv (q := (RX2, TX2, 6)) (q0 := 1) (ci := 2) hK hP rfl rfl, hp_M_pre (hP.sub (ws' := [(g, .inr (2, [.ref q0, .int (nI 5), .ref q1, .ref q2, .ref q3, .int fl])), (q1, .inl (cI, 5 + 1, .inl EN))]) [1, 3] rfl) (hD.sub (ws' := [(g, .inr (2, [.ref q0, .int (nI 5), .ref q1, .ref q2, .ref q3, .int fl])), (q1, .inl (cI, 5 + 1, .inl EN))]) [1, 3] (by decide) rfl) hz⟩ rfl rfl hl.1 rfl (lv_room (Nat.le_of_ble_eq_true rfl)) dX0_draw_20 ⟨Nat.zero_le _, Nat.zero_le _⟩) hP hD hS hA [1, 3] rfl (fun _ => rfl) (fun E1 H locs hE1 hP hD hS => ?_)
    replace hP : va_P D vwCl [(k0, .inr (0, [.ref g, .int nmC])), (g, .inr (2, [.ref q0, .int (nI 5), .ref q1, .ref q2, .ref q3, .int (nI 0)])), (q0, .inl (cI, 6, .inl V)), (q1, .inl (cI, 5 + 1, .inl E1)), (q2, .inl (cZ, 5 + 1, .inl LG)), (q3, .inl (cI, 5 + 1, .inl BI)), (h, .inr (1, [.ref a1, .ref a2, .ref a3, .ref a4, .ref a5, .int (nI n), .int nm])), (a1, .inl (cI, 6, .inl S)), (a2, .inl (cI, 6, .inl O)), (a3, .inl (cI, 5, .inl Fr)), (a4, .inl (cI, 5, .inl To)), (a5, .inl (cZ, 5, .inl Li))] H := hP
    replace hD : va_D A [(k0, .inr (0, [.ref g, .int nmC])), (g, .inr (2, [.ref q0, .int (nI 5), .ref q1, .ref q2, .ref q3, .int (nI 0)])), (q0, .inl (cI, 6, .inl V)), (q1, .inl (cI, 5 + 1, .inl E1)), (q2, .inl (cZ, 5 + 1, .inl LG)), (q3, .inl (cI, 5 + 1, .inl BI)), (h, .inr (1, [.ref a1, .ref a2, .ref a3, .ref a4, .ref a5, .int (nI n), .int nm])), (a1, .inl (cI, 6, .inl S)), (a2, .inl (cI, 6, .inl O)), (a3, .inl (cI, 5, .inl Fr)), (a4, .inl (cI, 5, .inl To)), (a5, .inl (cZ, 5, .inl Li))] := hD
    refine lv_iconst (v := nI 0) hx hb dX0_draw_23 (by decide) ?_
    refine lv_istore_n hx hb dX0_draw_24 rfl hl (by decide) rfl (fun ls hl => ?_)
    replace hl : lv_has ls 6 [(2, .int (nI 0)), (0, .ref k0), (1, .ref h)] := hl
    have hn5 := hC.1
    obtain ⟨p9, e_p9⟩ : ∃ z : Nat, z = 0 := ⟨_, rfl⟩
    obtain ⟨E2, e_E2⟩ : ∃ z : Nat → Int32, z = E1 := ⟨_, rfl⟩
    obtain ⟨L2, e_L2⟩ : ∃ z : Nat → Int32, z = LG := ⟨_, rfl⟩
    obtain ⟨B2, e_B2⟩ : ∃ z : Nat → Int32, z = BI := ⟨_, rfl⟩
    obtain ⟨f2, e_f2⟩ : ∃ z : Int32, z = nI 0 := ⟨_, rfl⟩
    obtain ⟨nx, e_nx⟩ : ∃ z : Nat → Option Nat, z = (fun _ => none) := ⟨_, rfl⟩
    obtain ⟨lg, e_lg⟩ : ∃ z : Nat → Bool, z = (fun _ => false) := ⟨_, rfl⟩
    obtain ⟨bi, e_bi⟩ : ∃ z : Nat → Nat, z = (fun _ => 0) := ⟨_, rfl⟩
    replace hl : lv_has ls 6 [(2, .int (nI p9)), (0, .ref k0), (1, .ref h)] := by subst e_p9 e_E2 e_L2 e_B2 e_f2 e_nx e_lg e_bi; exact hl
    replace hP : va_P D vwCl [(k0, .inr (0, [.ref g, .int nmC])), (g, .inr (2, [.ref q0, .int (nI 5), .ref q1, .ref q2, .ref q3, .int f2])), (q0, .inl (cI, 6, .inl V)), (q1, .inl (cI, 5 + 1, .inl E2)), (q2, .inl (cZ, 5 + 1, .inl L2)), (q3, .inl (cI, 5 + 1, .inl B2)), (h, .inr (1, [.ref a1, .ref a2, .ref a3, .ref a4, .ref a5, .int (nI n), .int nm])), (a1, .inl (cI, 6, .inl S)), (a2, .inl (cI, 6, .inl O)), (a3, .inl (cI, 5, .inl Fr)), (a4, .inl (cI, 5, .inl To)), (a5, .inl (cZ, 5, .inl Li))] H := by subst e_p9 e_E2 e_L2 e_B2 e_f2 e_nx e_lg e_bi; exact hP
    replace hD : va_D A [(k0, .inr (0, [.ref g, .int nmC])), (g, .inr (2, [.ref q0, .int (nI 5), .ref q1, .ref q2, .ref q3, .int f2])), (q0, .inl (cI, 6, .inl V)), (q1, .inl (cI, 5 + 1, .inl E2)), (q2, .inl (cZ, 5 + 1, .inl L2)), (q3, .inl (cI, 5 + 1, .inl B2)), (h, .inr (1, [.ref a1, .ref a2, .ref a3, .ref a4, .ref a5, .int (nI n), .int nm])), (a1, .inl (cI, 6, .inl S)), (a2, .inl (cI, 6, .inl O)), (a3, .inl (cI, 5, .inl Fr)), (a4, .inl (cI, 5, .inl To)), (a5, .inl (cZ, 5, .inl Li))] := by subst e_p9 e_E2 e_L2 e_B2 e_f2 e_nx e_lg e_bi; exact hD
    have hd : hd_I (fun p => v (fr p)) (fun p => v (to p)) li p9 E2 L2 B2 f2 nx lg bi := by subst e_p9 e_E2 e_L2 e_B2 e_f2 e_nx e_lg e_bi; exact hd_0 hE1
    have hp9 : p9 ≤ n := by subst e_p9 e_E2 e_L2 e_B2 e_f2 e_nx e_lg e_bi; exact Nat.zero_le _
    clear e_p9 e_E2 e_L2 e_B2 e_f2 e_nx e_lg e_bi
    obtain ⟨k, hk⟩ : ∃ k : Nat, k = n - p9 := ⟨_, rfl⟩
    induction k generalizing p9 E2 L2 B2 f2 nx lg bi ls H locs  with
    | zero =>
      refine lv_iload_n hx hb dX0_draw_25 rfl (lv_at hl 0 rfl) ?_
      refine lv_aload_n hx hb dX0_draw_26 rfl (lv_at hl 2 rfl) ?_
      refine va_getN (D := D) (ci := 1) (v := .int (nI n)) (C := RX1) (T := TX1) (N := 7) hx hb htg hi_X1 hown hK hP 6 rfl rfl 5 (by decide) (hz_useF hz hn_43) (fun _ h9 => h9) rfl dX0_draw_27 ?_
      refine hw_icmp_ge hx hb (by omega) (by omega) dX0_draw_30 rfl (fun hc => ?_) (fun hc => absurd hc (by omega))
      refine lv_iconst (v := nI 1) hx hb dX0_draw_133 (by decide) ?_
      rw [show p9 = n by omega] at hd
      exact W.zret (v := nI 1) hx hb hr (by decide +kernel) (fun t9 ht9 hW9 => ⟨⟨_, (E2, L2, B2, f2), rfl, ⟨Or.inl ⟨rfl, hq, hd.1⟩, fun _ => ⟨nx, lg, bi, hd⟩⟩, by show va_P D vwCl [(k0, .inr (0, [.ref g, .int nmC])), (g, .inr (2, [.ref q0, .int (nI 5), .ref q1, .ref q2, .ref q3, .int f2])), (q0, .inl (cI, 6, .inl V)), (q1, .inl (cI, 5 + 1, .inl E2)), (q2, .inl (cZ, 5 + 1, .inl L2)), (q3, .inl (cI, 5 + 1, .inl B2)), (h, .inr (1, [.ref a1, .ref a2, .ref a3, .ref a4, .ref a5, .int (nI n), .int nm])), (a1, .inl (cI, 6, .inl S)), (a2, .inl (cI, 6, .inl O)), (a3, .inl (cI, 5, .inl Fr)), (a4, .inl (cI, 5, .inl To)), (a5, .inl (cZ, 5, .inl Li))] t9.heap; rw [ht9]; exact hP⟩, hS.F ht9⟩) hS.2.2 dX0_draw_134
    | succ k ih =>
      refine lv_iload_n hx hb dX0_draw_25 rfl (lv_at hl 0 rfl) ?_
      refine lv_aload_n hx hb dX0_draw_26 rfl (lv_at hl 2 rfl) ?_
      refine va_getN (D := D) (ci := 1) (v := .int (nI n)) (C := RX1) (T := TX1) (N := 7) hx hb htg hi_X1 hown hK hP 6 rfl rfl 5 (by decide) (hz_useF hz hn_43) (fun _ h9 => h9) rfl dX0_draw_27 ?_
      refine hw_icmp_ge hx hb (by omega) (by omega) dX0_draw_30 rfl (fun hc => absurd hc (by omega)) (fun hc => ?_)
      obtain ⟨f1, f3, f4, f5, f6⟩ := hC.2.2 p9 (by omega)
      have hs5 := hv5 _ f3
      have he5 := hv5 _ f5
      refine lv_aload_n hx hb dX0_draw_33 rfl (lv_at hl 1 rfl) ?_
      refine va_get (D := D) (ci := 0) (v := .ref g) (C := RX0) (T := TX0) (N := 2) hx hb htg hi_X0 hown hK hP 0 rfl rfl 0 (by decide) (htg _ hm_104) (fun _ h9 => h9) rfl dX0_draw_34 ?_
      refine va_getN (D := D) (ci := 2) (v := .ref q0) (C := RX2) (T := TX2) (N := 6) hx hb htg hi_X2 hown hK hP 1 rfl rfl 0 (by decide) (hz_useF hz hn_74) (fun _ h9 => h9) rfl dX0_draw_37 ?_
      refine lv_aload_n hx hb dX0_draw_40 rfl (lv_at hl 2 rfl) ?_
      refine va_getN (D := D) (ci := 1) (v := .ref a3) (C := RX1) (T := TX1) (N := 7) hx hb htg hi_X1 hown hK hP 6 rfl rfl 2 (by decide) (hz_useF hz hn_33) (fun _ h9 => h9) rfl dX0_draw_41 ?_
      refine lv_iload_n hx hb dX0_draw_44 rfl (lv_at hl 0 rfl) ?_
      refine hw_iald hx hb hK hP 9 0 rfl rfl (j := p9) (by omega) (by first | decide | omega) (v := nI (fr p9)) ((hC.2.2 p9 (by omega)).1) dX0_draw_45 ?_
      refine hw_iald hx hb hK hP 2 0 rfl rfl (j := (fr p9)) (by omega) (by first | decide | omega) (v := nI (v (fr p9))) (hV (fr p9) (by first | assumption | omega)) dX0_draw_46 ?_
      refine lv_istore_n hx hb dX0_draw_47 rfl hl (by decide) rfl (fun ls hl => ?_)
      replace hl : lv_has ls 6 [(3, .int (nI (v (fr p9)))), (2, .int (nI p9)), (0, .ref k0), (1, .ref h)] := hl
      refine lv_aload_n hx hb dX0_draw_48 rfl (lv_at hl 2 rfl) ?_
      refine va_get (D := D) (ci := 0) (v := .ref g) (C := RX0) (T := TX0) (N := 2) hx hb htg hi_X0 hown hK hP 0 rfl rfl 0 (by decide) (htg _ hm_104) (fun _ h9 => h9) rfl dX0_draw_49 ?_
      refine va_getN (D := D) (ci := 2) (v := .ref q0) (C := RX2) (T := TX2) (N := 6) hx hb htg hi_X2 hown hK hP 1 rfl rfl 0 (by decide) (hz_useF hz hn_74) (fun _ h9 => h9) rfl dX0_draw_52 ?_
      refine lv_aload_n hx hb dX0_draw_55 rfl (lv_at hl 3 rfl) ?_
      refine va_getN (D := D) (ci := 1) (v := .ref a4) (C := RX1) (T := TX1) (N := 7) hx hb htg hi_X1 hown hK hP 6 rfl rfl 3 (by decide) (hz_useF hz hn_36) (fun _ h9 => h9) rfl dX0_draw_56 ?_
      refine lv_iload_n hx hb dX0_draw_59 rfl (lv_at hl 1 rfl) ?_
      refine hw_iald hx hb hK hP 10 0 rfl rfl (j := p9) (by omega) (by first | decide | omega) (v := nI (to p9)) ((hC.2.2 p9 (by omega)).2.2.1) dX0_draw_60 ?_
      refine hw_iald hx hb hK hP 2 0 rfl rfl (j := (to p9)) (by omega) (by first | decide | omega) (v := nI (v (to p9))) (hV (to p9) (by first | assumption | omega)) dX0_draw_61 ?_
      refine lv_istore hx hb dX0_draw_62 hl (by decide) rfl (fun ls hl => ?_)
      replace hl : lv_has ls 6 [(4, .int (nI (v (to p9)))), (3, .int (nI (v (fr p9)))), (2, .int (nI p9)), (0, .ref k0), (1, .ref h)] := hl
      refine lv_aload_n hx hb dX0_draw_64 rfl (lv_at hl 4 rfl) ?_
      refine va_getN (D := D) (ci := 1) (v := .ref a5) (C := RX1) (T := TX1) (N := 7) hx hb htg hi_X1 hown hK hP 6 rfl rfl 4 (by decide) (hz_useF hz hn_39) (fun _ h9 => h9) rfl dX0_draw_65 ?_
      refine lv_iload_n hx hb dX0_draw_68 rfl (lv_at hl 2 rfl) ?_
      refine hw_zald hx hb hK hP 11 1 rfl rfl (j := p9) (by omega) (by first | decide | omega) (v := hc_b (li p9)) ((hC.2.2 p9 (by omega)).2.2.2.2) dX0_draw_69 ?_
      refine hw_ifeq_b hx hb dX0_draw_70 rfl (fun hli => ?_) (fun hli => ?_)
      · refine lv_iconst (v := nI 0) hx hb dX0_draw_83 (by decide) ?_
        refine lv_istore hx hb dX0_draw_84 hl (by decide) rfl (fun ls hl => ?_)
        replace hl : lv_has ls 6 [(5, .int (nI 0)), (4, .int (nI (v (to p9)))), (3, .int (nI (v (fr p9)))), (2, .int (nI p9)), (0, .ref k0), (1, .ref h)] := hl
        refine lv_iload hx hb dX0_draw_86 (lv_at hl 0 rfl) ?_
        refine lv_if_ne hx hb dX0_draw_88 rfl (fun hc => absurd rfl hc) (fun hc => ?_)
        have hN : hc_N (fun p => v (fr p)) (fun p => v (to p)) li p9 := fun q => by rw [hli] at q; cases q
        refine lv_iload_n hx hb dX0_draw_91 rfl (lv_at hl 2 rfl) ?_
        refine lv_if_eq hx hb dX0_draw_92 rfl (fun hs0 => ?_) (fun hs0 => ?_)
        · refine lv_iconst (v := nI 0) hx hb dX0_draw_106 (by decide) ?_
          have hs9 : v (fr p9) = 0 := by have := nI_eq (a := v (fr p9)) (b := 0) (by omega) (by omega); rw [nI_0] at this; exact this.mp hs0
          exact W.zret (v := nI 0) hx hb hr (by decide +kernel) (fun t9 ht9 hW9 => ⟨⟨_, (E2, L2, B2, f2), rfl, ⟨Or.inr ⟨rfl, fun h9 => hd_no0 (p := p9) (by omega) hN hs9 h9.2⟩, fun h9 => absurd h9 (by decide)⟩, by show va_P D vwCl [(k0, .inr (0, [.ref g, .int nmC])), (g, .inr (2, [.ref q0, .int (nI 5), .ref q1, .ref q2, .ref q3, .int f2])), (q0, .inl (cI, 6, .inl V)), (q1, .inl (cI, 5 + 1, .inl E2)), (q2, .inl (cZ, 5 + 1, .inl L2)), (q3, .inl (cI, 5 + 1, .inl B2)), (h, .inr (1, [.ref a1, .ref a2, .ref a3, .ref a4, .ref a5, .int (nI n), .int nm])), (a1, .inl (cI, 6, .inl S)), (a2, .inl (cI, 6, .inl O)), (a3, .inl (cI, 5, .inl Fr)), (a4, .inl (cI, 5, .inl To)), (a5, .inl (cZ, 5, .inl Li))] t9.heap; rw [ht9]; exact hP⟩, hS.F ht9⟩) hS.2.2 dX0_draw_107
        · have hs9 : v (fr p9) ≠ 0 := fun q => hs0 (by rw [q]; rfl)
          refine lv_aload_n hx hb dX0_draw_95 rfl (lv_at hl 4 rfl) ?_
          refine va_get (D := D) (ci := 0) (v := .ref g) (C := RX0) (T := TX0) (N := 2) hx hb htg hi_X0 hown hK hP 0 rfl rfl 0 (by decide) (htg _ hm_104) (fun _ h9 => h9) rfl dX0_draw_96 ?_
          refine lv_iload_n hx hb dX0_draw_99 rfl (lv_at hl 2 rfl) ?_
          refine hw_csi (va_runV (C := RX2) (b := g) (As := [.int (nI (v (fr p9)))]) (rest := []) ⟨hx, hb, hml, hown, htg⟩ (k_X2_hasCell l D cI cZ cJ (v (fr p9)) 5 E2 L2 B2 nx lg bi f2 g q0 q1 q2 q3 (by omega) (by decide) hd.2.1) (cwV 1 htg (hg_V hm_157 hm_158 hm_159 hm_3 hm_160) rfl rfl rfl (by decide +kernel) ⟨Nat.le_of_ble_eq_true rfl, Nat.le_of_ble_eq_true rfl⟩) ⟨hp_R_blind, va_recv (q := (RX2, TX2, 6)) (q0 := 1) (ci := 2) hK hP rfl rfl, hp_R_pre (hP.sub (ws' := [(g, .inr (2, [.ref q0, .int (nI 5), .ref q1, .ref q2, .ref q3, .int f2])), (q1, .inl (cI, 5 + 1, .inl E2))]) [1, 3] rfl) hz⟩ rfl rfl hl.1 rfl (lv_room (Nat.le_of_ble_eq_true rfl)) dX0_draw_100 ⟨Nat.zero_le _, Nat.zero_le _⟩) (fun r hq2 => ?_)
          rcases hq2 with ⟨rfl, hq2⟩ | ⟨rfl, hq2⟩
          · refine lv_if_eq hx hb dX0_draw_103 rfl (fun hc => absurd hc (by decide)) (fun hc => ?_)
            refine lv_iconst (v := nI 0) hx hb dX0_draw_106 (by decide) ?_
            exact W.zret (v := nI 0) hx hb hr (by decide +kernel) (fun t9 ht9 hW9 => ⟨⟨_, (E2, L2, B2, f2), rfl, ⟨Or.inr ⟨rfl, fun h9 => hd_no1 hd (by omega) hN hq2 h9.2⟩, fun h9 => absurd h9 (by decide)⟩, by show va_P D vwCl [(k0, .inr (0, [.ref g, .int nmC])), (g, .inr (2, [.ref q0, .int (nI 5), .ref q1, .ref q2, .ref q3, .int f2])), (q0, .inl (cI, 6, .inl V)), (q1, .inl (cI, 5 + 1, .inl E2)), (q2, .inl (cZ, 5 + 1, .inl L2)), (q3, .inl (cI, 5 + 1, .inl B2)), (h, .inr (1, [.ref a1, .ref a2, .ref a3, .ref a4, .ref a5, .int (nI n), .int nm])), (a1, .inl (cI, 6, .inl S)), (a2, .inl (cI, 6, .inl O)), (a3, .inl (cI, 5, .inl Fr)), (a4, .inl (cI, 5, .inl To)), (a5, .inl (cZ, 5, .inl Li))] t9.heap; rw [ht9]; exact hP⟩, hS.F ht9⟩) hS.2.2 dX0_draw_107
          · refine lv_if_eq hx hb dX0_draw_103 rfl (fun hc => ?_) (fun hc => absurd rfl hc)
            refine lv_aload_n hx hb dX0_draw_108 rfl (lv_at hl 4 rfl) ?_
            refine va_get (D := D) (ci := 0) (v := .ref g) (C := RX0) (T := TX0) (N := 2) hx hb htg hi_X0 hown hK hP 0 rfl rfl 0 (by decide) (htg _ hm_104) (fun _ h9 => h9) rfl dX0_draw_109 ?_
            refine lv_iload_n hx hb dX0_draw_112 rfl (lv_at hl 2 rfl) ?_
            refine lv_iload hx hb dX0_draw_113 (lv_at hl 1 rfl) ?_
            refine lv_aload_n hx hb dX0_draw_115 rfl (lv_at hl 5 rfl) ?_
            refine va_getN (D := D) (ci := 1) (v := .ref a5) (C := RX1) (T := TX1) (N := 7) hx hb htg hi_X1 hown hK hP 6 rfl rfl 4 (by decide) (hz_useF hz hn_39) (fun _ h9 => h9) rfl dX0_draw_116 ?_
            refine lv_iload_n hx hb dX0_draw_119 rfl (lv_at hl 3 rfl) ?_
            refine hw_zald hx hb hK hP 11 1 rfl rfl (j := p9) (by omega) (by first | decide | omega) (v := hc_b (li p9)) ((hC.2.2 p9 (by omega)).2.2.2.2) dX0_draw_120 ?_
            refine lv_iconst (v := nI 1) hx hb dX0_draw_121 (by decide) ?_
            refine lv_iload_n hx hb dX0_draw_122 rfl (lv_at hl 3 rfl) ?_
            refine lv_ishl hx hb dX0_draw_123 ?_
            refine hv_callv (w1 := fun u : (Nat → Int32) × (Nat → Int32) × (Nat → Int32) × Int32 => [(g, .inr (2, [.ref q0, .int (nI 5), .ref q1, .ref q2, .ref q3, .int u.2.2.2])), (q1, .inl (cI, 5 + 1, .inl u.1)), (q2, .inl (cZ, 5 + 1, .inl u.2.1)), (q3, .inl (cI, 5 + 1, .inl u.2.2.1))]) (va_runV (C := RX2) (b := g) (As := [.int (nI (v (fr p9))), .int (nI (v (to p9))), .int (hc_b (li p9)), .int ((nI 1) <<< ((nI p9) &&& 31))]) (rest := []) ⟨hx, hb, hml, hown, htg⟩ (k_X2_setStretch l D cI cZ cJ _ (v (fr p9)) (nI (v (to p9))) (nI 1 <<< (nI p9 &&& 31)) (li p9) 5 E2 L2 B2 f2 g q0 q1 q2 q3 (by decide) (by omega)) (cwV 4 htg (hg_V hm_161 hm_162 hm_163 hm_3 hm_164) rfl rfl rfl (by decide +kernel) ⟨Nat.le_of_ble_eq_true rfl, Nat.le_of_ble_eq_true rfl⟩) ⟨hp_M_blind, va_recv (q := (RX2, TX2, 6)) (q0 := 1) (ci := 2) hK hP rfl rfl, hp_M_pre (hP.sub (ws' := [(g, .inr (2, [.ref q0, .int (nI 5), .ref q1, .ref q2, .ref q3, .int f2])), (q1, .inl (cI, 5 + 1, .inl E2)), (q2, .inl (cZ, 5 + 1, .inl L2)), (q3, .inl (cI, 5 + 1, .inl B2))]) [1, 3, 4, 5] rfl) (hD.sub (ws' := [(g, .inr (2, [.ref q0, .int (nI 5), .ref q1, .ref q2, .ref q3, .int f2])), (q1, .inl (cI, 5 + 1, .inl E2)), (q2, .inl (cZ, 5 + 1, .inl L2)), (q3, .inl (cI, 5 + 1, .inl B2))]) [1, 3, 4, 5] (by decide) rfl) hz⟩ rfl rfl hl.1 rfl (lv_room (Nat.le_of_ble_eq_true rfl)) dX0_draw_124 ⟨Nat.zero_le _, Nat.zero_le _⟩) hP hD hS hA [1, 3, 4, 5] rfl (fun _ => rfl) (fun u H locs hu hP hD hS => ?_)
            replace hP : va_P D vwCl [(k0, .inr (0, [.ref g, .int nmC])), (g, .inr (2, [.ref q0, .int (nI 5), .ref q1, .ref q2, .ref q3, .int u.2.2.2])), (q0, .inl (cI, 6, .inl V)), (q1, .inl (cI, 5 + 1, .inl u.1)), (q2, .inl (cZ, 5 + 1, .inl u.2.1)), (q3, .inl (cI, 5 + 1, .inl u.2.2.1)), (h, .inr (1, [.ref a1, .ref a2, .ref a3, .ref a4, .ref a5, .int (nI n), .int nm])), (a1, .inl (cI, 6, .inl S)), (a2, .inl (cI, 6, .inl O)), (a3, .inl (cI, 5, .inl Fr)), (a4, .inl (cI, 5, .inl To)), (a5, .inl (cZ, 5, .inl Li))] H := hP
            replace hD : va_D A [(k0, .inr (0, [.ref g, .int nmC])), (g, .inr (2, [.ref q0, .int (nI 5), .ref q1, .ref q2, .ref q3, .int u.2.2.2])), (q0, .inl (cI, 6, .inl V)), (q1, .inl (cI, 5 + 1, .inl u.1)), (q2, .inl (cZ, 5 + 1, .inl u.2.1)), (q3, .inl (cI, 5 + 1, .inl u.2.2.1)), (h, .inr (1, [.ref a1, .ref a2, .ref a3, .ref a4, .ref a5, .int (nI n), .int nm])), (a1, .inl (cI, 6, .inl S)), (a2, .inl (cI, 6, .inl O)), (a3, .inl (cI, 5, .inl Fr)), (a4, .inl (cI, 5, .inl To)), (a5, .inl (cZ, 5, .inl Li))] := hD
            obtain ⟨u1, u2, u3, u4⟩ := u
            obtain ⟨hu1, hu2, hu3, hu4⟩ := hu
            dsimp only at hu1 hu2 hu3 hu4
            subst hu1 hu2 hu3 hu4
            replace hP : va_P D vwCl [(k0, .inr (0, [.ref g, .int nmC])), (g, .inr (2, [.ref q0, .int (nI 5), .ref q1, .ref q2, .ref q3, .int (f2 ||| nI 1 <<< (nI p9 &&& 31))])), (q0, .inl (cI, 6, .inl V)), (q1, .inl (cI, 5 + 1, .inl (upd E2 (v (fr p9)) (nI (v (to p9)))))), (q2, .inl (cZ, 5 + 1, .inl (upd L2 (v (fr p9)) (hc_b (li p9))))), (q3, .inl (cI, 5 + 1, .inl (upd B2 (v (fr p9)) (nI 1 <<< (nI p9 &&& 31))))), (h, .inr (1, [.ref a1, .ref a2, .ref a3, .ref a4, .ref a5, .int (nI n), .int nm])), (a1, .inl (cI, 6, .inl S)), (a2, .inl (cI, 6, .inl O)), (a3, .inl (cI, 5, .inl Fr)), (a4, .inl (cI, 5, .inl To)), (a5, .inl (cZ, 5, .inl Li))] H := hP
            replace hD : va_D A [(k0, .inr (0, [.ref g, .int nmC])), (g, .inr (2, [.ref q0, .int (nI 5), .ref q1, .ref q2, .ref q3, .int (f2 ||| nI 1 <<< (nI p9 &&& 31))])), (q0, .inl (cI, 6, .inl V)), (q1, .inl (cI, 5 + 1, .inl (upd E2 (v (fr p9)) (nI (v (to p9)))))), (q2, .inl (cZ, 5 + 1, .inl (upd L2 (v (fr p9)) (hc_b (li p9))))), (q3, .inl (cI, 5 + 1, .inl (upd B2 (v (fr p9)) (nI 1 <<< (nI p9 &&& 31))))), (h, .inr (1, [.ref a1, .ref a2, .ref a3, .ref a4, .ref a5, .int (nI n), .int nm])), (a1, .inl (cI, 6, .inl S)), (a2, .inl (cI, 6, .inl O)), (a3, .inl (cI, 5, .inl Fr)), (a4, .inl (cI, 5, .inl To)), (a5, .inl (cZ, 5, .inl Li))] := hD
            refine lv_iinc (v := nI (p9 + 1)) (k := 3) hx hb dX0_draw_127 hl rfl (hw_inc _) (by decide) rfl (fun ls hl => ?_)
            replace hl : lv_has ls 6 [(2, .int (nI (p9 + 1))), (5, .int (nI 0)), (4, .int (nI (v (to p9)))), (3, .int (nI (v (fr p9)))), (0, .ref k0), (1, .ref h)] := hl
            refine lv_goto hx hb dX0_draw_130 rfl ?_
            replace hl : lv_has ls 6 [(2, .int (nI (p9 + 1))), (0, .ref k0), (1, .ref h)] := lv_sub hl [0, 4, 5] rfl
            refine ih (hS := hS) (hl := hl) (hP := hP) (hD := hD) (hd := (hd_set hd (by omega) hN hs9 (by show v (fr p9) ≤ 5; omega) (by show v (to p9) ≤ 5; omega) (Classical.not_not.mp hq2))) (hp9 := (by omega)) (hk := (by omega))
      · refine lv_iload_n hx hb dX0_draw_73 rfl (lv_at hl 1 rfl) ?_
        refine lv_iload hx hb dX0_draw_74 (lv_at hl 0 rfl) ?_
        refine hw_icmp_ne hx hb (by omega) (by omega) dX0_draw_76 rfl (fun hse => ?_) (fun hse => ?_)
        · refine lv_iconst (v := nI 0) hx hb dX0_draw_83 (by decide) ?_
          refine lv_istore hx hb dX0_draw_84 hl (by decide) rfl (fun ls hl => ?_)
          replace hl : lv_has ls 6 [(5, .int (nI 0)), (4, .int (nI (v (to p9)))), (3, .int (nI (v (fr p9)))), (2, .int (nI p9)), (0, .ref k0), (1, .ref h)] := hl
          refine lv_iload hx hb dX0_draw_86 (lv_at hl 0 rfl) ?_
          refine lv_if_ne hx hb dX0_draw_88 rfl (fun hc => absurd rfl hc) (fun hc => ?_)
          have hN : hc_N (fun p => v (fr p)) (fun p => v (to p)) li p9 := fun _ => hse
          refine lv_iload_n hx hb dX0_draw_91 rfl (lv_at hl 2 rfl) ?_
          refine lv_if_eq hx hb dX0_draw_92 rfl (fun hs0 => ?_) (fun hs0 => ?_)
          · refine lv_iconst (v := nI 0) hx hb dX0_draw_106 (by decide) ?_
            have hs9 : v (fr p9) = 0 := by have := nI_eq (a := v (fr p9)) (b := 0) (by omega) (by omega); rw [nI_0] at this; exact this.mp hs0
            exact W.zret (v := nI 0) hx hb hr (by decide +kernel) (fun t9 ht9 hW9 => ⟨⟨_, (E2, L2, B2, f2), rfl, ⟨Or.inr ⟨rfl, fun h9 => hd_no0 (p := p9) (by omega) hN hs9 h9.2⟩, fun h9 => absurd h9 (by decide)⟩, by show va_P D vwCl [(k0, .inr (0, [.ref g, .int nmC])), (g, .inr (2, [.ref q0, .int (nI 5), .ref q1, .ref q2, .ref q3, .int f2])), (q0, .inl (cI, 6, .inl V)), (q1, .inl (cI, 5 + 1, .inl E2)), (q2, .inl (cZ, 5 + 1, .inl L2)), (q3, .inl (cI, 5 + 1, .inl B2)), (h, .inr (1, [.ref a1, .ref a2, .ref a3, .ref a4, .ref a5, .int (nI n), .int nm])), (a1, .inl (cI, 6, .inl S)), (a2, .inl (cI, 6, .inl O)), (a3, .inl (cI, 5, .inl Fr)), (a4, .inl (cI, 5, .inl To)), (a5, .inl (cZ, 5, .inl Li))] t9.heap; rw [ht9]; exact hP⟩, hS.F ht9⟩) hS.2.2 dX0_draw_107
          · have hs9 : v (fr p9) ≠ 0 := fun q => hs0 (by rw [q]; rfl)
            refine lv_aload_n hx hb dX0_draw_95 rfl (lv_at hl 4 rfl) ?_
            refine va_get (D := D) (ci := 0) (v := .ref g) (C := RX0) (T := TX0) (N := 2) hx hb htg hi_X0 hown hK hP 0 rfl rfl 0 (by decide) (htg _ hm_104) (fun _ h9 => h9) rfl dX0_draw_96 ?_
            refine lv_iload_n hx hb dX0_draw_99 rfl (lv_at hl 2 rfl) ?_
            refine hw_csi (va_runV (C := RX2) (b := g) (As := [.int (nI (v (fr p9)))]) (rest := []) ⟨hx, hb, hml, hown, htg⟩ (k_X2_hasCell l D cI cZ cJ (v (fr p9)) 5 E2 L2 B2 nx lg bi f2 g q0 q1 q2 q3 (by omega) (by decide) hd.2.1) (cwV 1 htg (hg_V hm_157 hm_158 hm_159 hm_3 hm_160) rfl rfl rfl (by decide +kernel) ⟨Nat.le_of_ble_eq_true rfl, Nat.le_of_ble_eq_true rfl⟩) ⟨hp_R_blind, va_recv (q := (RX2, TX2, 6)) (q0 := 1) (ci := 2) hK hP rfl rfl, hp_R_pre (hP.sub (ws' := [(g, .inr (2, [.ref q0, .int (nI 5), .ref q1, .ref q2, .ref q3, .int f2])), (q1, .inl (cI, 5 + 1, .inl E2))]) [1, 3] rfl) hz⟩ rfl rfl hl.1 rfl (lv_room (Nat.le_of_ble_eq_true rfl)) dX0_draw_100 ⟨Nat.zero_le _, Nat.zero_le _⟩) (fun r hq2 => ?_)
            rcases hq2 with ⟨rfl, hq2⟩ | ⟨rfl, hq2⟩
            · refine lv_if_eq hx hb dX0_draw_103 rfl (fun hc => absurd hc (by decide)) (fun hc => ?_)
              refine lv_iconst (v := nI 0) hx hb dX0_draw_106 (by decide) ?_
              exact W.zret (v := nI 0) hx hb hr (by decide +kernel) (fun t9 ht9 hW9 => ⟨⟨_, (E2, L2, B2, f2), rfl, ⟨Or.inr ⟨rfl, fun h9 => hd_no1 hd (by omega) hN hq2 h9.2⟩, fun h9 => absurd h9 (by decide)⟩, by show va_P D vwCl [(k0, .inr (0, [.ref g, .int nmC])), (g, .inr (2, [.ref q0, .int (nI 5), .ref q1, .ref q2, .ref q3, .int f2])), (q0, .inl (cI, 6, .inl V)), (q1, .inl (cI, 5 + 1, .inl E2)), (q2, .inl (cZ, 5 + 1, .inl L2)), (q3, .inl (cI, 5 + 1, .inl B2)), (h, .inr (1, [.ref a1, .ref a2, .ref a3, .ref a4, .ref a5, .int (nI n), .int nm])), (a1, .inl (cI, 6, .inl S)), (a2, .inl (cI, 6, .inl O)), (a3, .inl (cI, 5, .inl Fr)), (a4, .inl (cI, 5, .inl To)), (a5, .inl (cZ, 5, .inl Li))] t9.heap; rw [ht9]; exact hP⟩, hS.F ht9⟩) hS.2.2 dX0_draw_107
            · refine lv_if_eq hx hb dX0_draw_103 rfl (fun hc => ?_) (fun hc => absurd rfl hc)
              refine lv_aload_n hx hb dX0_draw_108 rfl (lv_at hl 4 rfl) ?_
              refine va_get (D := D) (ci := 0) (v := .ref g) (C := RX0) (T := TX0) (N := 2) hx hb htg hi_X0 hown hK hP 0 rfl rfl 0 (by decide) (htg _ hm_104) (fun _ h9 => h9) rfl dX0_draw_109 ?_
              refine lv_iload_n hx hb dX0_draw_112 rfl (lv_at hl 2 rfl) ?_
              refine lv_iload hx hb dX0_draw_113 (lv_at hl 1 rfl) ?_
              refine lv_aload_n hx hb dX0_draw_115 rfl (lv_at hl 5 rfl) ?_
              refine va_getN (D := D) (ci := 1) (v := .ref a5) (C := RX1) (T := TX1) (N := 7) hx hb htg hi_X1 hown hK hP 6 rfl rfl 4 (by decide) (hz_useF hz hn_39) (fun _ h9 => h9) rfl dX0_draw_116 ?_
              refine lv_iload_n hx hb dX0_draw_119 rfl (lv_at hl 3 rfl) ?_
              refine hw_zald hx hb hK hP 11 1 rfl rfl (j := p9) (by omega) (by first | decide | omega) (v := hc_b (li p9)) ((hC.2.2 p9 (by omega)).2.2.2.2) dX0_draw_120 ?_
              refine lv_iconst (v := nI 1) hx hb dX0_draw_121 (by decide) ?_
              refine lv_iload_n hx hb dX0_draw_122 rfl (lv_at hl 3 rfl) ?_
              refine lv_ishl hx hb dX0_draw_123 ?_
              refine hv_callv (w1 := fun u : (Nat → Int32) × (Nat → Int32) × (Nat → Int32) × Int32 => [(g, .inr (2, [.ref q0, .int (nI 5), .ref q1, .ref q2, .ref q3, .int u.2.2.2])), (q1, .inl (cI, 5 + 1, .inl u.1)), (q2, .inl (cZ, 5 + 1, .inl u.2.1)), (q3, .inl (cI, 5 + 1, .inl u.2.2.1))]) (va_runV (C := RX2) (b := g) (As := [.int (nI (v (fr p9))), .int (nI (v (to p9))), .int (hc_b (li p9)), .int ((nI 1) <<< ((nI p9) &&& 31))]) (rest := []) ⟨hx, hb, hml, hown, htg⟩ (k_X2_setStretch l D cI cZ cJ _ (v (fr p9)) (nI (v (to p9))) (nI 1 <<< (nI p9 &&& 31)) (li p9) 5 E2 L2 B2 f2 g q0 q1 q2 q3 (by decide) (by omega)) (cwV 4 htg (hg_V hm_161 hm_162 hm_163 hm_3 hm_164) rfl rfl rfl (by decide +kernel) ⟨Nat.le_of_ble_eq_true rfl, Nat.le_of_ble_eq_true rfl⟩) ⟨hp_M_blind, va_recv (q := (RX2, TX2, 6)) (q0 := 1) (ci := 2) hK hP rfl rfl, hp_M_pre (hP.sub (ws' := [(g, .inr (2, [.ref q0, .int (nI 5), .ref q1, .ref q2, .ref q3, .int f2])), (q1, .inl (cI, 5 + 1, .inl E2)), (q2, .inl (cZ, 5 + 1, .inl L2)), (q3, .inl (cI, 5 + 1, .inl B2))]) [1, 3, 4, 5] rfl) (hD.sub (ws' := [(g, .inr (2, [.ref q0, .int (nI 5), .ref q1, .ref q2, .ref q3, .int f2])), (q1, .inl (cI, 5 + 1, .inl E2)), (q2, .inl (cZ, 5 + 1, .inl L2)), (q3, .inl (cI, 5 + 1, .inl B2))]) [1, 3, 4, 5] (by decide) rfl) hz⟩ rfl rfl hl.1 rfl (lv_room (Nat.le_of_ble_eq_true rfl)) dX0_draw_124 ⟨Nat.zero_le _, Nat.zero_le _⟩) hP hD hS hA [1, 3, 4, 5] rfl (fun _ => rfl) (fun u H locs hu hP hD hS => ?_)
              replace hP : va_P D vwCl [(k0, .inr (0, [.ref g, .int nmC])), (g, .inr (2, [.ref q0, .int (nI 5), .ref q1, .ref q2, .ref q3, .int u.2.2.2])), (q0, .inl (cI, 6, .inl V)), (q1, .inl (cI, 5 + 1, .inl u.1)), (q2, .inl (cZ, 5 + 1, .inl u.2.1)), (q3, .inl (cI, 5 + 1, .inl u.2.2.1)), (h, .inr (1, [.ref a1, .ref a2, .ref a3, .ref a4, .ref a5, .int (nI n), .int nm])), (a1, .inl (cI, 6, .inl S)), (a2, .inl (cI, 6, .inl O)), (a3, .inl (cI, 5, .inl Fr)), (a4, .inl (cI, 5, .inl To)), (a5, .inl (cZ, 5, .inl Li))] H := hP
              replace hD : va_D A [(k0, .inr (0, [.ref g, .int nmC])), (g, .inr (2, [.ref q0, .int (nI 5), .ref q1, .ref q2, .ref q3, .int u.2.2.2])), (q0, .inl (cI, 6, .inl V)), (q1, .inl (cI, 5 + 1, .inl u.1)), (q2, .inl (cZ, 5 + 1, .inl u.2.1)), (q3, .inl (cI, 5 + 1, .inl u.2.2.1)), (h, .inr (1, [.ref a1, .ref a2, .ref a3, .ref a4, .ref a5, .int (nI n), .int nm])), (a1, .inl (cI, 6, .inl S)), (a2, .inl (cI, 6, .inl O)), (a3, .inl (cI, 5, .inl Fr)), (a4, .inl (cI, 5, .inl To)), (a5, .inl (cZ, 5, .inl Li))] := hD
              obtain ⟨u1, u2, u3, u4⟩ := u
              obtain ⟨hu1, hu2, hu3, hu4⟩ := hu
              dsimp only at hu1 hu2 hu3 hu4
              subst hu1 hu2 hu3 hu4
              replace hP : va_P D vwCl [(k0, .inr (0, [.ref g, .int nmC])), (g, .inr (2, [.ref q0, .int (nI 5), .ref q1, .ref q2, .ref q3, .int (f2 ||| nI 1 <<< (nI p9 &&& 31))])), (q0, .inl (cI, 6, .inl V)), (q1, .inl (cI, 5 + 1, .inl (upd E2 (v (fr p9)) (nI (v (to p9)))))), (q2, .inl (cZ, 5 + 1, .inl (upd L2 (v (fr p9)) (hc_b (li p9))))), (q3, .inl (cI, 5 + 1, .inl (upd B2 (v (fr p9)) (nI 1 <<< (nI p9 &&& 31))))), (h, .inr (1, [.ref a1, .ref a2, .ref a3, .ref a4, .ref a5, .int (nI n), .int nm])), (a1, .inl (cI, 6, .inl S)), (a2, .inl (cI, 6, .inl O)), (a3, .inl (cI, 5, .inl Fr)), (a4, .inl (cI, 5, .inl To)), (a5, .inl (cZ, 5, .inl Li))] H := hP
              replace hD : va_D A [(k0, .inr (0, [.ref g, .int nmC])), (g, .inr (2, [.ref q0, .int (nI 5), .ref q1, .ref q2, .ref q3, .int (f2 ||| nI 1 <<< (nI p9 &&& 31))])), (q0, .inl (cI, 6, .inl V)), (q1, .inl (cI, 5 + 1, .inl (upd E2 (v (fr p9)) (nI (v (to p9)))))), (q2, .inl (cZ, 5 + 1, .inl (upd L2 (v (fr p9)) (hc_b (li p9))))), (q3, .inl (cI, 5 + 1, .inl (upd B2 (v (fr p9)) (nI 1 <<< (nI p9 &&& 31))))), (h, .inr (1, [.ref a1, .ref a2, .ref a3, .ref a4, .ref a5, .int (nI n), .int nm])), (a1, .inl (cI, 6, .inl S)), (a2, .inl (cI, 6, .inl O)), (a3, .inl (cI, 5, .inl Fr)), (a4, .inl (cI, 5, .inl To)), (a5, .inl (cZ, 5, .inl Li))] := hD
              refine lv_iinc (v := nI (p9 + 1)) (k := 3) hx hb dX0_draw_127 hl rfl (hw_inc _) (by decide) rfl (fun ls hl => ?_)
              replace hl : lv_has ls 6 [(2, .int (nI (p9 + 1))), (5, .int (nI 0)), (4, .int (nI (v (to p9)))), (3, .int (nI (v (fr p9)))), (0, .ref k0), (1, .ref h)] := hl
              refine lv_goto hx hb dX0_draw_130 rfl ?_
              replace hl : lv_has ls 6 [(2, .int (nI (p9 + 1))), (0, .ref k0), (1, .ref h)] := lv_sub hl [0, 4, 5] rfl
              refine ih (hS := hS) (hl := hl) (hP := hP) (hD := hD) (hd := (hd_set hd (by omega) hN hs9 (by show v (fr p9) ≤ 5; omega) (by show v (to p9) ≤ 5; omega) (Classical.not_not.mp hq2))) (hp9 := (by omega)) (hk := (by omega))
        · refine lv_iconst (v := nI 1) hx hb dX0_draw_79 (by decide) ?_
          refine lv_goto hx hb dX0_draw_80 rfl ?_
          refine lv_istore hx hb dX0_draw_84 hl (by decide) rfl (fun ls hl => ?_)
          replace hl : lv_has ls 6 [(5, .int (nI 1)), (4, .int (nI (v (to p9)))), (3, .int (nI (v (fr p9)))), (2, .int (nI p9)), (0, .ref k0), (1, .ref h)] := hl
          refine lv_iload hx hb dX0_draw_86 (lv_at hl 0 rfl) ?_
          refine lv_if_ne hx hb dX0_draw_88 rfl (fun hc => ?_) (fun hc => absurd hc (by decide))
          refine lv_iinc (v := nI (p9 + 1)) (k := 3) hx hb dX0_draw_127 hl rfl (hw_inc _) (by decide) rfl (fun ls hl => ?_)
          replace hl : lv_has ls 6 [(2, .int (nI (p9 + 1))), (5, .int (nI 1)), (4, .int (nI (v (to p9)))), (3, .int (nI (v (fr p9)))), (0, .ref k0), (1, .ref h)] := hl
          refine lv_goto hx hb dX0_draw_130 rfl ?_
          replace hl : lv_has ls 6 [(2, .int (nI (p9 + 1))), (0, .ref k0), (1, .ref h)] := lv_sub hl [0, 4, 5] rfl
          refine ih (hS := hS) (hl := hl) (hP := hP) (hD := hD) (hd := (hd_skip hd (fun h9 => h9 hli hse))) (hp9 := (by omega)) (hk := (by omega))
  · refine lv_if_ne hx hb dX0_draw_11 rfl (fun hc => absurd rfl hc) (fun hc => ?_)
    refine lv_iconst (v := nI 0) hx hb dX0_draw_14 (by decide) ?_
    exact W.zret (v := nI 0) hx hb hr (by decide +kernel) (fun t9 ht9 hW9 => ⟨⟨_, (EN, LG, BI, fl), rfl, ⟨Or.inr ⟨rfl, fun h9 => hq h9.1⟩, fun h9 => absurd h9 (by decide)⟩, by show va_P D vwCl [(k0, .inr (0, [.ref g, .int nmC])), (g, .inr (2, [.ref q0, .int (nI 5), .ref q1, .ref q2, .ref q3, .int fl])), (q0, .inl (cI, 6, .inl V)), (q1, .inl (cI, 5 + 1, .inl EN)), (q2, .inl (cZ, 5 + 1, .inl LG)), (q3, .inl (cI, 5 + 1, .inl BI)), (h, .inr (1, [.ref a1, .ref a2, .ref a3, .ref a4, .ref a5, .int (nI n), .int nm])), (a1, .inl (cI, 6, .inl S)), (a2, .inl (cI, 6, .inl O)), (a3, .inl (cI, 5, .inl Fr)), (a4, .inl (cI, 5, .inl To)), (a5, .inl (cZ, 5, .inl Li))] t9.heap; rw [ht9]; exact hP⟩, hS.F ht9⟩) hS.2.2 dX0_draw_15
end
section
set_option maxHeartbeats 4000000 in
set_option maxRecDepth 100000 in
/-- no such number -/
theorem k_X4_noClaim (l : Launch) (D : va_G) (cI cZ cJ : ClassId) (t : Nat) (ht : t < 2 ^ 32) : Met l yX4_noClaim (Cond.code yX4_noClaim cX4_noClaim 1 (some .boolean) :: hwG) { frames := 0, cells := 0, slots := 0, locals := 0 } (hp_R [.int (nI t)] D cI cZ cJ []) (vp_Si (fun r => hc_r r (¬ t < 2))) 0 0 (fun _ => False) := by
  refine Met.ofW (cc := cX4_noClaim) (maxL := 1) (ret := (some .boolean)) (by decide) rfl ?_
  intro p e s m args below meth c s₁ B hml hv
  obtain ⟨rfl, hP, hz⟩ := hv
  have hx := B.exec
  have hb := B.bytes
  have hr := B.returns
  have hts := atoms_spec (ws := (Cond.code yX4_noClaim cX4_noClaim 1 (some .boolean) :: hwG)) B.pre
  have htg := fun w h => hts w (List.mem_cons_of_mem _ h)
  have hown : s.vm.findClass RX4 = some m.cls := findClass_of_methodNamed B.named
  have hlocks := B.notSynchronized
  have hK := hz.1
  have hl := lv_entry ([.int (nI t)]) (n := 1) (Nat.le_of_ble_eq_true rfl)
  rw [lg_entry_eq]
  generalize (lg_sl ([.int (nI t)]) ++ List.replicate (1 - (lg_sl ([.int (nI t)])).length) Slot.unset).toArray = ls at hl ⊢
  replace hl : lv_has ls 1 [(0, .int (nI t))] := hl
  refine lv_iload_n hx hb dX4_noClaim_0 rfl (lv_at hl 0 rfl) ?_
  refine lv_if_lt hx hb dX4_noClaim_1 rfl (fun h1 => ?_) (fun h1 => ?_)
  · have h1 := (hm_neg ht).mp h1
    refine lv_iconst (v := nI 1) hx hb dX4_noClaim_9 (by decide) ?_
    refine lv_goto hx hb dX4_noClaim_10 rfl ?_
    exact W.zret (v := nI 1) hx hb hr (by decide +kernel) (fun t9 ht9 hW9 => ⟨_, rfl, Or.inl ⟨rfl, by omega⟩, ht9⟩) (fun _ h => nomatch h) dX4_noClaim_14
  · have h1 : t < 2 ^ 31 := Nat.lt_of_not_le (fun q => h1 ((hm_neg ht).mpr q))
    refine lv_iload_n hx hb dX4_noClaim_4 rfl (lv_at hl 0 rfl) ?_
    refine lv_iconst (v := nI 1) hx hb dX4_noClaim_5 (by decide) ?_
    refine hw_icmp_le hx hb (by omega) (by omega) dX4_noClaim_6 rfl (fun h2 => ?_) (fun h2 => ?_)
    · refine lv_iconst (v := nI 0) hx hb dX4_noClaim_13 (by decide) ?_
      exact W.zret (v := nI 0) hx hb hr (by decide +kernel) (fun t9 ht9 hW9 => ⟨_, rfl, Or.inr ⟨rfl, by omega⟩, ht9⟩) (fun _ h => nomatch h) dX4_noClaim_14
    · refine lv_iconst (v := nI 1) hx hb dX4_noClaim_9 (by decide) ?_
      refine lv_goto hx hb dX4_noClaim_10 rfl ?_
      exact W.zret (v := nI 1) hx hb hr (by decide +kernel) (fun t9 ht9 hW9 => ⟨_, rfl, Or.inl ⟨rfl, by omega⟩, ht9⟩) (fun _ h => nomatch h) dX4_noClaim_14

set_option maxHeartbeats 4000000 in
set_option maxRecDepth 100000 in
/-- no such number -/
theorem k_X4_noTerm (l : Launch) (D : va_G) (cI cZ cJ : ClassId) (t : Nat) (ht : t < 2 ^ 32) : Met l yX4_noTerm (Cond.code yX4_noTerm cX4_noTerm 1 (some .boolean) :: hwG) { frames := 0, cells := 0, slots := 0, locals := 0 } (hp_R [.int (nI t)] D cI cZ cJ []) (vp_Si (fun r => hc_r r (¬ t < 6))) 0 0 (fun _ => False) := by
  refine Met.ofW (cc := cX4_noTerm) (maxL := 1) (ret := (some .boolean)) (by decide) rfl ?_
  intro p e s m args below meth c s₁ B hml hv
  obtain ⟨rfl, hP, hz⟩ := hv
  have hx := B.exec
  have hb := B.bytes
  have hr := B.returns
  have hts := atoms_spec (ws := (Cond.code yX4_noTerm cX4_noTerm 1 (some .boolean) :: hwG)) B.pre
  have htg := fun w h => hts w (List.mem_cons_of_mem _ h)
  have hown : s.vm.findClass RX4 = some m.cls := findClass_of_methodNamed B.named
  have hlocks := B.notSynchronized
  have hK := hz.1
  have hl := lv_entry ([.int (nI t)]) (n := 1) (Nat.le_of_ble_eq_true rfl)
  rw [lg_entry_eq]
  generalize (lg_sl ([.int (nI t)]) ++ List.replicate (1 - (lg_sl ([.int (nI t)])).length) Slot.unset).toArray = ls at hl ⊢
  replace hl : lv_has ls 1 [(0, .int (nI t))] := hl
  refine lv_iload_n hx hb dX4_noTerm_0 rfl (lv_at hl 0 rfl) ?_
  refine lv_if_lt hx hb dX4_noTerm_1 rfl (fun h1 => ?_) (fun h1 => ?_)
  · have h1 := (hm_neg ht).mp h1
    refine lv_iconst (v := nI 1) hx hb dX4_noTerm_9 (by decide) ?_
    refine lv_goto hx hb dX4_noTerm_10 rfl ?_
    exact W.zret (v := nI 1) hx hb hr (by decide +kernel) (fun t9 ht9 hW9 => ⟨_, rfl, Or.inl ⟨rfl, by omega⟩, ht9⟩) (fun _ h => nomatch h) dX4_noTerm_14
  · have h1 : t < 2 ^ 31 := Nat.lt_of_not_le (fun q => h1 ((hm_neg ht).mpr q))
    refine lv_iload_n hx hb dX4_noTerm_4 rfl (lv_at hl 0 rfl) ?_
    refine lv_iconst (v := nI 5) hx hb dX4_noTerm_5 (by decide) ?_
    refine hw_icmp_le hx hb (by omega) (by omega) dX4_noTerm_6 rfl (fun h2 => ?_) (fun h2 => ?_)
    · refine lv_iconst (v := nI 0) hx hb dX4_noTerm_13 (by decide) ?_
      exact W.zret (v := nI 0) hx hb hr (by decide +kernel) (fun t9 ht9 hW9 => ⟨_, rfl, Or.inr ⟨rfl, by omega⟩, ht9⟩) (fun _ h => nomatch h) dX4_noTerm_14
    · refine lv_iconst (v := nI 1) hx hb dX4_noTerm_9 (by decide) ?_
      refine lv_goto hx hb dX4_noTerm_10 rfl ?_
      exact W.zret (v := nI 1) hx hb hr (by decide +kernel) (fun t9 ht9 hW9 => ⟨_, rfl, Or.inl ⟨rfl, by omega⟩, ht9⟩) (fun _ h => nomatch h) dX4_noTerm_14

set_option maxHeartbeats 4000000 in
set_option maxRecDepth 100000 in
/-- no such number -/
theorem k_X4_noVariable (l : Launch) (D : va_G) (cI cZ cJ : ClassId) (t : Nat) (ht : t < 2 ^ 32) : Met l yX4_noVariable (Cond.code yX4_noVariable cX4_noVariable 1 (some .boolean) :: hwG) { frames := 0, cells := 0, slots := 0, locals := 0 } (hp_R [.int (nI t)] D cI cZ cJ []) (vp_Si (fun r => hc_r r (¬ t < 5))) 0 0 (fun _ => False) := by
  refine Met.ofW (cc := cX4_noVariable) (maxL := 1) (ret := (some .boolean)) (by decide) rfl ?_
  intro p e s m args below meth c s₁ B hml hv
  obtain ⟨rfl, hP, hz⟩ := hv
  have hx := B.exec
  have hb := B.bytes
  have hr := B.returns
  have hts := atoms_spec (ws := (Cond.code yX4_noVariable cX4_noVariable 1 (some .boolean) :: hwG)) B.pre
  have htg := fun w h => hts w (List.mem_cons_of_mem _ h)
  have hown : s.vm.findClass RX4 = some m.cls := findClass_of_methodNamed B.named
  have hlocks := B.notSynchronized
  have hK := hz.1
  have hl := lv_entry ([.int (nI t)]) (n := 1) (Nat.le_of_ble_eq_true rfl)
  rw [lg_entry_eq]
  generalize (lg_sl ([.int (nI t)]) ++ List.replicate (1 - (lg_sl ([.int (nI t)])).length) Slot.unset).toArray = ls at hl ⊢
  replace hl : lv_has ls 1 [(0, .int (nI t))] := hl
  refine lv_iload_n hx hb dX4_noVariable_0 rfl (lv_at hl 0 rfl) ?_
  refine lv_if_lt hx hb dX4_noVariable_1 rfl (fun h1 => ?_) (fun h1 => ?_)
  · have h1 := (hm_neg ht).mp h1
    refine lv_iconst (v := nI 1) hx hb dX4_noVariable_9 (by decide) ?_
    refine lv_goto hx hb dX4_noVariable_10 rfl ?_
    exact W.zret (v := nI 1) hx hb hr (by decide +kernel) (fun t9 ht9 hW9 => ⟨_, rfl, Or.inl ⟨rfl, by omega⟩, ht9⟩) (fun _ h => nomatch h) dX4_noVariable_14
  · have h1 : t < 2 ^ 31 := Nat.lt_of_not_le (fun q => h1 ((hm_neg ht).mpr q))
    refine lv_iload_n hx hb dX4_noVariable_4 rfl (lv_at hl 0 rfl) ?_
    refine lv_iconst (v := nI 4) hx hb dX4_noVariable_5 (by decide) ?_
    refine hw_icmp_le hx hb (by omega) (by omega) dX4_noVariable_6 rfl (fun h2 => ?_) (fun h2 => ?_)
    · refine lv_iconst (v := nI 0) hx hb dX4_noVariable_13 (by decide) ?_
      exact W.zret (v := nI 0) hx hb hr (by decide +kernel) (fun t9 ht9 hW9 => ⟨_, rfl, Or.inr ⟨rfl, by omega⟩, ht9⟩) (fun _ h => nomatch h) dX4_noVariable_14
    · refine lv_iconst (v := nI 1) hx hb dX4_noVariable_9 (by decide) ?_
      refine lv_goto hx hb dX4_noVariable_10 rfl ?_
      exact W.zret (v := nI 1) hx hb hr (by decide +kernel) (fun t9 ht9 hW9 => ⟨_, rfl, Or.inl ⟨rfl, by omega⟩, ht9⟩) (fun _ h => nomatch h) dX4_noVariable_14

set_option maxHeartbeats 4000000 in
set_option maxRecDepth 100000 in
/-- what the last call threw -/
theorem k_X4_thrown (l : Launch) (D : va_G) (cI cZ cJ : ClassId) (cd md o1 o2 mo : Int32) (y0 y1 y2 y3 y4 y5 y6 y7 y8 y9 ya yb yc yd ye yf yg yh : Nat) : Met l yX4_thrown (Cond.code yX4_thrown cX4_thrown 1 (some .int) :: hwG) { frames := 0, cells := 0, slots := 0, locals := 0 } (hp_R [.ref y0] D cI cZ cJ [(y0, .inr (4, [.int cd, .ref y1, .ref y2, .ref y3, .ref y4, .ref y5, .ref y6, .ref y7, .ref y8, .ref y9, .ref ya, .ref yb, .ref yc, .ref yd, .ref ye, .int md, .int o1, .int o2, .int mo, .ref yf, .ref yg, .ref yh]))]) (vp_Si (fun r => r = cd)) 0 0 (fun _ => False) := by
  refine Met.ofW (cc := cX4_thrown) (maxL := 1) (ret := (some .int)) (by decide) rfl ?_
  intro p e s m args below meth c s₁ B hml hv
  obtain ⟨rfl, hP, hz⟩ := hv
  have hx := B.exec
  have hb := B.bytes
  have hr := B.returns
  have hts := atoms_spec (ws := (Cond.code yX4_thrown cX4_thrown 1 (some .int) :: hwG)) B.pre
  have htg := fun w h => hts w (List.mem_cons_of_mem _ h)
  have hown : s.vm.findClass RX4 = some m.cls := findClass_of_methodNamed B.named
  have hlocks := B.notSynchronized
  have hK := hz.1
  have hl := lv_entry ([.ref y0]) (n := 1) (Nat.le_of_ble_eq_true rfl)
  rw [lg_entry_eq]
  generalize (lg_sl ([.ref y0]) ++ List.replicate (1 - (lg_sl ([.ref y0])).length) Slot.unset).toArray = ls at hl ⊢
  replace hl : lv_has ls 1 [(0, .ref y0)] := hl
  refine lv_aload_n hx hb dX4_thrown_0 rfl (lv_at hl 0 rfl) ?_
  refine va_get (D := D) (ci := 4) (v := .int cd) (C := RX4) (T := TX4) (N := 22) hx hb htg hi_X4 hown hK hP 0 rfl rfl 0 (by decide) (htg _ hm_496) (fun _ h9 => h9) rfl dX4_thrown_1 ?_
  exact W.iret (v := cd) hx hb hr (fun t9 ht9 hW9 => ⟨_, rfl, rfl, ht9⟩) (fun _ h => nomatch h) dX4_thrown_4

set_option maxHeartbeats 4000000 in
set_option maxRecDepth 100000 in
/-- the pairs are true -/
theorem k_X4_pairsTrue (l : Launch) (D : va_G) (cI cZ cJ : ClassId) (Sa Oa My Fa Ta La : Nat → Int32) (SA OA : Nat → Bool) (MA FA TA : Nat → Nat) (LA : Nat → Bool) (v : Nat → Nat) (Ga : Nat → Int32) (cx : Nat) (cd md o1 o2 mo : Int32) (y0 y1 y2 y3 y4 y5 y6 y7 y8 y9 ya yb yc yd ye yf yg yh : Nat) (hM : hr_m Sa Oa My Fa Ta La SA OA MA FA TA LA) (hG : ∀ j, j < 6 → Ga j = nI (v j)) (hv : ∀ j, j < 6 → v j < 6) (hc0 : cx < 2) : Met l yX4_pairsTrue (Cond.code yX4_pairsTrue cX4_pairsTrue 5 (some .boolean) :: hwG) { frames := 0, cells := 0, slots := 0, locals := 0 } (hp_R [.ref y0, .int (nI cx)] D cI cZ cJ [(y0, .inr (4, [.int cd, .ref y1, .ref y2, .ref y3, .ref y4, .ref y5, .ref y6, .ref y7, .ref y8, .ref y9, .ref ya, .ref yb, .ref yc, .ref yd, .ref ye, .int md, .int o1, .int o2, .int mo, .ref yf, .ref yg, .ref yh])), (y1, .inl (cZ, 72, .inl Sa)), (y2, .inl (cZ, 72, .inl Oa)), (y7, .inl (cI, 6, .inl Ga))]) (vp_Si (fun r => hc_r r (hc_PO v (hr_s SA cx) (hr_s OA cx)))) 0 0 (fun _ => False) := by
  refine Met.ofW (cc := cX4_pairsTrue) (maxL := 5) (ret := (some .boolean)) (by decide) rfl ?_
  intro p e s m args below meth c s₁ B hml hv
  obtain ⟨rfl, hP, hz⟩ := hv
  have hx := B.exec
  have hb := B.bytes
  have hr := B.returns
  have hts := atoms_spec (ws := (Cond.code yX4_pairsTrue cX4_pairsTrue 5 (some .boolean) :: hwG)) B.pre
  have htg := fun w h => hts w (List.mem_cons_of_mem _ h)
  have hown : s.vm.findClass RX4 = some m.cls := findClass_of_methodNamed B.named
  have hlocks := B.notSynchronized
  have hK := hz.1
  have hl := lv_entry ([.ref y0, .int (nI cx)]) (n := 5) (Nat.le_of_ble_eq_true rfl)
  rw [lg_entry_eq]
  generalize (lg_sl ([.ref y0, .int (nI cx)]) ++ List.replicate (5 - (lg_sl ([.ref y0, .int (nI cx)])).length) Slot.unset).toArray = ls at hl ⊢
  replace hl : lv_has ls 5 [(0, .ref y0), (1, .int (nI cx))] := hl
  refine lv_iconst (v := nI 0) hx hb dX4_pairsTrue_0 (by decide) ?_
  refine lv_istore_n hx hb dX4_pairsTrue_1 rfl hl (by decide) rfl (fun ls hl => ?_)
  replace hl : lv_has ls 5 [(2, .int (nI 0)), (0, .ref y0), (1, .int (nI cx))] := hl
  obtain ⟨a, e_a⟩ : ∃ z : Nat, z = 0 := ⟨_, rfl⟩
  replace hl : lv_has ls 5 [(2, .int (nI a)), (0, .ref y0), (1, .int (nI cx))] := by subst e_a; exact hl
  have hI : ∀ x, x < a → ∀ y, y < 6 → (hr_s SA cx x y = true → v x = v y) ∧ (hr_s OA cx x y = true → v x ≠ v y) := by subst e_a; exact fun x hx => absurd hx (Nat.not_lt_zero _)
  have ha6 : a ≤ 6 := by subst e_a; omega
  clear e_a
  obtain ⟨k, hk⟩ : ∃ k : Nat, k = 6 - a := ⟨_, rfl⟩
  induction k generalizing a ls  with
  | zero =>
    refine lv_iload_n hx hb dX4_pairsTrue_2 rfl (lv_at hl 0 rfl) ?_
    refine lv_bipush (v := nI 6) hx hb dX4_pairsTrue_3 (by decide) ?_
    refine hw_icmp_ge hx hb (by omega) (by omega) dX4_pairsTrue_5 rfl (fun hc => ?_) (fun hc => absurd hc (by omega))
    refine lv_iconst (v := nI 1) hx hb dX4_pairsTrue_93 (by decide) ?_
    exact W.zret (v := nI 1) hx hb hr (by decide +kernel) (fun t9 ht9 hW9 => ⟨_, rfl, Or.inl ⟨rfl, fun x hx y hy => hI x (by omega) y hy⟩, ht9⟩) (fun _ h => nomatch h) dX4_pairsTrue_94
  | succ k ih =>
    refine lv_iload_n hx hb dX4_pairsTrue_2 rfl (lv_at hl 0 rfl) ?_
    refine lv_bipush (v := nI 6) hx hb dX4_pairsTrue_3 (by decide) ?_
    refine hw_icmp_ge hx hb (by omega) (by omega) dX4_pairsTrue_5 rfl (fun hc => absurd hc (by omega)) (fun hc => ?_)
    refine lv_iconst (v := nI 0) hx hb dX4_pairsTrue_8 (by decide) ?_
    refine lv_istore_n hx hb dX4_pairsTrue_9 rfl hl (by decide) rfl (fun ls hl => ?_)
    replace hl : lv_has ls 5 [(3, .int (nI 0)), (2, .int (nI a)), (0, .ref y0), (1, .int (nI cx))] := hl
    obtain ⟨b, e_b⟩ : ∃ z : Nat, z = 0 := ⟨_, rfl⟩
    replace hl : lv_has ls 5 [(3, .int (nI b)), (2, .int (nI a)), (0, .ref y0), (1, .int (nI cx))] := by subst e_b; exact hl
    have hJ : ∀ y, y < b → (hr_s SA cx a y = true → v a = v y) ∧ (hr_s OA cx a y = true → v a ≠ v y) := by subst e_b; exact fun x hx => absurd hx (Nat.not_lt_zero _)
    have hb6 : b ≤ 6 := by subst e_b; omega
    clear e_b
    obtain ⟨k2, hk2⟩ : ∃ k2 : Nat, k2 = 6 - b := ⟨_, rfl⟩
    induction k2 generalizing b ls  with
    | zero =>
      refine lv_iload_n hx hb dX4_pairsTrue_10 rfl (lv_at hl 0 rfl) ?_
      refine lv_bipush (v := nI 6) hx hb dX4_pairsTrue_11 (by decide) ?_
      refine hw_icmp_ge hx hb (by omega) (by omega) dX4_pairsTrue_13 rfl (fun hc2 => ?_) (fun hc2 => absurd hc2 (by omega))
      refine lv_iinc (v := nI (a + 1)) (k := 1) hx hb dX4_pairsTrue_87 hl rfl (hw_inc _) (by decide) rfl (fun ls hl => ?_)
      replace hl : lv_has ls 5 [(2, .int (nI (a + 1))), (3, .int (nI b)), (0, .ref y0), (1, .int (nI cx))] := hl
      refine lv_goto hx hb dX4_pairsTrue_90 rfl ?_
      replace hl : lv_has ls 5 [(2, .int (nI (a + 1))), (0, .ref y0), (1, .int (nI cx))] := lv_sub hl [0, 2, 3] rfl
      refine ih (hl := hl) (hI := (fun x hx y hy => ?_)) (ha6 := (by omega)) (hk := (by omega))
      by_cases hxa : x = a
      · rw [hxa]; exact hJ y (by omega)
      · exact hI x (by omega) y hy
    | succ k2 ih2 =>
      refine lv_iload_n hx hb dX4_pairsTrue_10 rfl (lv_at hl 0 rfl) ?_
      refine lv_bipush (v := nI 6) hx hb dX4_pairsTrue_11 (by decide) ?_
      refine hw_icmp_ge hx hb (by omega) (by omega) dX4_pairsTrue_13 rfl (fun hc2 => absurd hc2 (by omega)) (fun hc2 => ?_)
      have hva := hv a (by omega)
      have hvb := hv b (by omega)
      refine lv_bipush (v := nI 36) hx hb dX4_pairsTrue_16 (by decide) ?_
      refine lv_iload_n hx hb dX4_pairsTrue_18 rfl (lv_at hl 3 rfl) ?_
      refine hw_imul hx hb dX4_pairsTrue_19 ?_
      refine lv_bipush (v := nI 6) hx hb dX4_pairsTrue_20 (by decide) ?_
      refine lv_iload_n hx hb dX4_pairsTrue_22 rfl (lv_at hl 1 rfl) ?_
      refine hw_imul hx hb dX4_pairsTrue_23 ?_
      refine hw_iadd hx hb dX4_pairsTrue_24 ?_
      refine lv_iload_n hx hb dX4_pairsTrue_25 rfl (lv_at hl 0 rfl) ?_
      refine hw_iadd hx hb dX4_pairsTrue_26 ?_
      refine lv_istore hx hb dX4_pairsTrue_27 hl (by decide) rfl (fun ls hl => ?_)
      replace hl : lv_has ls 5 [(4, .int (nI (36 * cx + 6 * a + b))), (3, .int (nI b)), (2, .int (nI a)), (0, .ref y0), (1, .int (nI cx))] := hl
      refine lv_aload_n hx hb dX4_pairsTrue_29 rfl (lv_at hl 3 rfl) ?_
      refine va_get (D := D) (ci := 4) (v := .ref y1) (C := RX4) (T := TX4) (N := 22) hx hb htg hi_X4 hown hK hP 0 rfl rfl 1 (by decide) (htg _ hm_497) (fun _ h9 => h9) rfl dX4_pairsTrue_30 ?_
      refine lv_iload hx hb dX4_pairsTrue_33 (lv_at hl 0 rfl) ?_
      refine hw_zald hx hb hK hP 1 1 rfl rfl (j := (36 * cx + 6 * a + b)) (by omega) (by first | decide | omega) (v := hc_b (SA (36 * cx + 6 * a + b))) ((hM.1 (36 * cx + 6 * a + b) (by omega)).1) dX4_pairsTrue_35 ?_
      refine hw_ifeq_b hx hb dX4_pairsTrue_36 rfl (fun hs => ?_) (fun hs => ?_)
      · refine lv_aload_n hx hb dX4_pairsTrue_54 rfl (lv_at hl 3 rfl) ?_
        refine va_get (D := D) (ci := 4) (v := .ref y2) (C := RX4) (T := TX4) (N := 22) hx hb htg hi_X4 hown hK hP 0 rfl rfl 2 (by decide) (htg _ hm_498) (fun _ h9 => h9) rfl dX4_pairsTrue_55 ?_
        refine lv_iload hx hb dX4_pairsTrue_58 (lv_at hl 0 rfl) ?_
        refine hw_zald hx hb hK hP 2 1 rfl rfl (j := (36 * cx + 6 * a + b)) (by omega) (by first | decide | omega) (v := hc_b (OA (36 * cx + 6 * a + b))) ((hM.1 (36 * cx + 6 * a + b) (by omega)).2) dX4_pairsTrue_60 ?_
        refine hw_ifeq_b hx hb dX4_pairsTrue_61 rfl (fun ho => ?_) (fun ho => ?_)
        · refine lv_iinc (v := nI (b + 1)) (k := 1) hx hb dX4_pairsTrue_81 hl rfl (hw_inc _) (by decide) rfl (fun ls hl => ?_)
          replace hl : lv_has ls 5 [(3, .int (nI (b + 1))), (4, .int (nI (36 * cx + 6 * a + b))), (2, .int (nI a)), (0, .ref y0), (1, .int (nI cx))] := hl
          refine lv_goto hx hb dX4_pairsTrue_84 rfl ?_
          replace hl : lv_has ls 5 [(3, .int (nI (b + 1))), (2, .int (nI a)), (0, .ref y0), (1, .int (nI cx))] := lv_sub hl [0, 2, 3, 4] rfl
          refine ih2 (hl := hl) (hJ := (fun y hy => ?_)) (hb6 := (by omega)) (hk2 := (by omega))
          by_cases hyb : y = b
          · rw [hyb]; exact ⟨fun q => absurd (hs.symm.trans q) (by decide), fun q => absurd (ho.symm.trans q) (by decide)⟩
          · exact hJ y (by omega)
        · refine lv_aload_n hx hb dX4_pairsTrue_64 rfl (lv_at hl 3 rfl) ?_
          refine va_get (D := D) (ci := 4) (v := .ref y7) (C := RX4) (T := TX4) (N := 22) hx hb htg hi_X4 hown hK hP 0 rfl rfl 7 (by decide) (htg _ hm_503) (fun _ h9 => h9) rfl dX4_pairsTrue_65 ?_
          refine lv_iload_n hx hb dX4_pairsTrue_68 rfl (lv_at hl 2 rfl) ?_
          refine hw_iald hx hb hK hP 3 0 rfl rfl (j := a) (by omega) (by first | decide | omega) (v := nI (v a)) (hG a (by first | omega | assumption)) dX4_pairsTrue_69 ?_
          refine lv_aload_n hx hb dX4_pairsTrue_70 rfl (lv_at hl 3 rfl) ?_
          refine va_get (D := D) (ci := 4) (v := .ref y7) (C := RX4) (T := TX4) (N := 22) hx hb htg hi_X4 hown hK hP 0 rfl rfl 7 (by decide) (htg _ hm_503) (fun _ h9 => h9) rfl dX4_pairsTrue_71 ?_
          refine lv_iload_n hx hb dX4_pairsTrue_74 rfl (lv_at hl 1 rfl) ?_
          refine hw_iald hx hb hK hP 3 0 rfl rfl (j := b) (by omega) (by first | decide | omega) (v := nI (v b)) (hG b (by first | omega | assumption)) dX4_pairsTrue_75 ?_
          refine hw_icmp_ne hx hb (by omega) (by omega) dX4_pairsTrue_76 rfl (fun he => ?_) (fun he => ?_)
          · refine lv_iinc (v := nI (b + 1)) (k := 1) hx hb dX4_pairsTrue_81 hl rfl (hw_inc _) (by decide) rfl (fun ls hl => ?_)
            replace hl : lv_has ls 5 [(3, .int (nI (b + 1))), (4, .int (nI (36 * cx + 6 * a + b))), (2, .int (nI a)), (0, .ref y0), (1, .int (nI cx))] := hl
            refine lv_goto hx hb dX4_pairsTrue_84 rfl ?_
            replace hl : lv_has ls 5 [(3, .int (nI (b + 1))), (2, .int (nI a)), (0, .ref y0), (1, .int (nI cx))] := lv_sub hl [0, 2, 3, 4] rfl
            refine ih2 (hl := hl) (hJ := (fun y hy => ?_)) (hb6 := (by omega)) (hk2 := (by omega))
            by_cases hyb : y = b
            · rw [hyb]; exact ⟨fun q => absurd (hs.symm.trans q) (by decide), fun _ => he⟩
            · exact hJ y (by omega)
          · refine lv_iconst (v := nI 0) hx hb dX4_pairsTrue_79 (by decide) ?_
            exact W.zret (v := nI 0) hx hb hr (by decide +kernel) (fun t9 ht9 hW9 => ⟨_, rfl, Or.inr ⟨rfl, fun h9 => (h9 a (by omega) b (by omega)).2 ho he⟩, ht9⟩) (fun _ h => nomatch h) dX4_pairsTrue_80
      · refine lv_aload_n hx hb dX4_pairsTrue_39 rfl (lv_at hl 3 rfl) ?_
        refine va_get (D := D) (ci := 4) (v := .ref y7) (C := RX4) (T := TX4) (N := 22) hx hb htg hi_X4 hown hK hP 0 rfl rfl 7 (by decide) (htg _ hm_503) (fun _ h9 => h9) rfl dX4_pairsTrue_40 ?_
        refine lv_iload_n hx hb dX4_pairsTrue_43 rfl (lv_at hl 2 rfl) ?_
        refine hw_iald hx hb hK hP 3 0 rfl rfl (j := a) (by omega) (by first | decide | omega) (v := nI (v a)) (hG a (by first | omega | assumption)) dX4_pairsTrue_44 ?_
        refine lv_aload_n hx hb dX4_pairsTrue_45 rfl (lv_at hl 3 rfl) ?_
        refine va_get (D := D) (ci := 4) (v := .ref y7) (C := RX4) (T := TX4) (N := 22) hx hb htg hi_X4 hown hK hP 0 rfl rfl 7 (by decide) (htg _ hm_503) (fun _ h9 => h9) rfl dX4_pairsTrue_46 ?_
        refine lv_iload_n hx hb dX4_pairsTrue_49 rfl (lv_at hl 1 rfl) ?_
        refine hw_iald hx hb hK hP 3 0 rfl rfl (j := b) (by omega) (by first | decide | omega) (v := nI (v b)) (hG b (by first | omega | assumption)) dX4_pairsTrue_50 ?_
        refine hw_icmp_ne hx hb (by omega) (by omega) dX4_pairsTrue_51 rfl (fun he1 => ?_) (fun he1 => ?_)
        · refine lv_iconst (v := nI 0) hx hb dX4_pairsTrue_79 (by decide) ?_
          exact W.zret (v := nI 0) hx hb hr (by decide +kernel) (fun t9 ht9 hW9 => ⟨_, rfl, Or.inr ⟨rfl, fun h9 => he1 ((h9 a (by omega) b (by omega)).1 hs)⟩, ht9⟩) (fun _ h => nomatch h) dX4_pairsTrue_80
        · refine lv_aload_n hx hb dX4_pairsTrue_54 rfl (lv_at hl 3 rfl) ?_
          refine va_get (D := D) (ci := 4) (v := .ref y2) (C := RX4) (T := TX4) (N := 22) hx hb htg hi_X4 hown hK hP 0 rfl rfl 2 (by decide) (htg _ hm_498) (fun _ h9 => h9) rfl dX4_pairsTrue_55 ?_
          refine lv_iload hx hb dX4_pairsTrue_58 (lv_at hl 0 rfl) ?_
          refine hw_zald hx hb hK hP 2 1 rfl rfl (j := (36 * cx + 6 * a + b)) (by omega) (by first | decide | omega) (v := hc_b (OA (36 * cx + 6 * a + b))) ((hM.1 (36 * cx + 6 * a + b) (by omega)).2) dX4_pairsTrue_60 ?_
          refine hw_ifeq_b hx hb dX4_pairsTrue_61 rfl (fun ho => ?_) (fun ho => ?_)
          · refine lv_iinc (v := nI (b + 1)) (k := 1) hx hb dX4_pairsTrue_81 hl rfl (hw_inc _) (by decide) rfl (fun ls hl => ?_)
            replace hl : lv_has ls 5 [(3, .int (nI (b + 1))), (4, .int (nI (36 * cx + 6 * a + b))), (2, .int (nI a)), (0, .ref y0), (1, .int (nI cx))] := hl
            refine lv_goto hx hb dX4_pairsTrue_84 rfl ?_
            replace hl : lv_has ls 5 [(3, .int (nI (b + 1))), (2, .int (nI a)), (0, .ref y0), (1, .int (nI cx))] := lv_sub hl [0, 2, 3, 4] rfl
            refine ih2 (hl := hl) (hJ := (fun y hy => ?_)) (hb6 := (by omega)) (hk2 := (by omega))
            by_cases hyb : y = b
            · rw [hyb]; exact ⟨fun _ => he1, fun q => absurd (ho.symm.trans q) (by decide)⟩
            · exact hJ y (by omega)
          · refine lv_aload_n hx hb dX4_pairsTrue_64 rfl (lv_at hl 3 rfl) ?_
            refine va_get (D := D) (ci := 4) (v := .ref y7) (C := RX4) (T := TX4) (N := 22) hx hb htg hi_X4 hown hK hP 0 rfl rfl 7 (by decide) (htg _ hm_503) (fun _ h9 => h9) rfl dX4_pairsTrue_65 ?_
            refine lv_iload_n hx hb dX4_pairsTrue_68 rfl (lv_at hl 2 rfl) ?_
            refine hw_iald hx hb hK hP 3 0 rfl rfl (j := a) (by omega) (by first | decide | omega) (v := nI (v a)) (hG a (by first | omega | assumption)) dX4_pairsTrue_69 ?_
            refine lv_aload_n hx hb dX4_pairsTrue_70 rfl (lv_at hl 3 rfl) ?_
            refine va_get (D := D) (ci := 4) (v := .ref y7) (C := RX4) (T := TX4) (N := 22) hx hb htg hi_X4 hown hK hP 0 rfl rfl 7 (by decide) (htg _ hm_503) (fun _ h9 => h9) rfl dX4_pairsTrue_71 ?_
            refine lv_iload_n hx hb dX4_pairsTrue_74 rfl (lv_at hl 1 rfl) ?_
            refine hw_iald hx hb hK hP 3 0 rfl rfl (j := b) (by omega) (by first | decide | omega) (v := nI (v b)) (hG b (by first | omega | assumption)) dX4_pairsTrue_75 ?_
            refine hw_icmp_ne hx hb (by omega) (by omega) dX4_pairsTrue_76 rfl (fun he => ?_) (fun he => ?_)
            · refine lv_iinc (v := nI (b + 1)) (k := 1) hx hb dX4_pairsTrue_81 hl rfl (hw_inc _) (by decide) rfl (fun ls hl => ?_)
              replace hl : lv_has ls 5 [(3, .int (nI (b + 1))), (4, .int (nI (36 * cx + 6 * a + b))), (2, .int (nI a)), (0, .ref y0), (1, .int (nI cx))] := hl
              refine lv_goto hx hb dX4_pairsTrue_84 rfl ?_
              replace hl : lv_has ls 5 [(3, .int (nI (b + 1))), (2, .int (nI a)), (0, .ref y0), (1, .int (nI cx))] := lv_sub hl [0, 2, 3, 4] rfl
              refine ih2 (hl := hl) (hJ := (fun y hy => ?_)) (hb6 := (by omega)) (hk2 := (by omega))
              by_cases hyb : y = b
              · rw [hyb]; exact ⟨fun _ => he1, fun _ => he⟩
              · exact hJ y (by omega)
            · refine lv_iconst (v := nI 0) hx hb dX4_pairsTrue_79 (by decide) ?_
              exact W.zret (v := nI 0) hx hb hr (by decide +kernel) (fun t9 ht9 hW9 => ⟨_, rfl, Or.inr ⟨rfl, fun h9 => (h9 a (by omega) b (by omega)).2 ho he⟩, ht9⟩) (fun _ h => nomatch h) dX4_pairsTrue_80

set_option maxHeartbeats 4000000 in
set_option maxRecDepth 100000 in
/-- a list without cells -/
theorem k_X4_isEmpty (l : Launch) (D : va_G) (cI cZ cJ : ClassId) (Sa Oa My Fa Ta La : Nat → Int32) (SA OA : Nat → Bool) (MA FA TA : Nat → Nat) (LA : Nat → Bool) (v : Nat → Nat) (Ga : Nat → Int32) (px : Nat) (cd md o1 o2 mo : Int32) (y0 y1 y2 y3 y4 y5 y6 y7 y8 y9 ya yb yc yd ye yf yg yh : Nat) (hM : hr_m Sa Oa My Fa Ta La SA OA MA FA TA LA) (hG : ∀ j, j < 6 → Ga j = nI (v j)) (hv : ∀ j, j < 6 → v j < 6) (hp : px < 10) : Met l yX4_isEmpty (Cond.code yX4_isEmpty cX4_isEmpty 2 (some .boolean) :: hwG) { frames := 0, cells := 0, slots := 0, locals := 0 } (hp_R [.ref y0, .int (nI px)] D cI cZ cJ [(y0, .inr (4, [.int cd, .ref y1, .ref y2, .ref y3, .ref y4, .ref y5, .ref y6, .ref y7, .ref y8, .ref y9, .ref ya, .ref yb, .ref yc, .ref yd, .ref ye, .int md, .int o1, .int o2, .int mo, .ref yf, .ref yg, .ref yh])), (y4, .inl (cI, 10, .inl Fa)), (y5, .inl (cI, 10, .inl Ta)), (y6, .inl (cZ, 10, .inl La)), (y7, .inl (cI, 6, .inl Ga))]) (vp_Si (fun r => hc_r r (LA px = true ∧ v (FA px) = v (TA px)))) 0 0 (fun _ => False) := by
  refine Met.ofW (cc := cX4_isEmpty) (maxL := 2) (ret := (some .boolean)) (by decide) rfl ?_
  intro p e s m args below meth c s₁ B hml hv
  obtain ⟨rfl, hP, hz⟩ := hv
  have hx := B.exec
  have hb := B.bytes
  have hr := B.returns
  have hts := atoms_spec (ws := (Cond.code yX4_isEmpty cX4_isEmpty 2 (some .boolean) :: hwG)) B.pre
  have htg := fun w h => hts w (List.mem_cons_of_mem _ h)
  have hown : s.vm.findClass RX4 = some m.cls := findClass_of_methodNamed B.named
  have hlocks := B.notSynchronized
  have hK := hz.1
  have hl := lv_entry ([.ref y0, .int (nI px)]) (n := 2) (Nat.le_of_ble_eq_true rfl)
  rw [lg_entry_eq]
  generalize (lg_sl ([.ref y0, .int (nI px)]) ++ List.replicate (2 - (lg_sl ([.ref y0, .int (nI px)])).length) Slot.unset).toArray = ls at hl ⊢
  replace hl : lv_has ls 2 [(0, .ref y0), (1, .int (nI px))] := hl
  obtain ⟨f1, f2, f3, f4, f5⟩ := hM.2.2 px hp
  have hvf := hv _ f2
  have hvt := hv _ f4
  refine lv_aload_n hx hb dX4_isEmpty_0 rfl (lv_at hl 0 rfl) ?_
  refine va_get (D := D) (ci := 4) (v := .ref y6) (C := RX4) (T := TX4) (N := 22) hx hb htg hi_X4 hown hK hP 0 rfl rfl 6 (by decide) (htg _ hm_502) (fun _ h9 => h9) rfl dX4_isEmpty_1 ?_
  refine lv_iload_n hx hb dX4_isEmpty_4 rfl (lv_at hl 1 rfl) ?_
  refine hw_zald hx hb hK hP 3 1 rfl rfl (j := px) (by omega) (by first | decide | omega) (v := hc_b (LA px)) ((hM.2.2 px (by omega)).2.2.2.2) dX4_isEmpty_5 ?_
  refine hw_ifeq_b hx hb dX4_isEmpty_6 rfl (fun h1 => ?_) (fun h1 => ?_)
  · refine lv_iconst (v := nI 0) hx hb dX4_isEmpty_38 (by decide) ?_
    exact W.zret (v := nI 0) hx hb hr (by decide +kernel) (fun t9 ht9 hW9 => ⟨_, rfl, Or.inr ⟨rfl, fun h9 => by rw [h9.1] at h1; cases h1⟩, ht9⟩) (fun _ h => nomatch h) dX4_isEmpty_39
  · refine lv_aload_n hx hb dX4_isEmpty_9 rfl (lv_at hl 0 rfl) ?_
    refine va_get (D := D) (ci := 4) (v := .ref y7) (C := RX4) (T := TX4) (N := 22) hx hb htg hi_X4 hown hK hP 0 rfl rfl 7 (by decide) (htg _ hm_503) (fun _ h9 => h9) rfl dX4_isEmpty_10 ?_
    refine lv_aload_n hx hb dX4_isEmpty_13 rfl (lv_at hl 0 rfl) ?_
    refine va_get (D := D) (ci := 4) (v := .ref y4) (C := RX4) (T := TX4) (N := 22) hx hb htg hi_X4 hown hK hP 0 rfl rfl 4 (by decide) (htg _ hm_500) (fun _ h9 => h9) rfl dX4_isEmpty_14 ?_
    refine lv_iload_n hx hb dX4_isEmpty_17 rfl (lv_at hl 1 rfl) ?_
    refine hw_iald hx hb hK hP 1 0 rfl rfl (j := px) (by omega) (by first | decide | omega) (v := nI (FA px)) ((hM.2.2 px (by omega)).1) dX4_isEmpty_18 ?_
    refine hw_iald hx hb hK hP 4 0 rfl rfl (j := (FA px)) (by omega) (by first | decide | omega) (v := nI (v (FA px))) (hG (FA px) (by first | omega | assumption)) dX4_isEmpty_19 ?_
    refine lv_aload_n hx hb dX4_isEmpty_20 rfl (lv_at hl 0 rfl) ?_
    refine va_get (D := D) (ci := 4) (v := .ref y7) (C := RX4) (T := TX4) (N := 22) hx hb htg hi_X4 hown hK hP 0 rfl rfl 7 (by decide) (htg _ hm_503) (fun _ h9 => h9) rfl dX4_isEmpty_21 ?_
    refine lv_aload_n hx hb dX4_isEmpty_24 rfl (lv_at hl 0 rfl) ?_
    refine va_get (D := D) (ci := 4) (v := .ref y5) (C := RX4) (T := TX4) (N := 22) hx hb htg hi_X4 hown hK hP 0 rfl rfl 5 (by decide) (htg _ hm_501) (fun _ h9 => h9) rfl dX4_isEmpty_25 ?_
    refine lv_iload_n hx hb dX4_isEmpty_28 rfl (lv_at hl 1 rfl) ?_
    refine hw_iald hx hb hK hP 2 0 rfl rfl (j := px) (by omega) (by first | decide | omega) (v := nI (TA px)) ((hM.2.2 px (by omega)).2.2.1) dX4_isEmpty_29 ?_
    refine hw_iald hx hb hK hP 4 0 rfl rfl (j := (TA px)) (by omega) (by first | decide | omega) (v := nI (v (TA px))) (hG (TA px) (by first | omega | assumption)) dX4_isEmpty_30 ?_
    refine hw_icmp_ne hx hb (by omega) (by omega) dX4_isEmpty_31 rfl (fun h2 => ?_) (fun h2 => ?_)
    · refine lv_iconst (v := nI 0) hx hb dX4_isEmpty_38 (by decide) ?_
      exact W.zret (v := nI 0) hx hb hr (by decide +kernel) (fun t9 ht9 hW9 => ⟨_, rfl, Or.inr ⟨rfl, fun h9 => h2 h9.2⟩, ht9⟩) (fun _ h => nomatch h) dX4_isEmpty_39
    · refine lv_iconst (v := nI 1) hx hb dX4_isEmpty_34 (by decide) ?_
      refine lv_goto hx hb dX4_isEmpty_35 rfl ?_
      exact W.zret (v := nI 1) hx hb hr (by decide +kernel) (fun t9 ht9 hW9 => ⟨_, rfl, Or.inl ⟨rfl, h1, h2⟩, ht9⟩) (fun _ h => nomatch h) dX4_isEmpty_39

set_option maxHeartbeats 4000000 in
set_option maxRecDepth 100000 in
/-- the next list with cells -/
theorem k_X4_nextList (l : Launch) (D : va_G) (cI cZ cJ : ClassId) (Sa Oa My Fa Ta La : Nat → Int32) (SA OA : Nat → Bool) (MA FA TA : Nat → Nat) (LA : Nat → Bool) (v : Nat → Nat) (Ga : Nat → Int32) (cx px : Nat) (cd md o1 o2 mo : Int32) (y0 y1 y2 y3 y4 y5 y6 y7 y8 y9 ya yb yc yd ye yf yg yh : Nat) (hM : hr_m Sa Oa My Fa Ta La SA OA MA FA TA LA) (hG : ∀ j, j < 6 → Ga j = nI (v j)) (hv : ∀ j, j < 6 → v j < 6) (hc0 : cx < 2) (hp : px ≤ 5 * cx + MA cx) : Met l yX4_nextList (Cond.code yX4_nextList cX4_nextList 4 (some .int) :: hwG) { frames := 1, cells := 0, slots := 0, locals := 21 } (hp_R [.ref y0, .int (nI cx), .int (nI px)] D cI cZ cJ [(y0, .inr (4, [.int cd, .ref y1, .ref y2, .ref y3, .ref y4, .ref y5, .ref y6, .ref y7, .ref y8, .ref y9, .ref ya, .ref yb, .ref yc, .ref yd, .ref ye, .int md, .int o1, .int o2, .int mo, .ref yf, .ref yg, .ref yh])), (y3, .inl (cI, 2, .inl My)), (y4, .inl (cI, 10, .inl Fa)), (y5, .inl (cI, 10, .inl Ta)), (y6, .inl (cZ, 10, .inl La)), (y7, .inl (cI, 6, .inl Ga))]) (vp_Si (fun r => (∃ q, r = nI q ∧ px ≤ q ∧ q < 5 * cx + MA cx ∧ LA q = true ∧ v (FA q) ≠ v (TA q) ∧ ∀ x, px ≤ x → x < q → ¬ (LA x = true ∧ v (FA x) ≠ v (TA x))) ∨ (r = -1 ∧ ∀ x, px ≤ x → x < 5 * cx + MA cx → ¬ (LA x = true ∧ v (FA x) ≠ v (TA x))))) 0 0 (fun _ => False) := by
  refine Met.ofW (cc := cX4_nextList) (maxL := 4) (ret := (some .int)) (by decide) rfl ?_
  intro p e s m args below meth c s₁ B hml hv
  obtain ⟨rfl, hP, hz⟩ := hv
  have hx := B.exec
  have hb := B.bytes
  have hr := B.returns
  have hts := atoms_spec (ws := (Cond.code yX4_nextList cX4_nextList 4 (some .int) :: hwG)) B.pre
  have htg := fun w h => hts w (List.mem_cons_of_mem _ h)
  have hown : s.vm.findClass RX4 = some m.cls := findClass_of_methodNamed B.named
  have hlocks := B.notSynchronized
  have hK := hz.1
  have hl := lv_entry ([.ref y0, .int (nI cx), .int (nI px)]) (n := 4) (Nat.le_of_ble_eq_true rfl)
  rw [lg_entry_eq]
  generalize (lg_sl ([.ref y0, .int (nI cx), .int (nI px)]) ++ List.replicate (4 - (lg_sl ([.ref y0, .int (nI cx), .int (nI px)])).length) Slot.unset).toArray = ls at hl ⊢
  replace hl : lv_has ls 4 [(0, .ref y0), (1, .int (nI cx)), (2, .int (nI px))] := hl
  have hm5 := (hM.2.1 cx hc0).2
  refine lv_iload_n hx hb dX4_nextList_0 rfl (lv_at hl 2 rfl) ?_
  refine lv_istore_n hx hb dX4_nextList_1 rfl hl (by decide) rfl (fun ls hl => ?_)
  replace hl : lv_has ls 4 [(3, .int (nI px)), (0, .ref y0), (1, .int (nI cx)), (2, .int (nI px))] := hl
  obtain ⟨q, e_q⟩ : ∃ z : Nat, z = px := ⟨_, rfl⟩
  replace hl : lv_has ls 4 [(3, .int (nI q)), (0, .ref y0), (1, .int (nI cx)), (2, .int (nI px))] := by subst e_q; exact hl
  have hI : ∀ x, px ≤ x → x < q → ¬ (LA x = true ∧ v (FA x) ≠ v (TA x)) := by subst e_q; exact fun x h1 h2 => absurd h1 (by omega)
  have hpq : px ≤ q ∧ q ≤ 5 * cx + MA cx := by subst e_q; omega
  clear e_q
  obtain ⟨k, hk⟩ : ∃ k : Nat, k = 5 * cx + MA cx - q := ⟨_, rfl⟩
  induction k generalizing q ls  with
  | zero =>
    refine lv_iload_n hx hb dX4_nextList_2 rfl (lv_at hl 0 rfl) ?_
    refine lv_iconst (v := nI 5) hx hb dX4_nextList_3 (by decide) ?_
    refine lv_iload_n hx hb dX4_nextList_4 rfl (lv_at hl 2 rfl) ?_
    refine hw_imul hx hb dX4_nextList_5 ?_
    refine lv_aload_n hx hb dX4_nextList_6 rfl (lv_at hl 1 rfl) ?_
    refine va_get (D := D) (ci := 4) (v := .ref y3) (C := RX4) (T := TX4) (N := 22) hx hb htg hi_X4 hown hK hP 0 rfl rfl 3 (by decide) (htg _ hm_499) (fun _ h9 => h9) rfl dX4_nextList_7 ?_
    refine lv_iload_n hx hb dX4_nextList_10 rfl (lv_at hl 2 rfl) ?_
    refine hw_iald hx hb hK hP 1 0 rfl rfl (j := cx) (by omega) (by first | decide | omega) (v := nI (MA cx)) ((hM.2.1 cx (by omega)).1) dX4_nextList_11 ?_
    refine hw_iadd hx hb dX4_nextList_12 ?_
    refine hw_icmp_ge hx hb (by omega) (by omega) dX4_nextList_13 rfl (fun hc => ?_) (fun hc => absurd hc (by omega))
    refine lv_iconst (v := (-1)) hx hb dX4_nextList_41 (by decide) ?_
    exact W.iret (v := -1) hx hb hr (fun t9 ht9 hW9 => ⟨_, rfl, Or.inr ⟨rfl, fun x h1 h2 => hI x h1 (by omega)⟩, ht9⟩) (fun _ h => nomatch h) dX4_nextList_42
  | succ k ih =>
    refine lv_iload_n hx hb dX4_nextList_2 rfl (lv_at hl 0 rfl) ?_
    refine lv_iconst (v := nI 5) hx hb dX4_nextList_3 (by decide) ?_
    refine lv_iload_n hx hb dX4_nextList_4 rfl (lv_at hl 2 rfl) ?_
    refine hw_imul hx hb dX4_nextList_5 ?_
    refine lv_aload_n hx hb dX4_nextList_6 rfl (lv_at hl 1 rfl) ?_
    refine va_get (D := D) (ci := 4) (v := .ref y3) (C := RX4) (T := TX4) (N := 22) hx hb htg hi_X4 hown hK hP 0 rfl rfl 3 (by decide) (htg _ hm_499) (fun _ h9 => h9) rfl dX4_nextList_7 ?_
    refine lv_iload_n hx hb dX4_nextList_10 rfl (lv_at hl 2 rfl) ?_
    refine hw_iald hx hb hK hP 1 0 rfl rfl (j := cx) (by omega) (by first | decide | omega) (v := nI (MA cx)) ((hM.2.1 cx (by omega)).1) dX4_nextList_11 ?_
    refine hw_iadd hx hb dX4_nextList_12 ?_
    refine hw_icmp_ge hx hb (by omega) (by omega) dX4_nextList_13 rfl (fun hc => absurd hc (by omega)) (fun hc => ?_)
    refine lv_aload_n hx hb dX4_nextList_16 rfl (lv_at hl 1 rfl) ?_
    refine va_get (D := D) (ci := 4) (v := .ref y6) (C := RX4) (T := TX4) (N := 22) hx hb htg hi_X4 hown hK hP 0 rfl rfl 6 (by decide) (htg _ hm_502) (fun _ h9 => h9) rfl dX4_nextList_17 ?_
    refine lv_iload_n hx hb dX4_nextList_20 rfl (lv_at hl 0 rfl) ?_
    refine hw_zald hx hb hK hP 4 1 rfl rfl (j := q) (by omega) (by first | decide | omega) (v := hc_b (LA q)) ((hM.2.2 q (by omega)).2.2.2.2) dX4_nextList_21 ?_
    refine hw_ifeq_b hx hb dX4_nextList_22 rfl (fun hli => ?_) (fun hli => ?_)
    · refine lv_iinc (v := nI (q + 1)) (k := 0) hx hb dX4_nextList_35 hl rfl (hw_inc _) (by decide) rfl (fun ls hl => ?_)
      replace hl : lv_has ls 4 [(3, .int (nI (q + 1))), (0, .ref y0), (1, .int (nI cx)), (2, .int (nI px))] := hl
      refine lv_goto hx hb dX4_nextList_38 rfl ?_
      refine ih (hl := hl) (hI := (fun x h1 h2 => ?_)) (hpq := (by omega)) (hk := (by omega))
      by_cases hxq : x = q
      · rw [hxq]; exact fun q => by rw [q.1] at hli; cases hli
      · exact hI x h1 (by omega)
    · refine lv_aload_n hx hb dX4_nextList_25 rfl (lv_at hl 1 rfl) ?_
      refine lv_iload_n hx hb dX4_nextList_26 rfl (lv_at hl 0 rfl) ?_
      refine hw_csi (va_runV (C := RX4) (b := y0) (As := [.int (nI q)]) (rest := []) ⟨hx, hb, hml, hown, htg⟩ (k_X4_isEmpty l D cI cZ cJ Sa Oa My Fa Ta La SA OA MA FA TA LA v Ga q cd md o1 o2 mo y0 y1 y2 y3 y4 y5 y6 y7 y8 y9 ya yb yc yd ye yf yg yh hM hG hv (by omega)) (cwV 1 htg (hg_V hm_609 hm_611 hs_yX4_isEmpty hm_6 hm_612) rfl rfl rfl (by decide +kernel) ⟨Nat.le_of_ble_eq_true rfl, Nat.le_of_ble_eq_true rfl⟩) ⟨hp_R_blind, va_recv (q := (RX4, TX4, 22)) (q0 := 0) (ci := 4) hK hP rfl rfl, hp_R_pre (hP.sub (ws' := [(y0, .inr (4, [.int cd, .ref y1, .ref y2, .ref y3, .ref y4, .ref y5, .ref y6, .ref y7, .ref y8, .ref y9, .ref ya, .ref yb, .ref yc, .ref yd, .ref ye, .int md, .int o1, .int o2, .int mo, .ref yf, .ref yg, .ref yh])), (y4, .inl (cI, 10, .inl Fa)), (y5, .inl (cI, 10, .inl Ta)), (y6, .inl (cZ, 10, .inl La)), (y7, .inl (cI, 6, .inl Ga))]) [0, 2, 3, 4, 5] rfl) hz⟩ rfl rfl hl.1 rfl (lv_room (Nat.le_of_ble_eq_true rfl)) dX4_nextList_27 ⟨Nat.zero_le _, Nat.zero_le _⟩) (fun r hq => ?_)
      rcases hq with ⟨rfl, hq⟩ | ⟨rfl, hq⟩
      · refine lv_if_ne hx hb dX4_nextList_30 rfl (fun hc => ?_) (fun hc => absurd hc (by decide))
        refine lv_iinc (v := nI (q + 1)) (k := 0) hx hb dX4_nextList_35 hl rfl (hw_inc _) (by decide) rfl (fun ls hl => ?_)
        replace hl : lv_has ls 4 [(3, .int (nI (q + 1))), (0, .ref y0), (1, .int (nI cx)), (2, .int (nI px))] := hl
        refine lv_goto hx hb dX4_nextList_38 rfl ?_
        refine ih (hl := hl) (hI := (fun x h1 h2 => ?_)) (hpq := (by omega)) (hk := (by omega))
        by_cases hxq : x = q
        · rw [hxq]; exact fun r => r.2 hq.2
        · exact hI x h1 (by omega)
      · refine lv_if_ne hx hb dX4_nextList_30 rfl (fun hc => absurd rfl hc) (fun hc => ?_)
        refine lv_iload_n hx hb dX4_nextList_33 rfl (lv_at hl 0 rfl) ?_
        exact W.iret (v := nI q) hx hb hr (fun t9 ht9 hW9 => ⟨_, rfl, Or.inl ⟨q, rfl, hpq.1, by omega, hli, fun r => hq ⟨hli, r⟩, hI⟩, ht9⟩) (fun _ h => nomatch h) dX4_nextList_34

set_option maxHeartbeats 4000000 in
set_option maxRecDepth 100000 in
/-- some term has the group -/
theorem k_X4_isGroup (l : Launch) (D : va_G) (cI cZ cJ : ClassId) (v : Nat → Nat) (Ga : Nat → Int32) (g : Nat) (cd md o1 o2 mo : Int32) (y0 y1 y2 y3 y4 y5 y6 y7 y8 y9 ya yb yc yd ye yf yg yh : Nat) (hG : ∀ j, j < 6 → Ga j = nI (v j)) (hv : ∀ j, j < 6 → v j < 6) (hg : g < 6) : Met l yX4_isGroup (Cond.code yX4_isGroup cX4_isGroup 4 (some .boolean) :: hwG) { frames := 0, cells := 0, slots := 0, locals := 0 } (hp_R [.ref y0, .int (nI g)] D cI cZ cJ [(y0, .inr (4, [.int cd, .ref y1, .ref y2, .ref y3, .ref y4, .ref y5, .ref y6, .ref y7, .ref y8, .ref y9, .ref ya, .ref yb, .ref yc, .ref yd, .ref ye, .int md, .int o1, .int o2, .int mo, .ref yf, .ref yg, .ref yh])), (y7, .inl (cI, 6, .inl Ga))]) (vp_Si (fun r => hc_r r (∃ x, x < 6 ∧ v x = g))) 0 0 (fun _ => False) := by
  refine Met.ofW (cc := cX4_isGroup) (maxL := 4) (ret := (some .boolean)) (by decide) rfl ?_
  intro p e s m args below meth c s₁ B hml hv
  obtain ⟨rfl, hP, hz⟩ := hv
  have hx := B.exec
  have hb := B.bytes
  have hr := B.returns
  have hts := atoms_spec (ws := (Cond.code yX4_isGroup cX4_isGroup 4 (some .boolean) :: hwG)) B.pre
  have htg := fun w h => hts w (List.mem_cons_of_mem _ h)
  have hown : s.vm.findClass RX4 = some m.cls := findClass_of_methodNamed B.named
  have hlocks := B.notSynchronized
  have hK := hz.1
  have hl := lv_entry ([.ref y0, .int (nI g)]) (n := 4) (Nat.le_of_ble_eq_true rfl)
  rw [lg_entry_eq]
  generalize (lg_sl ([.ref y0, .int (nI g)]) ++ List.replicate (4 - (lg_sl ([.ref y0, .int (nI g)])).length) Slot.unset).toArray = ls at hl ⊢
  replace hl : lv_has ls 4 [(0, .ref y0), (1, .int (nI g))] := hl
  refine lv_iconst (v := nI 0) hx hb dX4_isGroup_0 (by decide) ?_
  refine lv_istore_n hx hb dX4_isGroup_1 rfl hl (by decide) rfl (fun ls hl => ?_)
  replace hl : lv_has ls 4 [(2, .int (nI 0)), (0, .ref y0), (1, .int (nI g))] := hl
  refine lv_iconst (v := nI 0) hx hb dX4_isGroup_2 (by decide) ?_
  refine lv_istore_n hx hb dX4_isGroup_3 rfl hl (by decide) rfl (fun ls hl => ?_)
  replace hl : lv_has ls 4 [(3, .int (nI 0)), (2, .int (nI 0)), (0, .ref y0), (1, .int (nI g))] := hl
  obtain ⟨t, e_t⟩ : ∃ z : Nat, z = 0 := ⟨_, rfl⟩
  obtain ⟨z, e_z⟩ : ∃ z : Int32, z = nI 0 := ⟨_, rfl⟩
  replace hl : lv_has ls 4 [(3, .int (nI t)), (2, .int z), (0, .ref y0), (1, .int (nI g))] := by subst e_t e_z; exact hl
  have hI : hc_r z (∃ x, x < t ∧ v x = g) := by subst e_t e_z; exact Or.inr ⟨rfl, fun ⟨x, h, _⟩ => absurd h (Nat.not_lt_zero _)⟩
  have ht6 : t ≤ 6 := by subst e_t e_z; omega
  clear e_t e_z
  obtain ⟨k, hk⟩ : ∃ k : Nat, k = 6 - t := ⟨_, rfl⟩
  induction k generalizing t z ls  with
  | zero =>
    refine lv_iload_n hx hb dX4_isGroup_4 rfl (lv_at hl 0 rfl) ?_
    refine lv_bipush (v := nI 6) hx hb dX4_isGroup_5 (by decide) ?_
    refine hw_icmp_ge hx hb (by omega) (by omega) dX4_isGroup_7 rfl (fun hc => ?_) (fun hc => absurd hc (by omega))
    refine lv_iload_n hx hb dX4_isGroup_36 rfl (lv_at hl 1 rfl) ?_
    have htt : t = 6 := by omega
    rcases hI with ⟨rfl, hI⟩ | ⟨rfl, hI⟩
    · exact W.zret (v := nI 1) hx hb hr (by decide +kernel) (fun t9 ht9 hW9 => ⟨_, rfl, Or.inl ⟨rfl, by rw [htt] at hI; exact hI⟩, ht9⟩) (fun _ h => nomatch h) dX4_isGroup_37
    · exact W.zret (v := nI 0) hx hb hr (by decide +kernel) (fun t9 ht9 hW9 => ⟨_, rfl, Or.inr ⟨rfl, by rw [htt] at hI; exact hI⟩, ht9⟩) (fun _ h => nomatch h) dX4_isGroup_37
  | succ k ih =>
    refine lv_iload_n hx hb dX4_isGroup_4 rfl (lv_at hl 0 rfl) ?_
    refine lv_bipush (v := nI 6) hx hb dX4_isGroup_5 (by decide) ?_
    refine hw_icmp_ge hx hb (by omega) (by omega) dX4_isGroup_7 rfl (fun hc => absurd hc (by omega)) (fun hc => ?_)
    have hvt := hv t (by omega)
    refine lv_iload_n hx hb dX4_isGroup_10 rfl (lv_at hl 1 rfl) ?_
    rcases hI with ⟨rfl, hI⟩ | ⟨rfl, hI⟩
    · refine lv_if_ne hx hb dX4_isGroup_11 rfl (fun hc => ?_) (fun hc => absurd hc (by decide))
      refine lv_iconst (v := nI 1) hx hb dX4_isGroup_24 (by decide) ?_
      refine lv_goto hx hb dX4_isGroup_25 rfl ?_
      refine lv_istore_n hx hb dX4_isGroup_29 rfl hl (by decide) rfl (fun ls hl => ?_)
      replace hl : lv_has ls 4 [(2, .int (nI 1)), (3, .int (nI t)), (0, .ref y0), (1, .int (nI g))] := hl
      refine lv_iinc (v := nI (t + 1)) (k := 1) hx hb dX4_isGroup_30 hl rfl (hw_inc _) (by decide) rfl (fun ls hl => ?_)
      replace hl : lv_has ls 4 [(3, .int (nI (t + 1))), (2, .int (nI 1)), (0, .ref y0), (1, .int (nI g))] := hl
      refine lv_goto hx hb dX4_isGroup_33 rfl ?_
      refine ih (hl := hl) (hI := (Or.inl ⟨rfl, (by obtain ⟨x, h1, h2⟩ := hI; exact ⟨x, by omega, h2⟩)⟩)) (ht6 := (by omega)) (hk := (by omega))
    · refine lv_if_ne hx hb dX4_isGroup_11 rfl (fun hc => absurd rfl hc) (fun hc => ?_)
      refine lv_aload_n hx hb dX4_isGroup_14 rfl (lv_at hl 2 rfl) ?_
      refine va_get (D := D) (ci := 4) (v := .ref y7) (C := RX4) (T := TX4) (N := 22) hx hb htg hi_X4 hown hK hP 0 rfl rfl 7 (by decide) (htg _ hm_503) (fun _ h9 => h9) rfl dX4_isGroup_15 ?_
      refine lv_iload_n hx hb dX4_isGroup_18 rfl (lv_at hl 0 rfl) ?_
      refine hw_iald hx hb hK hP 1 0 rfl rfl (j := t) (by omega) (by first | decide | omega) (v := nI (v t)) (hG t (by first | omega | assumption)) dX4_isGroup_19 ?_
      refine lv_iload_n hx hb dX4_isGroup_20 rfl (lv_at hl 3 rfl) ?_
      refine hw_icmp_ne hx hb (by omega) (by omega) dX4_isGroup_21 rfl (fun he => ?_) (fun he => ?_)
      · refine lv_iconst (v := nI 0) hx hb dX4_isGroup_28 (by decide) ?_
        refine lv_istore_n hx hb dX4_isGroup_29 rfl hl (by decide) rfl (fun ls hl => ?_)
        replace hl : lv_has ls 4 [(2, .int (nI 0)), (3, .int (nI t)), (0, .ref y0), (1, .int (nI g))] := hl
        refine lv_iinc (v := nI (t + 1)) (k := 1) hx hb dX4_isGroup_30 hl rfl (hw_inc _) (by decide) rfl (fun ls hl => ?_)
        replace hl : lv_has ls 4 [(3, .int (nI (t + 1))), (2, .int (nI 0)), (0, .ref y0), (1, .int (nI g))] := hl
        refine lv_goto hx hb dX4_isGroup_33 rfl ?_
        refine ih (hl := hl) (hI := (Or.inr ⟨rfl, fun ⟨x, h1, h2⟩ => ?_⟩)) (ht6 := (by omega)) (hk := (by omega))
        by_cases hxt : x = t
        · rw [hxt] at h2; exact he h2
        · exact hI ⟨x, by omega, h2⟩
      · refine lv_iconst (v := nI 1) hx hb dX4_isGroup_24 (by decide) ?_
        refine lv_goto hx hb dX4_isGroup_25 rfl ?_
        refine lv_istore_n hx hb dX4_isGroup_29 rfl hl (by decide) rfl (fun ls hl => ?_)
        replace hl : lv_has ls 4 [(2, .int (nI 1)), (3, .int (nI t)), (0, .ref y0), (1, .int (nI g))] := hl
        refine lv_iinc (v := nI (t + 1)) (k := 1) hx hb dX4_isGroup_30 hl rfl (hw_inc _) (by decide) rfl (fun ls hl => ?_)
        replace hl : lv_has ls 4 [(3, .int (nI (t + 1))), (2, .int (nI 1)), (0, .ref y0), (1, .int (nI g))] := hl
        refine lv_goto hx hb dX4_isGroup_33 rfl ?_
        refine ih (hl := hl) (hI := (Or.inl ⟨rfl, t, by omega, he⟩)) (ht6 := (by omega)) (hk := (by omega))

set_option maxHeartbeats 4000000 in
set_option maxRecDepth 100000 in
/-- an address to choose -/
theorem k_X4_isFree (l : Launch) (D : va_G) (cI cZ cJ : ClassId) (v : Nat → Nat) (Ga : Nat → Int32) (Ca : Nat → Int32) (CA : Nat → Bool) (g en : Nat) (cd md o1 o2 mo : Int32) (y0 y1 y2 y3 y4 y5 y6 y7 y8 y9 ya yb yc yd ye yf yg yh : Nat) (hG : ∀ j, j < 6 → Ga j = nI (v j)) (hv : ∀ j, j < 6 → v j < 6) (hCa : ∀ j, j < 6 → Ca j = hc_b (CA j)) (hg : g < 6) (hen : en < 6) : Met l yX4_isFree (Cond.code yX4_isFree cX4_isFree 3 (some .boolean) :: hwG) { frames := 1, cells := 0, slots := 0, locals := 23 } (hp_R [.ref y0, .int (nI g), .int (nI en)] D cI cZ cJ [(y0, .inr (4, [.int cd, .ref y1, .ref y2, .ref y3, .ref y4, .ref y5, .ref y6, .ref y7, .ref y8, .ref y9, .ref ya, .ref yb, .ref yc, .ref yd, .ref ye, .int md, .int o1, .int o2, .int mo, .ref yf, .ref yg, .ref yh])), (y7, .inl (cI, 6, .inl Ga)), (y8, .inl (cZ, 6, .inl Ca))]) (vp_Si (fun r => hc_r r ((∃ x, x < 6 ∧ v x = g) ∧ g ≠ en ∧ g ≠ v 5 ∧ CA g = false))) 0 0 (fun _ => False) := by
  refine Met.ofW (cc := cX4_isFree) (maxL := 3) (ret := (some .boolean)) (by decide) rfl ?_
  intro p e s m args below meth c s₁ B hml hv
  obtain ⟨rfl, hP, hz⟩ := hv
  have hx := B.exec
  have hb := B.bytes
  have hr := B.returns
  have hts := atoms_spec (ws := (Cond.code yX4_isFree cX4_isFree 3 (some .boolean) :: hwG)) B.pre
  have htg := fun w h => hts w (List.mem_cons_of_mem _ h)
  have hown : s.vm.findClass RX4 = some m.cls := findClass_of_methodNamed B.named
  have hlocks := B.notSynchronized
  have hK := hz.1
  have hl := lv_entry ([.ref y0, .int (nI g), .int (nI en)]) (n := 3) (Nat.le_of_ble_eq_true rfl)
  rw [lg_entry_eq]
  generalize (lg_sl ([.ref y0, .int (nI g), .int (nI en)]) ++ List.replicate (3 - (lg_sl ([.ref y0, .int (nI g), .int (nI en)])).length) Slot.unset).toArray = ls at hl ⊢
  replace hl : lv_has ls 3 [(0, .ref y0), (1, .int (nI g)), (2, .int (nI en))] := hl
  have hv5 := hv 5 (by omega)
  refine lv_aload_n hx hb dX4_isFree_0 rfl (lv_at hl 0 rfl) ?_
  refine lv_iload_n hx hb dX4_isFree_1 rfl (lv_at hl 1 rfl) ?_
  refine hw_csi (va_runV (C := RX4) (b := y0) (As := [.int (nI g)]) (rest := []) ⟨hx, hb, hml, hown, htg⟩ (k_X4_isGroup l D cI cZ cJ v Ga g cd md o1 o2 mo y0 y1 y2 y3 y4 y5 y6 y7 y8 y9 ya yb yc yd ye yf yg yh hG hv hg) (cwV 1 htg (hg_V hm_637 hm_639 hs_yX4_isGroup hm_6 hm_640) rfl rfl rfl (by decide +kernel) ⟨Nat.le_of_ble_eq_true rfl, Nat.le_of_ble_eq_true rfl⟩) ⟨hp_R_blind, va_recv (q := (RX4, TX4, 22)) (q0 := 0) (ci := 4) hK hP rfl rfl, hp_R_pre (hP.sub (ws' := [(y0, .inr (4, [.int cd, .ref y1, .ref y2, .ref y3, .ref y4, .ref y5, .ref y6, .ref y7, .ref y8, .ref y9, .ref ya, .ref yb, .ref yc, .ref yd, .ref ye, .int md, .int o1, .int o2, .int mo, .ref yf, .ref yg, .ref yh])), (y7, .inl (cI, 6, .inl Ga))]) [0, 1] rfl) hz⟩ rfl rfl hl.1 rfl (lv_room (Nat.le_of_ble_eq_true rfl)) dX4_isFree_2 ⟨Nat.zero_le _, Nat.zero_le _⟩) (fun r hq => ?_)
  rcases hq with ⟨rfl, hq⟩ | ⟨rfl, hq⟩
  · refine lv_if_eq hx hb dX4_isFree_5 rfl (fun hc => absurd hc (by decide)) (fun hc => ?_)
    refine lv_iload_n hx hb dX4_isFree_8 rfl (lv_at hl 1 rfl) ?_
    refine lv_iload_n hx hb dX4_isFree_9 rfl (lv_at hl 2 rfl) ?_
    refine hw_icmp_eq hx hb (by omega) (by omega) dX4_isFree_10 rfl (fun h1 => ?_) (fun h1 => ?_)
    · refine lv_iconst (v := nI 0) hx hb dX4_isFree_36 (by decide) ?_
      exact W.zret (v := nI 0) hx hb hr (by decide +kernel) (fun t9 ht9 hW9 => ⟨_, rfl, Or.inr ⟨rfl, fun h9 => h9.2.1 h1⟩, ht9⟩) (fun _ h => nomatch h) dX4_isFree_37
    · refine lv_iload_n hx hb dX4_isFree_13 rfl (lv_at hl 1 rfl) ?_
      refine lv_aload_n hx hb dX4_isFree_14 rfl (lv_at hl 0 rfl) ?_
      refine va_get (D := D) (ci := 4) (v := .ref y7) (C := RX4) (T := TX4) (N := 22) hx hb htg hi_X4 hown hK hP 0 rfl rfl 7 (by decide) (htg _ hm_503) (fun _ h9 => h9) rfl dX4_isFree_15 ?_
      refine lv_iconst (v := nI 5) hx hb dX4_isFree_18 (by decide) ?_
      refine hw_iald hx hb hK hP 1 0 rfl rfl (j := 5) (by omega) (by first | decide | omega) (v := nI (v 5)) (hG 5 (by first | omega | assumption)) dX4_isFree_19 ?_
      refine hw_icmp_eq hx hb (by omega) (by omega) dX4_isFree_20 rfl (fun h2 => ?_) (fun h2 => ?_)
      · refine lv_iconst (v := nI 0) hx hb dX4_isFree_36 (by decide) ?_
        exact W.zret (v := nI 0) hx hb hr (by decide +kernel) (fun t9 ht9 hW9 => ⟨_, rfl, Or.inr ⟨rfl, fun h9 => h9.2.2.1 h2⟩, ht9⟩) (fun _ h => nomatch h) dX4_isFree_37
      · refine lv_aload_n hx hb dX4_isFree_23 rfl (lv_at hl 0 rfl) ?_
        refine va_get (D := D) (ci := 4) (v := .ref y8) (C := RX4) (T := TX4) (N := 22) hx hb htg hi_X4 hown hK hP 0 rfl rfl 8 (by decide) (htg _ hm_504) (fun _ h9 => h9) rfl dX4_isFree_24 ?_
        refine lv_iload_n hx hb dX4_isFree_27 rfl (lv_at hl 1 rfl) ?_
        refine hw_zald hx hb hK hP 2 1 rfl rfl (j := g) (by omega) (by first | decide | omega) (v := hc_b (CA g)) (hCa g (by omega)) dX4_isFree_28 ?_
        refine hw_ifne_b hx hb dX4_isFree_29 rfl (fun h3 => ?_) (fun h3 => ?_)
        · refine lv_iconst (v := nI 0) hx hb dX4_isFree_36 (by decide) ?_
          exact W.zret (v := nI 0) hx hb hr (by decide +kernel) (fun t9 ht9 hW9 => ⟨_, rfl, Or.inr ⟨rfl, fun h9 => (by have := h9.2.2.2; rw [h3] at this; cases this)⟩, ht9⟩) (fun _ h => nomatch h) dX4_isFree_37
        · refine lv_iconst (v := nI 1) hx hb dX4_isFree_32 (by decide) ?_
          refine lv_goto hx hb dX4_isFree_33 rfl ?_
          exact W.zret (v := nI 1) hx hb hr (by decide +kernel) (fun t9 ht9 hW9 => ⟨_, rfl, Or.inl ⟨rfl, hq, h1, h2, h3⟩, ht9⟩) (fun _ h => nomatch h) dX4_isFree_37
  · refine lv_if_eq hx hb dX4_isFree_5 rfl (fun hc => ?_) (fun hc => absurd rfl hc)
    refine lv_iconst (v := nI 0) hx hb dX4_isFree_36 (by decide) ?_
    exact W.zret (v := nI 0) hx hb hr (by decide +kernel) (fun t9 ht9 hW9 => ⟨_, rfl, Or.inr ⟨rfl, fun h9 => hq h9.1⟩, ht9⟩) (fun _ h => nomatch h) dX4_isFree_37
end
section
set_option maxHeartbeats 4000000 in
set_option maxRecDepth 100000 in
/-- the next grouping -/
theorem k_X4_nextGroups (l : Launch) (D : va_G) (cI cZ cJ : ClassId) (sz : Nat) (l0 : List Nat) (V : Nat → Int32) (cd md o1 o2 mo : Int32) (y0 y1 y2 y3 y4 y5 y6 y7 y8 y9 ya yb yc yd ye yf yg yh : Nat) (hV : ∀ j, j < 6 → V j = nI (l0.getD j 0)) (hB : ∀ j, j < 6 → l0.getD j 0 < 2 ^ 30) : Met l yX4_nextGroups (Cond.code yX4_nextGroups cX4_nextGroups 4 (some .boolean) :: hwG) { frames := 0, cells := 0, slots := 0, locals := 0 } (hp_M [.ref y0] D cI cZ cJ [(y0, .inr (4, [.int cd, .ref y1, .ref y2, .ref y3, .ref y4, .ref y5, .ref y6, .ref y7, .ref y8, .ref y9, .ref ya, .ref yb, .ref yc, .ref yd, .ref ye, .int md, .int o1, .int o2, .int mo, .ref yf, .ref yg, .ref yh])), (y7, .inl (cI, 6, .inl V))] sz) (va_Qi (S := Nat → Int32) (fun r u => (r = nI 1 ∧ ∃ l2, hc_ng 5 l0 = some l2 ∧ ∀ j, j < 6 → u j = nI (l2.getD j 0)) ∨ (r = nI 0 ∧ hc_ng 5 l0 = none)) (fun u t => va_P D vwCl ([(y0, .inr (4, [.int cd, .ref y1, .ref y2, .ref y3, .ref y4, .ref y5, .ref y6, .ref y7, .ref y8, .ref y9, .ref ya, .ref yb, .ref yc, .ref yd, .ref ye, .int md, .int o1, .int o2, .int mo, .ref yf, .ref yg, .ref yh])), (y7, .inl (cI, 6, .inl u))]) t.heap) (va_A [(y0, .inr (4, [.int cd, .ref y1, .ref y2, .ref y3, .ref y4, .ref y5, .ref y6, .ref y7, .ref y8, .ref y9, .ref ya, .ref yb, .ref yc, .ref yd, .ref ye, .int md, .int o1, .int o2, .int mo, .ref yf, .ref yg, .ref yh])), (y7, .inl (cI, 6, .inl V))] sz)) 0 0 (va_A [(y0, .inr (4, [.int cd, .ref y1, .ref y2, .ref y3, .ref y4, .ref y5, .ref y6, .ref y7, .ref y8, .ref y9, .ref ya, .ref yb, .ref yc, .ref yd, .ref ye, .int md, .int o1, .int o2, .int mo, .ref yf, .ref yg, .ref yh])), (y7, .inl (cI, 6, .inl V))] sz) := by
  refine Met.ofW (cc := cX4_nextGroups) (maxL := 4) (ret := (some .boolean)) (by decide) rfl ?_
  intro p e s m args below meth c s₁ B hml hv
  obtain ⟨rfl, hsz, hP, hz, hD0⟩ := hv
  have hx := B.exec
  have hb := B.bytes
  have hr := B.returns
  have hts := atoms_spec (ws := (Cond.code yX4_nextGroups cX4_nextGroups 4 (some .boolean) :: hwG)) B.pre
  have htg := fun w h => hts w (List.mem_cons_of_mem _ h)
  have hown : s.vm.findClass RX4 = some m.cls := findClass_of_methodNamed B.named
  have hlocks := B.notSynchronized
  have hK := hz.1
  subst hsz
  have hD := hD0.self (sz := s.heap.size)
  generalize hAe : va_A [(y0, .inr (4, [.int cd, .ref y1, .ref y2, .ref y3, .ref y4, .ref y5, .ref y6, .ref y7, .ref y8, .ref y9, .ref ya, .ref yb, .ref yc, .ref yd, .ref ye, .int md, .int o1, .int o2, .int mo, .ref yf, .ref yg, .ref yh])), (y7, .inl (cI, 6, .inl V))] s.heap.size = A at hD ⊢
  have hA : ∀ q : Nat, s.heap.size ≤ q → A q := fun q h => by rw [← hAe]; exact Or.inr h
  have hS : va_S A s.heap s.heap [] := va_S.rf
  have hl := lv_entry ([.ref y0]) (n := 4) (Nat.le_of_ble_eq_true rfl)
  rw [lg_entry_eq]
  generalize (lg_sl ([.ref y0]) ++ List.replicate (4 - (lg_sl ([.ref y0])).length) Slot.unset).toArray = ls at hl ⊢
  replace hl : lv_has ls 4 [(0, .ref y0)] := hl
  replace hP : va_P D vwCl [(y0, .inr (4, [.int cd, .ref y1, .ref y2, .ref y3, .ref y4, .ref y5, .ref y6, .ref y7, .ref y8, .ref y9, .ref ya, .ref yb, .ref yc, .ref yd, .ref ye, .int md, .int o1, .int o2, .int mo, .ref yf, .ref yg, .ref yh])), (y7, .inl (cI, 6, .inl V))] s.heap := hP
  refine lv_iconst (v := nI 5) hx hb dX4_nextGroups_0 (by decide) ?_
  refine lv_istore_n hx hb dX4_nextGroups_1 rfl hl (by decide) rfl (fun ls hl => ?_)
  replace hl : lv_has ls 4 [(1, .int (nI 5)), (0, .ref y0)] := hl
  obtain ⟨H, e_H⟩ : ∃ z : Heap, z = s.heap := ⟨_, rfl⟩
  obtain ⟨locs, e_locs⟩ : ∃ z : List Loc, z = [] := ⟨_, rfl⟩
  replace hP : va_P D vwCl [(y0, .inr (4, [.int cd, .ref y1, .ref y2, .ref y3, .ref y4, .ref y5, .ref y6, .ref y7, .ref y8, .ref y9, .ref ya, .ref yb, .ref yc, .ref yd, .ref ye, .int md, .int o1, .int o2, .int mo, .ref yf, .ref yg, .ref yh])), (y7, .inl (cI, 6, .inl V))] H := by subst e_H; exact hP
  replace hS : va_S A s.heap H locs := by subst e_H e_locs; exact hS
  rw [← e_H, ← e_locs]
  clear e_H e_locs
  obtain ⟨t1, e_t1⟩ : ∃ z : Nat, z = 5 := ⟨_, rfl⟩
  replace hl : lv_has ls 4 [(1, .int (nI t1)), (0, .ref y0)] := by subst e_t1; exact hl
  have hav : hc_ng 5 l0 = hc_ng t1 l0 := by subst e_t1; rfl
  have ht5 : t1 ≤ 5 := by subst e_t1; omega
  clear e_t1
  obtain ⟨k, hk⟩ : ∃ k : Nat, k = t1 := ⟨_, rfl⟩
  induction k generalizing t1 ls  with
  | zero =>
    subst hk
    refine lv_iload_n hx hb dX4_nextGroups_2 rfl (lv_at hl 0 rfl) ?_
    refine lv_if_le hx hb dX4_nextGroups_3 rfl (fun hc => ?_) (fun hc => absurd (by decide) hc)
    refine lv_iconst (v := nI 0) hx hb dX4_nextGroups_93 (by decide) ?_
    exact W.zret (v := nI 0) hx hb hr (by decide +kernel) (fun t9 ht9 hW9 => ⟨⟨_, V, rfl, Or.inr ⟨rfl, hav⟩, by show va_P D vwCl [(y0, .inr (4, [.int cd, .ref y1, .ref y2, .ref y3, .ref y4, .ref y5, .ref y6, .ref y7, .ref y8, .ref y9, .ref ya, .ref yb, .ref yc, .ref yd, .ref ye, .int md, .int o1, .int o2, .int mo, .ref yf, .ref yg, .ref yh])), (y7, .inl (cI, 6, .inl V))] t9.heap; rw [ht9]; exact hP⟩, hS.F ht9⟩) hS.2.2 dX4_nextGroups_94
  | succ k ih =>
    refine lv_iload_n hx hb dX4_nextGroups_2 rfl (lv_at hl 0 rfl) ?_
    refine lv_if_le hx hb dX4_nextGroups_3 rfl (fun hc => absurd hc (hm_le0 (by omega) (by omega))) (fun hc => ?_)
    refine lv_iconst (v := nI 0) hx hb dX4_nextGroups_6 (by decide) ?_
    refine lv_istore_n hx hb dX4_nextGroups_7 rfl hl (by decide) rfl (fun ls hl => ?_)
    replace hl : lv_has ls 4 [(2, .int (nI 0)), (1, .int (nI t1)), (0, .ref y0)] := hl
    refine lv_iconst (v := nI 0) hx hb dX4_nextGroups_8 (by decide) ?_
    refine lv_istore_n hx hb dX4_nextGroups_9 rfl hl (by decide) rfl (fun ls hl => ?_)
    replace hl : lv_has ls 4 [(3, .int (nI 0)), (2, .int (nI 0)), (1, .int (nI t1)), (0, .ref y0)] := hl
    obtain ⟨i, e_i⟩ : ∃ z : Nat, z = 0 := ⟨_, rfl⟩
    obtain ⟨r9, e_r9⟩ : ∃ z : Nat, z = 0 := ⟨_, rfl⟩
    replace hl : lv_has ls 4 [(3, .int (nI i)), (2, .int (nI r9)), (1, .int (nI t1)), (0, .ref y0)] := by subst e_i e_r9; exact hl
    have hr9 : r9 = hc_mx l0 i := by subst e_i e_r9; rfl
    have hit : i ≤ t1 := by subst e_i e_r9; omega
    clear e_i e_r9
    obtain ⟨k2, hk2⟩ : ∃ k2 : Nat, k2 = t1 - i := ⟨_, rfl⟩
    induction k2 generalizing i r9 ls  with
    | zero =>
      have hm1 : hc_mx l0 i < 2 ^ 30 := hc_mx_lt (by decide) hB i (by omega)
      have hm2 := hB t1 (by omega)
      refine lv_iload_n hx hb dX4_nextGroups_10 rfl (lv_at hl 0 rfl) ?_
      refine lv_iload_n hx hb dX4_nextGroups_11 rfl (lv_at hl 2 rfl) ?_
      refine hw_icmp_ge hx hb (by omega) (by omega) dX4_nextGroups_12 rfl (fun hc2 => ?_) (fun hc2 => absurd hc2 (by omega))
      have hii : i = t1 := by omega
      refine lv_aload_n hx hb dX4_nextGroups_42 rfl (lv_at hl 3 rfl) ?_
      refine va_get (D := D) (ci := 4) (v := .ref y7) (C := RX4) (T := TX4) (N := 22) hx hb htg hi_X4 hown hK hP 0 rfl rfl 7 (by decide) (htg _ hm_503) (fun _ h9 => h9) rfl dX4_nextGroups_43 ?_
      refine lv_iload_n hx hb dX4_nextGroups_46 rfl (lv_at hl 2 rfl) ?_
      refine hw_iald hx hb hK hP 1 0 rfl rfl (j := t1) (by omega) (by first | decide | omega) (v := nI (l0.getD t1 0)) (hV t1 (by omega)) dX4_nextGroups_47 ?_
      refine lv_iload_n hx hb dX4_nextGroups_48 rfl (lv_at hl 1 rfl) ?_
      refine hw_icmp_gt hx hb (by omega) (by omega) dX4_nextGroups_49 rfl (fun h3 => ?_) (fun h3 => ?_)
      · refine lv_iinc (v := nI (t1 - 1)) (k := 2) hx hb dX4_nextGroups_87 hl rfl (hw_dec (by omega)) (by decide) rfl (fun ls hl => ?_)
        replace hl : lv_has ls 4 [(1, .int (nI (t1 - 1))), (3, .int (nI i)), (2, .int (nI r9)), (0, .ref y0)] := hl
        refine lv_goto hx hb dX4_nextGroups_90 rfl ?_
        replace hl : lv_has ls 4 [(1, .int (nI (t1 - 1))), (0, .ref y0)] := lv_sub hl [0, 3] rfl
        refine ih (hl := hl) (hav := (by rw [hav, ← hk]; show (if l0.getD (k + 1) 0 ≤ hc_mx l0 (k + 1) then _ else _) = _; exact if_neg (by rw [hk, ← hii, ← hr9, hii]; omega))) (ht5 := (by omega)) (hk := (by omega))
      · refine lv_aload_n hx hb dX4_nextGroups_52 rfl (lv_at hl 3 rfl) ?_
        refine va_get (D := D) (ci := 4) (v := .ref y7) (C := RX4) (T := TX4) (N := 22) hx hb htg hi_X4 hown hK hP 0 rfl rfl 7 (by decide) (htg _ hm_503) (fun _ h9 => h9) rfl dX4_nextGroups_53 ?_
        refine lv_iload_n hx hb dX4_nextGroups_56 rfl (lv_at hl 2 rfl) ?_
        refine lv_dup2_11 hx hb dX4_nextGroups_57 rfl rfl ?_
        refine hw_iald hx hb hK hP 1 0 rfl rfl (j := t1) (by omega) (by first | decide | omega) (v := nI (l0.getD t1 0)) (hV t1 (by omega)) dX4_nextGroups_58 ?_
        refine lv_iconst (v := nI 1) hx hb dX4_nextGroups_59 (by decide) ?_
        refine hw_iadd hx hb dX4_nextGroups_60 ?_
        refine hw_iast hx hb hK hP hD hS 1 0 rfl rfl (j := t1) (by omega) (by first | decide | omega) dX4_nextGroups_61 (fun H locs hP hD hS => ?_)
        replace hP : va_P D vwCl [(y0, .inr (4, [.int cd, .ref y1, .ref y2, .ref y3, .ref y4, .ref y5, .ref y6, .ref y7, .ref y8, .ref y9, .ref ya, .ref yb, .ref yc, .ref yd, .ref ye, .int md, .int o1, .int o2, .int mo, .ref yf, .ref yg, .ref yh])), (y7, .inl (cI, 6, .inl (upd V t1 (nI (l0.getD t1 0 + 1)))))] H := hP
        replace hD : va_D A [(y0, .inr (4, [.int cd, .ref y1, .ref y2, .ref y3, .ref y4, .ref y5, .ref y6, .ref y7, .ref y8, .ref y9, .ref ya, .ref yb, .ref yc, .ref yd, .ref ye, .int md, .int o1, .int o2, .int mo, .ref yf, .ref yg, .ref yh])), (y7, .inl (cI, 6, .inl (upd V t1 (nI (l0.getD t1 0 + 1)))))] := hD
        refine lv_iload_n hx hb dX4_nextGroups_62 rfl (lv_at hl 2 rfl) ?_
        refine lv_iconst (v := nI 1) hx hb dX4_nextGroups_63 (by decide) ?_
        refine hw_iadd hx hb dX4_nextGroups_64 ?_
        refine lv_istore_n hx hb dX4_nextGroups_65 rfl hl (by decide) rfl (fun ls hl => ?_)
        replace hl : lv_has ls 4 [(3, .int (nI (t1 + 1))), (2, .int (nI r9)), (1, .int (nI t1)), (0, .ref y0)] := hl
        obtain ⟨i3, e_i3⟩ : ∃ z : Nat, z = t1 + 1 := ⟨_, rfl⟩
        obtain ⟨V3, e_V3⟩ : ∃ z : Nat → Int32, z = upd V t1 (nI (l0.getD t1 0 + 1)) := ⟨_, rfl⟩
        replace hl : lv_has ls 4 [(3, .int (nI i3)), (2, .int (nI r9)), (1, .int (nI t1)), (0, .ref y0)] := by subst e_i3 e_V3; exact hl
        replace hP : va_P D vwCl [(y0, .inr (4, [.int cd, .ref y1, .ref y2, .ref y3, .ref y4, .ref y5, .ref y6, .ref y7, .ref y8, .ref y9, .ref ya, .ref yb, .ref yc, .ref yd, .ref ye, .int md, .int o1, .int o2, .int mo, .ref yf, .ref yg, .ref yh])), (y7, .inl (cI, 6, .inl V3))] H := by subst e_i3 e_V3; exact hP
        replace hD : va_D A [(y0, .inr (4, [.int cd, .ref y1, .ref y2, .ref y3, .ref y4, .ref y5, .ref y6, .ref y7, .ref y8, .ref y9, .ref ya, .ref yb, .ref yc, .ref yd, .ref ye, .int md, .int o1, .int o2, .int mo, .ref yf, .ref yg, .ref yh])), (y7, .inl (cI, 6, .inl V3))] := by subst e_i3 e_V3; exact hD
        have hV3 : ∀ j, j < 6 → V3 j = nI (if j < t1 then l0.getD j 0 else if j = t1 then l0.getD j 0 + 1 else if j < i3 then 0 else l0.getD j 0) := by subst e_i3 e_V3; (intro j hj; unfold upd; by_cases hjt : j = t1; (rw [if_pos hjt, if_neg (by omega), if_pos hjt, hjt]); (rw [if_neg hjt, if_neg hjt, hV j hj]; by_cases hj2 : j < t1; (rw [if_pos hj2]); (rw [if_neg hj2, if_neg (by omega)])))
        have hi3 : t1 < i3 ∧ i3 ≤ 6 := by subst e_i3 e_V3; omega
        clear e_i3 e_V3
        obtain ⟨k3, hk3⟩ : ∃ k3 : Nat, k3 = 6 - i3 := ⟨_, rfl⟩
        induction k3 generalizing i3 V3 ls H locs  with
        | zero =>
          refine lv_iload_n hx hb dX4_nextGroups_66 rfl (lv_at hl 0 rfl) ?_
          refine lv_bipush (v := nI 6) hx hb dX4_nextGroups_67 (by decide) ?_
          refine hw_icmp_ge hx hb (by omega) (by omega) dX4_nextGroups_69 rfl (fun hc3 => ?_) (fun hc3 => absurd hc3 (by omega))
          refine lv_iconst (v := nI 1) hx hb dX4_nextGroups_85 (by decide) ?_
          exact W.zret (v := nI 1) hx hb hr (by decide +kernel) (fun t9 ht9 hW9 => ⟨⟨_, V3, rfl, Or.inl ⟨rfl, _, by rw [hav, ← hk]; show (if l0.getD (k + 1) 0 ≤ hc_mx l0 (k + 1) then _ else _) = _; rw [if_pos (by rw [hk, ← hii, ← hr9, hii]; omega)], fun j hj => by rw [hm_rg j hj, hV3 j hj, hk]; congr 1; by_cases hjt : j < t1; (rw [if_pos hjt, if_pos hjt]); (rw [if_neg hjt, if_neg hjt]; by_cases hjt2 : j = t1; (rw [if_pos hjt2, if_pos hjt2]); (rw [if_neg hjt2, if_neg hjt2, if_pos (by omega)]))⟩, by show va_P D vwCl [(y0, .inr (4, [.int cd, .ref y1, .ref y2, .ref y3, .ref y4, .ref y5, .ref y6, .ref y7, .ref y8, .ref y9, .ref ya, .ref yb, .ref yc, .ref yd, .ref ye, .int md, .int o1, .int o2, .int mo, .ref yf, .ref yg, .ref yh])), (y7, .inl (cI, 6, .inl V3))] t9.heap; rw [ht9]; exact hP⟩, hS.F ht9⟩) hS.2.2 dX4_nextGroups_86
        | succ k3 ih3 =>
          refine lv_iload_n hx hb dX4_nextGroups_66 rfl (lv_at hl 0 rfl) ?_
          refine lv_bipush (v := nI 6) hx hb dX4_nextGroups_67 (by decide) ?_
          refine hw_icmp_ge hx hb (by omega) (by omega) dX4_nextGroups_69 rfl (fun hc3 => absurd hc3 (by omega)) (fun hc3 => ?_)
          refine lv_aload_n hx hb dX4_nextGroups_72 rfl (lv_at hl 3 rfl) ?_
          refine va_get (D := D) (ci := 4) (v := .ref y7) (C := RX4) (T := TX4) (N := 22) hx hb htg hi_X4 hown hK hP 0 rfl rfl 7 (by decide) (htg _ hm_503) (fun _ h9 => h9) rfl dX4_nextGroups_73 ?_
          refine lv_iload_n hx hb dX4_nextGroups_76 rfl (lv_at hl 0 rfl) ?_
          refine lv_iconst (v := nI 0) hx hb dX4_nextGroups_77 (by decide) ?_
          refine hw_iast hx hb hK hP hD hS 1 0 rfl rfl (j := i3) (by omega) (by first | decide | omega) dX4_nextGroups_78 (fun H locs hP hD hS => ?_)
          replace hP : va_P D vwCl [(y0, .inr (4, [.int cd, .ref y1, .ref y2, .ref y3, .ref y4, .ref y5, .ref y6, .ref y7, .ref y8, .ref y9, .ref ya, .ref yb, .ref yc, .ref yd, .ref ye, .int md, .int o1, .int o2, .int mo, .ref yf, .ref yg, .ref yh])), (y7, .inl (cI, 6, .inl (upd V3 i3 (nI 0))))] H := hP
          replace hD : va_D A [(y0, .inr (4, [.int cd, .ref y1, .ref y2, .ref y3, .ref y4, .ref y5, .ref y6, .ref y7, .ref y8, .ref y9, .ref ya, .ref yb, .ref yc, .ref yd, .ref ye, .int md, .int o1, .int o2, .int mo, .ref yf, .ref yg, .ref yh])), (y7, .inl (cI, 6, .inl (upd V3 i3 (nI 0))))] := hD
          refine lv_iinc (v := nI (i3 + 1)) (k := 0) hx hb dX4_nextGroups_79 hl rfl (hw_inc _) (by decide) rfl (fun ls hl => ?_)
          replace hl : lv_has ls 4 [(3, .int (nI (i3 + 1))), (2, .int (nI r9)), (1, .int (nI t1)), (0, .ref y0)] := hl
          refine lv_goto hx hb dX4_nextGroups_82 rfl ?_
          refine ih3 (hS := hS) (hl := hl) (hP := hP) (hD := hD) (hV3 := (fun j hj => ?_)) (hi3 := (by omega)) (hk3 := (by omega))
          unfold upd
          by_cases hjt : j = i3
          · rw [if_pos hjt, if_neg (by omega), if_neg (by omega), if_pos (by omega)]
          · rw [if_neg hjt, hV3 j hj]; congr 1; by_cases hj1 : j < t1
            · rw [if_pos hj1, if_pos hj1]
            · rw [if_neg hj1, if_neg hj1]; by_cases hj2 : j = t1
              · rw [if_pos hj2, if_pos hj2]
              · rw [if_neg hj2, if_neg hj2]; by_cases hj3 : j < i3
                · rw [if_pos hj3, if_pos (by omega)]
                · rw [if_neg hj3, if_neg (by omega)]
    | succ k2 ih2 =>
      have hm1 : hc_mx l0 i < 2 ^ 30 := hc_mx_lt (by decide) hB i (by omega)
      have hm2 := hB i (by omega)
      refine lv_iload_n hx hb dX4_nextGroups_10 rfl (lv_at hl 0 rfl) ?_
      refine lv_iload_n hx hb dX4_nextGroups_11 rfl (lv_at hl 2 rfl) ?_
      refine hw_icmp_ge hx hb (by omega) (by omega) dX4_nextGroups_12 rfl (fun hc2 => absurd hc2 (by omega)) (fun hc2 => ?_)
      refine lv_aload_n hx hb dX4_nextGroups_15 rfl (lv_at hl 3 rfl) ?_
      refine va_get (D := D) (ci := 4) (v := .ref y7) (C := RX4) (T := TX4) (N := 22) hx hb htg hi_X4 hown hK hP 0 rfl rfl 7 (by decide) (htg _ hm_503) (fun _ h9 => h9) rfl dX4_nextGroups_16 ?_
      refine lv_iload_n hx hb dX4_nextGroups_19 rfl (lv_at hl 0 rfl) ?_
      refine hw_iald hx hb hK hP 1 0 rfl rfl (j := i) (by omega) (by first | decide | omega) (v := nI (l0.getD i 0)) (hV i (by omega)) dX4_nextGroups_20 ?_
      refine lv_iload_n hx hb dX4_nextGroups_21 rfl (lv_at hl 1 rfl) ?_
      refine hw_icmp_le hx hb (by omega) (by omega) dX4_nextGroups_22 rfl (fun h4 => ?_) (fun h4 => ?_)
      · refine lv_iload_n hx hb dX4_nextGroups_34 rfl (lv_at hl 1 rfl) ?_
        refine lv_istore_n hx hb dX4_nextGroups_35 rfl hl (by decide) rfl (fun ls hl => ?_)
        replace hl : lv_has ls 4 [(2, .int (nI r9)), (3, .int (nI i)), (1, .int (nI t1)), (0, .ref y0)] := hl
        refine lv_iinc (v := nI (i + 1)) (k := 1) hx hb dX4_nextGroups_36 hl rfl (hw_inc _) (by decide) rfl (fun ls hl => ?_)
        replace hl : lv_has ls 4 [(3, .int (nI (i + 1))), (2, .int (nI r9)), (1, .int (nI t1)), (0, .ref y0)] := hl
        refine lv_goto hx hb dX4_nextGroups_39 rfl ?_
        refine ih2 (hl := hl) (hr9 := (by rw [hr9]; show hc_mx l0 i = max (hc_mx l0 i) (l0.getD i 0); omega)) (hit := (by omega)) (hk2 := (by omega))
      · refine lv_aload_n hx hb dX4_nextGroups_25 rfl (lv_at hl 3 rfl) ?_
        refine va_get (D := D) (ci := 4) (v := .ref y7) (C := RX4) (T := TX4) (N := 22) hx hb htg hi_X4 hown hK hP 0 rfl rfl 7 (by decide) (htg _ hm_503) (fun _ h9 => h9) rfl dX4_nextGroups_26 ?_
        refine lv_iload_n hx hb dX4_nextGroups_29 rfl (lv_at hl 0 rfl) ?_
        refine hw_iald hx hb hK hP 1 0 rfl rfl (j := i) (by omega) (by first | decide | omega) (v := nI (l0.getD i 0)) (hV i (by omega)) dX4_nextGroups_30 ?_
        refine lv_goto hx hb dX4_nextGroups_31 rfl ?_
        refine lv_istore_n hx hb dX4_nextGroups_35 rfl hl (by decide) rfl (fun ls hl => ?_)
        replace hl : lv_has ls 4 [(2, .int (nI (l0.getD i 0))), (3, .int (nI i)), (1, .int (nI t1)), (0, .ref y0)] := hl
        refine lv_iinc (v := nI (i + 1)) (k := 1) hx hb dX4_nextGroups_36 hl rfl (hw_inc _) (by decide) rfl (fun ls hl => ?_)
        replace hl : lv_has ls 4 [(3, .int (nI (i + 1))), (2, .int (nI (l0.getD i 0))), (1, .int (nI t1)), (0, .ref y0)] := hl
        refine lv_goto hx hb dX4_nextGroups_39 rfl ?_
        refine ih2 (hl := hl) (hr9 := (by show l0.getD i 0 = max (hc_mx l0 i) (l0.getD i 0); omega)) (hit := (by omega)) (hk2 := (by omega))

set_option maxHeartbeats 4000000 in
set_option maxRecDepth 100000 in
/-- the pieces have begun -/
theorem k_X4_begun (l : Launch) (D : va_G) (cI cZ cJ : ClassId) (sz : Nat) (Sa Oa My Fa Ta La : Nat → Int32) (SA OA : Nat → Bool) (MA FA TA : Nat → Nat) (LA : Nat → Bool) (v : Nat → Nat) (Ga : Nat → Int32) (Ca Na Ra : Nat → Int32) (cx : Nat) (cd md o1 o2 mo : Int32) (y0 y1 y2 y3 y4 y5 y6 y7 y8 y9 ya yb yc yd ye yf yg yh : Nat) (hM : hr_m Sa Oa My Fa Ta La SA OA MA FA TA LA) (hG : ∀ j, j < 6 → Ga j = nI (v j)) (hv : ∀ j, j < 6 → v j < 6) (hc0 : cx < 2) : Met l yX4_begun (Cond.code yX4_begun cX4_begun 4 (some .boolean) :: hwG) { frames := 1, cells := 0, slots := 0, locals := 21 } (hp_M [.ref y0, .int (nI cx)] D cI cZ cJ [(y0, .inr (4, [.int cd, .ref y1, .ref y2, .ref y3, .ref y4, .ref y5, .ref y6, .ref y7, .ref y8, .ref y9, .ref ya, .ref yb, .ref yc, .ref yd, .ref ye, .int md, .int o1, .int o2, .int mo, .ref yf, .ref yg, .ref yh])), (y3, .inl (cI, 2, .inl My)), (y4, .inl (cI, 10, .inl Fa)), (y5, .inl (cI, 10, .inl Ta)), (y6, .inl (cZ, 10, .inl La)), (y7, .inl (cI, 6, .inl Ga)), (y8, .inl (cZ, 6, .inl Ca)), (y9, .inl (cI, 6, .inl Na)), (ya, .inl (cZ, 6, .inl Ra))] sz) (va_Qi (S := (Nat → Int32) × (Nat → Int32) × (Nat → Int32)) (fun r u => hc_r r (hc_BG (v 5) (MA cx) (fun i => v (FA (5 * cx + i))) (fun i => v (TA (5 * cx + i))) (fun i => LA (5 * cx + i))) ∧ (r = nI 1 → ∃ CA, hg_I (v 5) (fun i => v (FA (5 * cx + i))) (fun i => v (TA (5 * cx + i))) (fun i => LA (5 * cx + i)) (MA cx) u.1 u.2.1 u.2.2 CA)) (fun u t => va_P D vwCl ([(y0, .inr (4, [.int cd, .ref y1, .ref y2, .ref y3, .ref y4, .ref y5, .ref y6, .ref y7, .ref y8, .ref y9, .ref ya, .ref yb, .ref yc, .ref yd, .ref ye, .int md, .int o1, .int o2, .int mo, .ref yf, .ref yg, .ref yh])), (y3, .inl (cI, 2, .inl My)), (y4, .inl (cI, 10, .inl Fa)), (y5, .inl (cI, 10, .inl Ta)), (y6, .inl (cZ, 10, .inl La)), (y7, .inl (cI, 6, .inl Ga)), (y8, .inl (cZ, 6, .inl u.1)), (y9, .inl (cI, 6, .inl u.2.1)), (ya, .inl (cZ, 6, .inl u.2.2))]) t.heap) (va_A [(y0, .inr (4, [.int cd, .ref y1, .ref y2, .ref y3, .ref y4, .ref y5, .ref y6, .ref y7, .ref y8, .ref y9, .ref ya, .ref yb, .ref yc, .ref yd, .ref ye, .int md, .int o1, .int o2, .int mo, .ref yf, .ref yg, .ref yh])), (y3, .inl (cI, 2, .inl My)), (y4, .inl (cI, 10, .inl Fa)), (y5, .inl (cI, 10, .inl Ta)), (y6, .inl (cZ, 10, .inl La)), (y7, .inl (cI, 6, .inl Ga)), (y8, .inl (cZ, 6, .inl Ca)), (y9, .inl (cI, 6, .inl Na)), (ya, .inl (cZ, 6, .inl Ra))] sz)) 0 0 (va_A [(y0, .inr (4, [.int cd, .ref y1, .ref y2, .ref y3, .ref y4, .ref y5, .ref y6, .ref y7, .ref y8, .ref y9, .ref ya, .ref yb, .ref yc, .ref yd, .ref ye, .int md, .int o1, .int o2, .int mo, .ref yf, .ref yg, .ref yh])), (y3, .inl (cI, 2, .inl My)), (y4, .inl (cI, 10, .inl Fa)), (y5, .inl (cI, 10, .inl Ta)), (y6, .inl (cZ, 10, .inl La)), (y7, .inl (cI, 6, .inl Ga)), (y8, .inl (cZ, 6, .inl Ca)), (y9, .inl (cI, 6, .inl Na)), (ya, .inl (cZ, 6, .inl Ra))] sz) := by
  refine Met.ofW (cc := cX4_begun) (maxL := 4) (ret := (some .boolean)) (by decide) rfl ?_
  intro p e s m args below meth c s₁ B hml hv
  obtain ⟨rfl, hsz, hP, hz, hD0⟩ := hv
  have hx := B.exec
  have hb := B.bytes
  have hr := B.returns
  have hts := atoms_spec (ws := (Cond.code yX4_begun cX4_begun 4 (some .boolean) :: hwG)) B.pre
  have htg := fun w h => hts w (List.mem_cons_of_mem _ h)
  have hown : s.vm.findClass RX4 = some m.cls := findClass_of_methodNamed B.named
  have hlocks := B.notSynchronized
  have hK := hz.1
  subst hsz
  have hD := hD0.self (sz := s.heap.size)
  generalize hAe : va_A [(y0, .inr (4, [.int cd, .ref y1, .ref y2, .ref y3, .ref y4, .ref y5, .ref y6, .ref y7, .ref y8, .ref y9, .ref ya, .ref yb, .ref yc, .ref yd, .ref ye, .int md, .int o1, .int o2, .int mo, .ref yf, .ref yg, .ref yh])), (y3, .inl (cI, 2, .inl My)), (y4, .inl (cI, 10, .inl Fa)), (y5, .inl (cI, 10, .inl Ta)), (y6, .inl (cZ, 10, .inl La)), (y7, .inl (cI, 6, .inl Ga)), (y8, .inl (cZ, 6, .inl Ca)), (y9, .inl (cI, 6, .inl Na)), (ya, .inl (cZ, 6, .inl Ra))] s.heap.size = A at hD ⊢
  have hA : ∀ q : Nat, s.heap.size ≤ q → A q := fun q h => by rw [← hAe]; exact Or.inr h
  have hS : va_S A s.heap s.heap [] := va_S.rf
  have hl := lv_entry ([.ref y0, .int (nI cx)]) (n := 4) (Nat.le_of_ble_eq_true rfl)
  rw [lg_entry_eq]
  generalize (lg_sl ([.ref y0, .int (nI cx)]) ++ List.replicate (4 - (lg_sl ([.ref y0, .int (nI cx)])).length) Slot.unset).toArray = ls at hl ⊢
  replace hl : lv_has ls 4 [(0, .ref y0), (1, .int (nI cx))] := hl
  replace hP : va_P D vwCl [(y0, .inr (4, [.int cd, .ref y1, .ref y2, .ref y3, .ref y4, .ref y5, .ref y6, .ref y7, .ref y8, .ref y9, .ref ya, .ref yb, .ref yc, .ref yd, .ref ye, .int md, .int o1, .int o2, .int mo, .ref yf, .ref yg, .ref yh])), (y3, .inl (cI, 2, .inl My)), (y4, .inl (cI, 10, .inl Fa)), (y5, .inl (cI, 10, .inl Ta)), (y6, .inl (cZ, 10, .inl La)), (y7, .inl (cI, 6, .inl Ga)), (y8, .inl (cZ, 6, .inl Ca)), (y9, .inl (cI, 6, .inl Na)), (ya, .inl (cZ, 6, .inl Ra))] s.heap := hP
  have hm5 := (hM.2.1 cx hc0).2
  have hv5 := hv 5 (by omega)
  refine lv_iconst (v := nI 0) hx hb dX4_begun_0 (by decide) ?_
  refine lv_istore_n hx hb dX4_begun_1 rfl hl (by decide) rfl (fun ls hl => ?_)
  replace hl : lv_has ls 4 [(2, .int (nI 0)), (0, .ref y0), (1, .int (nI cx))] := hl
  obtain ⟨H, e_H⟩ : ∃ z : Heap, z = s.heap := ⟨_, rfl⟩
  obtain ⟨locs, e_locs⟩ : ∃ z : List Loc, z = [] := ⟨_, rfl⟩
  replace hP : va_P D vwCl [(y0, .inr (4, [.int cd, .ref y1, .ref y2, .ref y3, .ref y4, .ref y5, .ref y6, .ref y7, .ref y8, .ref y9, .ref ya, .ref yb, .ref yc, .ref yd, .ref ye, .int md, .int o1, .int o2, .int mo, .ref yf, .ref yg, .ref yh])), (y3, .inl (cI, 2, .inl My)), (y4, .inl (cI, 10, .inl Fa)), (y5, .inl (cI, 10, .inl Ta)), (y6, .inl (cZ, 10, .inl La)), (y7, .inl (cI, 6, .inl Ga)), (y8, .inl (cZ, 6, .inl Ca)), (y9, .inl (cI, 6, .inl Na)), (ya, .inl (cZ, 6, .inl Ra))] H := by subst e_H; exact hP
  replace hS : va_S A s.heap H locs := by subst e_H e_locs; exact hS
  rw [← e_H, ← e_locs]
  clear e_H e_locs
  obtain ⟨t, e_t⟩ : ∃ z : Nat, z = 0 := ⟨_, rfl⟩
  obtain ⟨C1, e_C1⟩ : ∃ z : Nat → Int32, z = Ca := ⟨_, rfl⟩
  replace hl : lv_has ls 4 [(2, .int (nI t)), (0, .ref y0), (1, .int (nI cx))] := by subst e_t e_C1; exact hl
  replace hP : va_P D vwCl [(y0, .inr (4, [.int cd, .ref y1, .ref y2, .ref y3, .ref y4, .ref y5, .ref y6, .ref y7, .ref y8, .ref y9, .ref ya, .ref yb, .ref yc, .ref yd, .ref ye, .int md, .int o1, .int o2, .int mo, .ref yf, .ref yg, .ref yh])), (y3, .inl (cI, 2, .inl My)), (y4, .inl (cI, 10, .inl Fa)), (y5, .inl (cI, 10, .inl Ta)), (y6, .inl (cZ, 10, .inl La)), (y7, .inl (cI, 6, .inl Ga)), (y8, .inl (cZ, 6, .inl C1)), (y9, .inl (cI, 6, .inl Na)), (ya, .inl (cZ, 6, .inl Ra))] H := by subst e_t e_C1; exact hP
  replace hD : va_D A [(y0, .inr (4, [.int cd, .ref y1, .ref y2, .ref y3, .ref y4, .ref y5, .ref y6, .ref y7, .ref y8, .ref y9, .ref ya, .ref yb, .ref yc, .ref yd, .ref ye, .int md, .int o1, .int o2, .int mo, .ref yf, .ref yg, .ref yh])), (y3, .inl (cI, 2, .inl My)), (y4, .inl (cI, 10, .inl Fa)), (y5, .inl (cI, 10, .inl Ta)), (y6, .inl (cZ, 10, .inl La)), (y7, .inl (cI, 6, .inl Ga)), (y8, .inl (cZ, 6, .inl C1)), (y9, .inl (cI, 6, .inl Na)), (ya, .inl (cZ, 6, .inl Ra))] := by subst e_t e_C1; exact hD
  have hC1 : ∀ j, j < t → C1 j = hc_b false := by subst e_t e_C1; exact fun j hj => absurd hj (Nat.not_lt_zero _)
  have ht6 : t ≤ 6 := by subst e_t e_C1; omega
  clear e_t e_C1
  obtain ⟨k, hk⟩ : ∃ k : Nat, k = 6 - t := ⟨_, rfl⟩
  induction k generalizing t C1 ls H locs  with
  | zero =>
    refine lv_iload_n hx hb dX4_begun_2 rfl (lv_at hl 0 rfl) ?_
    refine lv_bipush (v := nI 6) hx hb dX4_begun_3 (by decide) ?_
    refine hw_icmp_ge hx hb (by omega) (by omega) dX4_begun_5 rfl (fun hc => ?_) (fun hc => absurd hc (by omega))
    refine lv_iconst (v := nI 5) hx hb dX4_begun_21 (by decide) ?_
    refine lv_iload_n hx hb dX4_begun_22 rfl (lv_at hl 2 rfl) ?_
    refine hw_imul hx hb dX4_begun_23 ?_
    refine lv_istore_n hx hb dX4_begun_24 rfl hl (by decide) rfl (fun ls hl => ?_)
    replace hl : lv_has ls 4 [(2, .int (nI (5 * cx))), (0, .ref y0), (1, .int (nI cx))] := hl
    obtain ⟨px, e_px⟩ : ∃ z : Nat, z = 0 := ⟨_, rfl⟩
    obtain ⟨C2, e_C2⟩ : ∃ z : Nat → Int32, z = C1 := ⟨_, rfl⟩
    obtain ⟨N2, e_N2⟩ : ∃ z : Nat → Int32, z = Na := ⟨_, rfl⟩
    obtain ⟨R2, e_R2⟩ : ∃ z : Nat → Int32, z = Ra := ⟨_, rfl⟩
    obtain ⟨CA, e_CA⟩ : ∃ z : Nat → Bool, z = (fun _ => false) := ⟨_, rfl⟩
    replace hl : lv_has ls 4 [(2, .int (nI (5 * cx + px))), (0, .ref y0), (1, .int (nI cx))] := by subst e_px e_C2 e_N2 e_R2 e_CA; exact hl
    replace hP : va_P D vwCl [(y0, .inr (4, [.int cd, .ref y1, .ref y2, .ref y3, .ref y4, .ref y5, .ref y6, .ref y7, .ref y8, .ref y9, .ref ya, .ref yb, .ref yc, .ref yd, .ref ye, .int md, .int o1, .int o2, .int mo, .ref yf, .ref yg, .ref yh])), (y3, .inl (cI, 2, .inl My)), (y4, .inl (cI, 10, .inl Fa)), (y5, .inl (cI, 10, .inl Ta)), (y6, .inl (cZ, 10, .inl La)), (y7, .inl (cI, 6, .inl Ga)), (y8, .inl (cZ, 6, .inl C2)), (y9, .inl (cI, 6, .inl N2)), (ya, .inl (cZ, 6, .inl R2))] H := by subst e_px e_C2 e_N2 e_R2 e_CA; exact hP
    replace hD : va_D A [(y0, .inr (4, [.int cd, .ref y1, .ref y2, .ref y3, .ref y4, .ref y5, .ref y6, .ref y7, .ref y8, .ref y9, .ref ya, .ref yb, .ref yc, .ref yd, .ref ye, .int md, .int o1, .int o2, .int mo, .ref yf, .ref yg, .ref yh])), (y3, .inl (cI, 2, .inl My)), (y4, .inl (cI, 10, .inl Fa)), (y5, .inl (cI, 10, .inl Ta)), (y6, .inl (cZ, 10, .inl La)), (y7, .inl (cI, 6, .inl Ga)), (y8, .inl (cZ, 6, .inl C2)), (y9, .inl (cI, 6, .inl N2)), (ya, .inl (cZ, 6, .inl R2))] := by subst e_px e_C2 e_N2 e_R2 e_CA; exact hD
    have hg : hg_I (v 5) (fun i => v (FA (5 * cx + i))) (fun i => v (TA (5 * cx + i))) (fun i => LA (5 * cx + i)) px C2 N2 R2 CA := by subst e_px e_C2 e_N2 e_R2 e_CA; exact hg_0 (fun j hj => hC1 j (by omega))
    have hpx : px ≤ MA cx := by subst e_px e_C2 e_N2 e_R2 e_CA; exact Nat.zero_le _
    clear e_px e_C2 e_N2 e_R2 e_CA
    obtain ⟨k2, hk2⟩ : ∃ k2 : Nat, k2 = MA cx - px := ⟨_, rfl⟩
    induction k2 generalizing px C2 N2 R2 CA ls H locs  with
    | zero =>
      refine lv_iload_n hx hb dX4_begun_25 rfl (lv_at hl 0 rfl) ?_
      refine lv_iconst (v := nI 5) hx hb dX4_begun_26 (by decide) ?_
      refine lv_iload_n hx hb dX4_begun_27 rfl (lv_at hl 2 rfl) ?_
      refine hw_imul hx hb dX4_begun_28 ?_
      refine lv_aload_n hx hb dX4_begun_29 rfl (lv_at hl 1 rfl) ?_
      refine va_get (D := D) (ci := 4) (v := .ref y3) (C := RX4) (T := TX4) (N := 22) hx hb htg hi_X4 hown hK hP 0 rfl rfl 3 (by decide) (htg _ hm_499) (fun _ h9 => h9) rfl dX4_begun_30 ?_
      refine lv_iload_n hx hb dX4_begun_33 rfl (lv_at hl 2 rfl) ?_
      refine hw_iald hx hb hK hP 1 0 rfl rfl (j := cx) (by omega) (by first | decide | omega) (v := nI (MA cx)) ((hM.2.1 cx (by omega)).1) dX4_begun_34 ?_
      refine hw_iadd hx hb dX4_begun_35 ?_
      refine hw_icmp_ge hx hb (by omega) (by omega) dX4_begun_36 rfl (fun hc2 => ?_) (fun hc2 => absurd hc2 (by omega))
      refine lv_iconst (v := nI 1) hx hb dX4_begun_117 (by decide) ?_
      rw [show px = MA cx by omega] at hg
      exact W.zret (v := nI 1) hx hb hr (by decide +kernel) (fun t9 ht9 hW9 => ⟨⟨_, (C2, N2, R2), rfl, ⟨Or.inl ⟨rfl, hg.1⟩, fun _ => ⟨CA, hg⟩⟩, by show va_P D vwCl [(y0, .inr (4, [.int cd, .ref y1, .ref y2, .ref y3, .ref y4, .ref y5, .ref y6, .ref y7, .ref y8, .ref y9, .ref ya, .ref yb, .ref yc, .ref yd, .ref ye, .int md, .int o1, .int o2, .int mo, .ref yf, .ref yg, .ref yh])), (y3, .inl (cI, 2, .inl My)), (y4, .inl (cI, 10, .inl Fa)), (y5, .inl (cI, 10, .inl Ta)), (y6, .inl (cZ, 10, .inl La)), (y7, .inl (cI, 6, .inl Ga)), (y8, .inl (cZ, 6, .inl C2)), (y9, .inl (cI, 6, .inl N2)), (ya, .inl (cZ, 6, .inl R2))] t9.heap; rw [ht9]; exact hP⟩, hS.F ht9⟩) hS.2.2 dX4_begun_118
    | succ k2 ih2 =>
      refine lv_iload_n hx hb dX4_begun_25 rfl (lv_at hl 0 rfl) ?_
      refine lv_iconst (v := nI 5) hx hb dX4_begun_26 (by decide) ?_
      refine lv_iload_n hx hb dX4_begun_27 rfl (lv_at hl 2 rfl) ?_
      refine hw_imul hx hb dX4_begun_28 ?_
      refine lv_aload_n hx hb dX4_begun_29 rfl (lv_at hl 1 rfl) ?_
      refine va_get (D := D) (ci := 4) (v := .ref y3) (C := RX4) (T := TX4) (N := 22) hx hb htg hi_X4 hown hK hP 0 rfl rfl 3 (by decide) (htg _ hm_499) (fun _ h9 => h9) rfl dX4_begun_30 ?_
      refine lv_iload_n hx hb dX4_begun_33 rfl (lv_at hl 2 rfl) ?_
      refine hw_iald hx hb hK hP 1 0 rfl rfl (j := cx) (by omega) (by first | decide | omega) (v := nI (MA cx)) ((hM.2.1 cx (by omega)).1) dX4_begun_34 ?_
      refine hw_iadd hx hb dX4_begun_35 ?_
      refine hw_icmp_ge hx hb (by omega) (by omega) dX4_begun_36 rfl (fun hc2 => absurd hc2 (by omega)) (fun hc2 => ?_)
      obtain ⟨f1, f2, f3, f4, f5⟩ := hM.2.2 (5 * cx + px) (by omega)
      have hvf := hv _ f2
      have hvt := hv _ f4
      refine lv_aload_n hx hb dX4_begun_39 rfl (lv_at hl 1 rfl) ?_
      refine va_get (D := D) (ci := 4) (v := .ref y7) (C := RX4) (T := TX4) (N := 22) hx hb htg hi_X4 hown hK hP 0 rfl rfl 7 (by decide) (htg _ hm_503) (fun _ h9 => h9) rfl dX4_begun_40 ?_
      refine lv_aload_n hx hb dX4_begun_43 rfl (lv_at hl 1 rfl) ?_
      refine va_get (D := D) (ci := 4) (v := .ref y4) (C := RX4) (T := TX4) (N := 22) hx hb htg hi_X4 hown hK hP 0 rfl rfl 4 (by decide) (htg _ hm_500) (fun _ h9 => h9) rfl dX4_begun_44 ?_
      refine lv_iload_n hx hb dX4_begun_47 rfl (lv_at hl 0 rfl) ?_
      refine hw_iald hx hb hK hP 2 0 rfl rfl (j := (5 * cx + px)) (by omega) (by first | decide | omega) (v := nI (FA (5 * cx + px))) ((hM.2.2 (5 * cx + px) (by omega)).1) dX4_begun_48 ?_
      refine hw_iald hx hb hK hP 5 0 rfl rfl (j := (FA (5 * cx + px))) (by omega) (by first | decide | omega) (v := nI (v (FA (5 * cx + px)))) (hG (FA (5 * cx + px)) (by first | omega | assumption)) dX4_begun_49 ?_
      refine lv_istore_n hx hb dX4_begun_50 rfl hl (by decide) rfl (fun ls hl => ?_)
      replace hl : lv_has ls 4 [(3, .int (nI (v (FA (5 * cx + px))))), (2, .int (nI (5 * cx + px))), (0, .ref y0), (1, .int (nI cx))] := hl
      refine lv_aload_n hx hb dX4_begun_51 rfl (lv_at hl 2 rfl) ?_
      refine lv_iload_n hx hb dX4_begun_52 rfl (lv_at hl 1 rfl) ?_
      refine hw_csi (va_runV (C := RX4) (b := y0) (As := [.int (nI (5 * cx + px))]) (rest := []) ⟨hx, hb, hml, hown, htg⟩ (k_X4_isEmpty l D cI cZ cJ Sa Oa My Fa Ta La SA OA MA FA TA LA v Ga (5 * cx + px) cd md o1 o2 mo y0 y1 y2 y3 y4 y5 y6 y7 y8 y9 ya yb yc yd ye yf yg yh hM hG hv (by omega)) (cwV 1 htg (hg_V hm_609 hm_611 hs_yX4_isEmpty hm_6 hm_612) rfl rfl rfl (by decide +kernel) ⟨Nat.le_of_ble_eq_true rfl, Nat.le_of_ble_eq_true rfl⟩) ⟨hp_R_blind, va_recv (q := (RX4, TX4, 22)) (q0 := 0) (ci := 4) hK hP rfl rfl, hp_R_pre (hP.sub (ws' := [(y0, .inr (4, [.int cd, .ref y1, .ref y2, .ref y3, .ref y4, .ref y5, .ref y6, .ref y7, .ref y8, .ref y9, .ref ya, .ref yb, .ref yc, .ref yd, .ref ye, .int md, .int o1, .int o2, .int mo, .ref yf, .ref yg, .ref yh])), (y4, .inl (cI, 10, .inl Fa)), (y5, .inl (cI, 10, .inl Ta)), (y6, .inl (cZ, 10, .inl La)), (y7, .inl (cI, 6, .inl Ga))]) [0, 2, 3, 4, 5] rfl) hz⟩ rfl rfl hl.1 rfl (lv_room (Nat.le_of_ble_eq_true rfl)) dX4_begun_53 ⟨Nat.zero_le _, Nat.zero_le _⟩) (fun r hq => ?_)
      rcases hq with ⟨rfl, hq⟩ | ⟨rfl, hq⟩
      · refine lv_if_ne hx hb dX4_begun_56 rfl (fun hc2 => ?_) (fun hc2 => absurd hc2 (by decide))
        refine lv_iinc (v := nI (5 * cx + px + 1)) (k := 1) hx hb dX4_begun_111 hl rfl (hw_inc _) (by decide) rfl (fun ls hl => ?_)
        replace hl : lv_has ls 4 [(2, .int (nI (5 * cx + px + 1))), (3, .int (nI (v (FA (5 * cx + px))))), (0, .ref y0), (1, .int (nI cx))] := hl
        refine lv_goto hx hb dX4_begun_114 rfl ?_
        replace hl : lv_has ls 4 [(2, .int (nI (5 * cx + px + 1))), (0, .ref y0), (1, .int (nI cx))] := lv_sub hl [0, 2, 3] rfl
        refine ih2 (px := (px + 1)) (hS := hS) (hl := hl) (hP := hP) (hD := hD) (hg := (hg_skip hg (fun h9 => h9 hq.1 hq.2))) (hpx := (by omega)) (hk2 := (by omega))
      · refine lv_if_ne hx hb dX4_begun_56 rfl (fun hc2 => absurd rfl hc2) (fun hc2 => ?_)
        have hN : hc_N (fun i => v (FA (5 * cx + i))) (fun i => v (TA (5 * cx + i))) (fun i => LA (5 * cx + i)) px := fun h1 h2 => hq ⟨h1, h2⟩
        refine lv_iload_n hx hb dX4_begun_59 rfl (lv_at hl 0 rfl) ?_
        refine lv_aload_n hx hb dX4_begun_60 rfl (lv_at hl 2 rfl) ?_
        refine va_get (D := D) (ci := 4) (v := .ref y7) (C := RX4) (T := TX4) (N := 22) hx hb htg hi_X4 hown hK hP 0 rfl rfl 7 (by decide) (htg _ hm_503) (fun _ h9 => h9) rfl dX4_begun_61 ?_
        refine lv_iconst (v := nI 5) hx hb dX4_begun_64 (by decide) ?_
        refine hw_iald hx hb hK hP 5 0 rfl rfl (j := 5) (by omega) (by first | decide | omega) (v := nI (v 5)) (hG 5 (by first | omega | assumption)) dX4_begun_65 ?_
        refine hw_icmp_eq hx hb (by omega) (by omega) dX4_begun_66 rfl (fun h1 => ?_) (fun h1 => ?_)
        · refine lv_iconst (v := nI 0) hx hb dX4_begun_78 (by decide) ?_
          exact W.zret (v := nI 0) hx hb hr (by decide +kernel) (fun t9 ht9 hW9 => ⟨⟨_, (C2, N2, R2), rfl, ⟨Or.inr ⟨rfl, fun hB => (hB px (by omega) hN).1 h1⟩, fun h9 => absurd h9 (by decide)⟩, by show va_P D vwCl [(y0, .inr (4, [.int cd, .ref y1, .ref y2, .ref y3, .ref y4, .ref y5, .ref y6, .ref y7, .ref y8, .ref y9, .ref ya, .ref yb, .ref yc, .ref yd, .ref ye, .int md, .int o1, .int o2, .int mo, .ref yf, .ref yg, .ref yh])), (y3, .inl (cI, 2, .inl My)), (y4, .inl (cI, 10, .inl Fa)), (y5, .inl (cI, 10, .inl Ta)), (y6, .inl (cZ, 10, .inl La)), (y7, .inl (cI, 6, .inl Ga)), (y8, .inl (cZ, 6, .inl C2)), (y9, .inl (cI, 6, .inl N2)), (ya, .inl (cZ, 6, .inl R2))] t9.heap; rw [ht9]; exact hP⟩, hS.F ht9⟩) hS.2.2 dX4_begun_79
        · refine lv_aload_n hx hb dX4_begun_69 rfl (lv_at hl 2 rfl) ?_
          refine va_get (D := D) (ci := 4) (v := .ref y8) (C := RX4) (T := TX4) (N := 22) hx hb htg hi_X4 hown hK hP 0 rfl rfl 8 (by decide) (htg _ hm_504) (fun _ h9 => h9) rfl dX4_begun_70 ?_
          refine lv_iload_n hx hb dX4_begun_73 rfl (lv_at hl 0 rfl) ?_
          refine hw_zald hx hb hK hP 6 1 rfl rfl (j := (v (FA (5 * cx + px)))) (by omega) (by first | decide | omega) (v := hc_b (CA (v (FA (5 * cx + px))))) (hg.2.1 (v (FA (5 * cx + px))) (by omega)) dX4_begun_74 ?_
          refine hw_ifeq_b hx hb dX4_begun_75 rfl (fun h2 => ?_) (fun h2 => ?_)
          · refine lv_aload_n hx hb dX4_begun_80 rfl (lv_at hl 2 rfl) ?_
            refine va_get (D := D) (ci := 4) (v := .ref y8) (C := RX4) (T := TX4) (N := 22) hx hb htg hi_X4 hown hK hP 0 rfl rfl 8 (by decide) (htg _ hm_504) (fun _ h9 => h9) rfl dX4_begun_81 ?_
            refine lv_iload_n hx hb dX4_begun_84 rfl (lv_at hl 0 rfl) ?_
            refine lv_iconst (v := nI 1) hx hb dX4_begun_85 (by decide) ?_
            refine hw_zast hx hb hK hP hD hS 6 1 rfl rfl (j := (v (FA (5 * cx + px)))) (by omega) (by first | decide | omega) dX4_begun_86 (fun H locs hP hD hS => ?_)
            rw [hw_nar1] at hP hD
            replace hP : va_P D vwCl [(y0, .inr (4, [.int cd, .ref y1, .ref y2, .ref y3, .ref y4, .ref y5, .ref y6, .ref y7, .ref y8, .ref y9, .ref ya, .ref yb, .ref yc, .ref yd, .ref ye, .int md, .int o1, .int o2, .int mo, .ref yf, .ref yg, .ref yh])), (y3, .inl (cI, 2, .inl My)), (y4, .inl (cI, 10, .inl Fa)), (y5, .inl (cI, 10, .inl Ta)), (y6, .inl (cZ, 10, .inl La)), (y7, .inl (cI, 6, .inl Ga)), (y8, .inl (cZ, 6, .inl (upd C2 (v (FA (5 * cx + px))) (hc_b true)))), (y9, .inl (cI, 6, .inl N2)), (ya, .inl (cZ, 6, .inl R2))] H := hP
            replace hD : va_D A [(y0, .inr (4, [.int cd, .ref y1, .ref y2, .ref y3, .ref y4, .ref y5, .ref y6, .ref y7, .ref y8, .ref y9, .ref ya, .ref yb, .ref yc, .ref yd, .ref ye, .int md, .int o1, .int o2, .int mo, .ref yf, .ref yg, .ref yh])), (y3, .inl (cI, 2, .inl My)), (y4, .inl (cI, 10, .inl Fa)), (y5, .inl (cI, 10, .inl Ta)), (y6, .inl (cZ, 10, .inl La)), (y7, .inl (cI, 6, .inl Ga)), (y8, .inl (cZ, 6, .inl (upd C2 (v (FA (5 * cx + px))) (hc_b true)))), (y9, .inl (cI, 6, .inl N2)), (ya, .inl (cZ, 6, .inl R2))] := hD
            refine lv_aload_n hx hb dX4_begun_87 rfl (lv_at hl 2 rfl) ?_
            refine va_get (D := D) (ci := 4) (v := .ref y9) (C := RX4) (T := TX4) (N := 22) hx hb htg hi_X4 hown hK hP 0 rfl rfl 9 (by decide) (htg _ hm_505) (fun _ h9 => h9) rfl dX4_begun_88 ?_
            refine lv_iload_n hx hb dX4_begun_91 rfl (lv_at hl 0 rfl) ?_
            refine lv_aload_n hx hb dX4_begun_92 rfl (lv_at hl 2 rfl) ?_
            refine va_get (D := D) (ci := 4) (v := .ref y7) (C := RX4) (T := TX4) (N := 22) hx hb htg hi_X4 hown hK hP 0 rfl rfl 7 (by decide) (htg _ hm_503) (fun _ h9 => h9) rfl dX4_begun_93 ?_
            refine lv_aload_n hx hb dX4_begun_96 rfl (lv_at hl 2 rfl) ?_
            refine va_get (D := D) (ci := 4) (v := .ref y5) (C := RX4) (T := TX4) (N := 22) hx hb htg hi_X4 hown hK hP 0 rfl rfl 5 (by decide) (htg _ hm_501) (fun _ h9 => h9) rfl dX4_begun_97 ?_
            refine lv_iload_n hx hb dX4_begun_100 rfl (lv_at hl 1 rfl) ?_
            refine hw_iald hx hb hK hP 3 0 rfl rfl (j := (5 * cx + px)) (by omega) (by first | decide | omega) (v := nI (TA (5 * cx + px))) ((hM.2.2 (5 * cx + px) (by omega)).2.2.1) dX4_begun_101 ?_
            refine hw_iald hx hb hK hP 5 0 rfl rfl (j := (TA (5 * cx + px))) (by omega) (by first | decide | omega) (v := nI (v (TA (5 * cx + px)))) (hG (TA (5 * cx + px)) (by first | omega | assumption)) dX4_begun_102 ?_
            refine hw_iast hx hb hK hP hD hS 7 0 rfl rfl (j := (v (FA (5 * cx + px)))) (by omega) (by first | decide | omega) dX4_begun_103 (fun H locs hP hD hS => ?_)
            replace hP : va_P D vwCl [(y0, .inr (4, [.int cd, .ref y1, .ref y2, .ref y3, .ref y4, .ref y5, .ref y6, .ref y7, .ref y8, .ref y9, .ref ya, .ref yb, .ref yc, .ref yd, .ref ye, .int md, .int o1, .int o2, .int mo, .ref yf, .ref yg, .ref yh])), (y3, .inl (cI, 2, .inl My)), (y4, .inl (cI, 10, .inl Fa)), (y5, .inl (cI, 10, .inl Ta)), (y6, .inl (cZ, 10, .inl La)), (y7, .inl (cI, 6, .inl Ga)), (y8, .inl (cZ, 6, .inl (upd C2 (v (FA (5 * cx + px))) (hc_b true)))), (y9, .inl (cI, 6, .inl (upd N2 (v (FA (5 * cx + px))) (nI (v (TA (5 * cx + px))))))), (ya, .inl (cZ, 6, .inl R2))] H := hP
            replace hD : va_D A [(y0, .inr (4, [.int cd, .ref y1, .ref y2, .ref y3, .ref y4, .ref y5, .ref y6, .ref y7, .ref y8, .ref y9, .ref ya, .ref yb, .ref yc, .ref yd, .ref ye, .int md, .int o1, .int o2, .int mo, .ref yf, .ref yg, .ref yh])), (y3, .inl (cI, 2, .inl My)), (y4, .inl (cI, 10, .inl Fa)), (y5, .inl (cI, 10, .inl Ta)), (y6, .inl (cZ, 10, .inl La)), (y7, .inl (cI, 6, .inl Ga)), (y8, .inl (cZ, 6, .inl (upd C2 (v (FA (5 * cx + px))) (hc_b true)))), (y9, .inl (cI, 6, .inl (upd N2 (v (FA (5 * cx + px))) (nI (v (TA (5 * cx + px))))))), (ya, .inl (cZ, 6, .inl R2))] := hD
            refine lv_aload_n hx hb dX4_begun_104 rfl (lv_at hl 2 rfl) ?_
            refine va_get (D := D) (ci := 4) (v := .ref ya) (C := RX4) (T := TX4) (N := 22) hx hb htg hi_X4 hown hK hP 0 rfl rfl 10 (by decide) (htg _ hm_506) (fun _ h9 => h9) rfl dX4_begun_105 ?_
            refine lv_iload_n hx hb dX4_begun_108 rfl (lv_at hl 0 rfl) ?_
            refine lv_iconst (v := nI 0) hx hb dX4_begun_109 (by decide) ?_
            refine hw_zast hx hb hK hP hD hS 8 1 rfl rfl (j := (v (FA (5 * cx + px)))) (by omega) (by first | decide | omega) dX4_begun_110 (fun H locs hP hD hS => ?_)
            rw [hw_nar0] at hP hD
            replace hP : va_P D vwCl [(y0, .inr (4, [.int cd, .ref y1, .ref y2, .ref y3, .ref y4, .ref y5, .ref y6, .ref y7, .ref y8, .ref y9, .ref ya, .ref yb, .ref yc, .ref yd, .ref ye, .int md, .int o1, .int o2, .int mo, .ref yf, .ref yg, .ref yh])), (y3, .inl (cI, 2, .inl My)), (y4, .inl (cI, 10, .inl Fa)), (y5, .inl (cI, 10, .inl Ta)), (y6, .inl (cZ, 10, .inl La)), (y7, .inl (cI, 6, .inl Ga)), (y8, .inl (cZ, 6, .inl (upd C2 (v (FA (5 * cx + px))) (hc_b true)))), (y9, .inl (cI, 6, .inl (upd N2 (v (FA (5 * cx + px))) (nI (v (TA (5 * cx + px))))))), (ya, .inl (cZ, 6, .inl (upd R2 (v (FA (5 * cx + px))) (hc_b false))))] H := hP
            replace hD : va_D A [(y0, .inr (4, [.int cd, .ref y1, .ref y2, .ref y3, .ref y4, .ref y5, .ref y6, .ref y7, .ref y8, .ref y9, .ref ya, .ref yb, .ref yc, .ref yd, .ref ye, .int md, .int o1, .int o2, .int mo, .ref yf, .ref yg, .ref yh])), (y3, .inl (cI, 2, .inl My)), (y4, .inl (cI, 10, .inl Fa)), (y5, .inl (cI, 10, .inl Ta)), (y6, .inl (cZ, 10, .inl La)), (y7, .inl (cI, 6, .inl Ga)), (y8, .inl (cZ, 6, .inl (upd C2 (v (FA (5 * cx + px))) (hc_b true)))), (y9, .inl (cI, 6, .inl (upd N2 (v (FA (5 * cx + px))) (nI (v (TA (5 * cx + px))))))), (ya, .inl (cZ, 6, .inl (upd R2 (v (FA (5 * cx + px))) (hc_b false))))] := hD
            refine lv_iinc (v := nI (5 * cx + px + 1)) (k := 1) hx hb dX4_begun_111 hl rfl (hw_inc _) (by decide) rfl (fun ls hl => ?_)
            replace hl : lv_has ls 4 [(2, .int (nI (5 * cx + px + 1))), (3, .int (nI (v (FA (5 * cx + px))))), (0, .ref y0), (1, .int (nI cx))] := hl
            refine lv_goto hx hb dX4_begun_114 rfl ?_
            replace hl : lv_has ls 4 [(2, .int (nI (5 * cx + px + 1))), (0, .ref y0), (1, .int (nI cx))] := lv_sub hl [0, 2, 3] rfl
            refine ih2 (px := (px + 1)) (hS := hS) (hl := hl) (hP := hP) (hD := hD) (hg := (hg_set hg hN h1 hvf h2)) (hpx := (by omega)) (hk2 := (by omega))
          · refine lv_iconst (v := nI 0) hx hb dX4_begun_78 (by decide) ?_
            exact W.zret (v := nI 0) hx hb hr (by decide +kernel) (fun t9 ht9 hW9 => ⟨⟨_, (C2, N2, R2), rfl, ⟨Or.inr ⟨rfl, hg_no hg (by omega) hN hvf h2⟩, fun h9 => absurd h9 (by decide)⟩, by show va_P D vwCl [(y0, .inr (4, [.int cd, .ref y1, .ref y2, .ref y3, .ref y4, .ref y5, .ref y6, .ref y7, .ref y8, .ref y9, .ref ya, .ref yb, .ref yc, .ref yd, .ref ye, .int md, .int o1, .int o2, .int mo, .ref yf, .ref yg, .ref yh])), (y3, .inl (cI, 2, .inl My)), (y4, .inl (cI, 10, .inl Fa)), (y5, .inl (cI, 10, .inl Ta)), (y6, .inl (cZ, 10, .inl La)), (y7, .inl (cI, 6, .inl Ga)), (y8, .inl (cZ, 6, .inl C2)), (y9, .inl (cI, 6, .inl N2)), (ya, .inl (cZ, 6, .inl R2))] t9.heap; rw [ht9]; exact hP⟩, hS.F ht9⟩) hS.2.2 dX4_begun_79
  | succ k ih =>
    refine lv_iload_n hx hb dX4_begun_2 rfl (lv_at hl 0 rfl) ?_
    refine lv_bipush (v := nI 6) hx hb dX4_begun_3 (by decide) ?_
    refine hw_icmp_ge hx hb (by omega) (by omega) dX4_begun_5 rfl (fun hc => absurd hc (by omega)) (fun hc => ?_)
    refine lv_aload_n hx hb dX4_begun_8 rfl (lv_at hl 1 rfl) ?_
    refine va_get (D := D) (ci := 4) (v := .ref y8) (C := RX4) (T := TX4) (N := 22) hx hb htg hi_X4 hown hK hP 0 rfl rfl 8 (by decide) (htg _ hm_504) (fun _ h9 => h9) rfl dX4_begun_9 ?_
    refine lv_iload_n hx hb dX4_begun_12 rfl (lv_at hl 0 rfl) ?_
    refine lv_iconst (v := nI 0) hx hb dX4_begun_13 (by decide) ?_
    refine hw_zast hx hb hK hP hD hS 6 1 rfl rfl (j := t) (by omega) (by first | decide | omega) dX4_begun_14 (fun H locs hP hD hS => ?_)
    rw [hw_nar0] at hP hD
    replace hP : va_P D vwCl [(y0, .inr (4, [.int cd, .ref y1, .ref y2, .ref y3, .ref y4, .ref y5, .ref y6, .ref y7, .ref y8, .ref y9, .ref ya, .ref yb, .ref yc, .ref yd, .ref ye, .int md, .int o1, .int o2, .int mo, .ref yf, .ref yg, .ref yh])), (y3, .inl (cI, 2, .inl My)), (y4, .inl (cI, 10, .inl Fa)), (y5, .inl (cI, 10, .inl Ta)), (y6, .inl (cZ, 10, .inl La)), (y7, .inl (cI, 6, .inl Ga)), (y8, .inl (cZ, 6, .inl (upd C1 t (hc_b false)))), (y9, .inl (cI, 6, .inl Na)), (ya, .inl (cZ, 6, .inl Ra))] H := hP
    replace hD : va_D A [(y0, .inr (4, [.int cd, .ref y1, .ref y2, .ref y3, .ref y4, .ref y5, .ref y6, .ref y7, .ref y8, .ref y9, .ref ya, .ref yb, .ref yc, .ref yd, .ref ye, .int md, .int o1, .int o2, .int mo, .ref yf, .ref yg, .ref yh])), (y3, .inl (cI, 2, .inl My)), (y4, .inl (cI, 10, .inl Fa)), (y5, .inl (cI, 10, .inl Ta)), (y6, .inl (cZ, 10, .inl La)), (y7, .inl (cI, 6, .inl Ga)), (y8, .inl (cZ, 6, .inl (upd C1 t (hc_b false)))), (y9, .inl (cI, 6, .inl Na)), (ya, .inl (cZ, 6, .inl Ra))] := hD
    refine lv_iinc (v := nI (t + 1)) (k := 0) hx hb dX4_begun_15 hl rfl (hw_inc _) (by decide) rfl (fun ls hl => ?_)
    replace hl : lv_has ls 4 [(2, .int (nI (t + 1))), (0, .ref y0), (1, .int (nI cx))] := hl
    refine lv_goto hx hb dX4_begun_18 rfl ?_
    refine ih (hS := hS) (hl := hl) (hP := hP) (hD := hD) (hC1 := (fun j hj => ?_)) (ht6 := (by omega)) (hk := (by omega))
    unfold upd
    by_cases hjt : j = t
    · rw [if_pos hjt]
    · rw [if_neg hjt]; exact hC1 j (by omega)

set_option maxHeartbeats 4000000 in
set_option maxRecDepth 100000 in
/-- a piece takes its cells -/
theorem k_X4_takes (l : Launch) (D : va_G) (cI cZ cJ : ClassId) (sz : Nat) (Sa Oa My Fa Ta La : Nat → Int32) (SA OA : Nat → Bool) (MA FA TA : Nat → Nat) (LA : Nat → Bool) (v : Nat → Nat) (Ga : Nat → Int32) (Ca Na Ra Ka : Nat → Int32) (nx : Nat → Option Nat) (lg T : Nat → Bool) (px : Nat) (cd md o1 o2 mo : Int32) (y0 y1 y2 y3 y4 y5 y6 y7 y8 y9 ya yb yc yd ye yf yg yh : Nat) (hM : hr_m Sa Oa My Fa Ta La SA OA MA FA TA LA) (hG : ∀ j, j < 6 → Ga j = nI (v j)) (hv : ∀ j, j < 6 → v j < 6) (hN : hk_N Ca Na Ra nx lg) (hT : ∀ j, j < 6 → Ka j = hc_b (T j)) (hp : px < 10) : Met l yX4_takes (Cond.code yX4_takes cX4_takes 4 (some .boolean) :: hwG) { frames := 0, cells := 0, slots := 0, locals := 0 } (hp_M [.ref y0, .int (nI px)] D cI cZ cJ [(y0, .inr (4, [.int cd, .ref y1, .ref y2, .ref y3, .ref y4, .ref y5, .ref y6, .ref y7, .ref y8, .ref y9, .ref ya, .ref yb, .ref yc, .ref yd, .ref ye, .int md, .int o1, .int o2, .int mo, .ref yf, .ref yg, .ref yh])), (y4, .inl (cI, 10, .inl Fa)), (y5, .inl (cI, 10, .inl Ta)), (y6, .inl (cZ, 10, .inl La)), (y7, .inl (cI, 6, .inl Ga)), (y8, .inl (cZ, 6, .inl Ca)), (y9, .inl (cI, 6, .inl Na)), (ya, .inl (cZ, 6, .inl Ra)), (yb, .inl (cZ, 6, .inl Ka))] sz) (va_Qi (S := Nat → Int32) (fun r u => (r = nI 1 ∧ ∃ (l : List Nat) (T2 : Nat → Bool), hc_pp nx lg (v (FA px)) (v (TA px)) (LA px) l ∧ (∀ a, a ∈ l → T a = false) ∧ (∀ j, j < 6 → u j = hc_b (T2 j)) ∧ ∀ j, j < 6 → T2 j = (T j || decide (j ∈ l))) ∨ (r = nI 0 ∧ ¬ ∃ l, hc_pp nx lg (v (FA px)) (v (TA px)) (LA px) l ∧ ∀ a, a ∈ l → T a = false)) (fun u t => va_P D vwCl ([(y0, .inr (4, [.int cd, .ref y1, .ref y2, .ref y3, .ref y4, .ref y5, .ref y6, .ref y7, .ref y8, .ref y9, .ref ya, .ref yb, .ref yc, .ref yd, .ref ye, .int md, .int o1, .int o2, .int mo, .ref yf, .ref yg, .ref yh])), (y4, .inl (cI, 10, .inl Fa)), (y5, .inl (cI, 10, .inl Ta)), (y6, .inl (cZ, 10, .inl La)), (y7, .inl (cI, 6, .inl Ga)), (y8, .inl (cZ, 6, .inl Ca)), (y9, .inl (cI, 6, .inl Na)), (ya, .inl (cZ, 6, .inl Ra)), (yb, .inl (cZ, 6, .inl u))]) t.heap) (va_A [(y0, .inr (4, [.int cd, .ref y1, .ref y2, .ref y3, .ref y4, .ref y5, .ref y6, .ref y7, .ref y8, .ref y9, .ref ya, .ref yb, .ref yc, .ref yd, .ref ye, .int md, .int o1, .int o2, .int mo, .ref yf, .ref yg, .ref yh])), (y4, .inl (cI, 10, .inl Fa)), (y5, .inl (cI, 10, .inl Ta)), (y6, .inl (cZ, 10, .inl La)), (y7, .inl (cI, 6, .inl Ga)), (y8, .inl (cZ, 6, .inl Ca)), (y9, .inl (cI, 6, .inl Na)), (ya, .inl (cZ, 6, .inl Ra)), (yb, .inl (cZ, 6, .inl Ka))] sz)) 0 0 (va_A [(y0, .inr (4, [.int cd, .ref y1, .ref y2, .ref y3, .ref y4, .ref y5, .ref y6, .ref y7, .ref y8, .ref y9, .ref ya, .ref yb, .ref yc, .ref yd, .ref ye, .int md, .int o1, .int o2, .int mo, .ref yf, .ref yg, .ref yh])), (y4, .inl (cI, 10, .inl Fa)), (y5, .inl (cI, 10, .inl Ta)), (y6, .inl (cZ, 10, .inl La)), (y7, .inl (cI, 6, .inl Ga)), (y8, .inl (cZ, 6, .inl Ca)), (y9, .inl (cI, 6, .inl Na)), (ya, .inl (cZ, 6, .inl Ra)), (yb, .inl (cZ, 6, .inl Ka))] sz) := by
  refine Met.ofW (cc := cX4_takes) (maxL := 4) (ret := (some .boolean)) (by decide) rfl ?_
  intro p e s m args below meth c s₁ B hml hv
  obtain ⟨rfl, hsz, hP, hz, hD0⟩ := hv
  have hx := B.exec
  have hb := B.bytes
  have hr := B.returns
  have hts := atoms_spec (ws := (Cond.code yX4_takes cX4_takes 4 (some .boolean) :: hwG)) B.pre
  have htg := fun w h => hts w (List.mem_cons_of_mem _ h)
  have hown : s.vm.findClass RX4 = some m.cls := findClass_of_methodNamed B.named
  have hlocks := B.notSynchronized
  have hK := hz.1
  subst hsz
  have hD := hD0.self (sz := s.heap.size)
  generalize hAe : va_A [(y0, .inr (4, [.int cd, .ref y1, .ref y2, .ref y3, .ref y4, .ref y5, .ref y6, .ref y7, .ref y8, .ref y9, .ref ya, .ref yb, .ref yc, .ref yd, .ref ye, .int md, .int o1, .int o2, .int mo, .ref yf, .ref yg, .ref yh])), (y4, .inl (cI, 10, .inl Fa)), (y5, .inl (cI, 10, .inl Ta)), (y6, .inl (cZ, 10, .inl La)), (y7, .inl (cI, 6, .inl Ga)), (y8, .inl (cZ, 6, .inl Ca)), (y9, .inl (cI, 6, .inl Na)), (ya, .inl (cZ, 6, .inl Ra)), (yb, .inl (cZ, 6, .inl Ka))] s.heap.size = A at hD ⊢
  have hA : ∀ q : Nat, s.heap.size ≤ q → A q := fun q h => by rw [← hAe]; exact Or.inr h
  have hS : va_S A s.heap s.heap [] := va_S.rf
  have hl := lv_entry ([.ref y0, .int (nI px)]) (n := 4) (Nat.le_of_ble_eq_true rfl)
  rw [lg_entry_eq]
  generalize (lg_sl ([.ref y0, .int (nI px)]) ++ List.replicate (4 - (lg_sl ([.ref y0, .int (nI px)])).length) Slot.unset).toArray = ls at hl ⊢
  replace hl : lv_has ls 4 [(0, .ref y0), (1, .int (nI px))] := hl
  replace hP : va_P D vwCl [(y0, .inr (4, [.int cd, .ref y1, .ref y2, .ref y3, .ref y4, .ref y5, .ref y6, .ref y7, .ref y8, .ref y9, .ref ya, .ref yb, .ref yc, .ref yd, .ref ye, .int md, .int o1, .int o2, .int mo, .ref yf, .ref yg, .ref yh])), (y4, .inl (cI, 10, .inl Fa)), (y5, .inl (cI, 10, .inl Ta)), (y6, .inl (cZ, 10, .inl La)), (y7, .inl (cI, 6, .inl Ga)), (y8, .inl (cZ, 6, .inl Ca)), (y9, .inl (cI, 6, .inl Na)), (ya, .inl (cZ, 6, .inl Ra)), (yb, .inl (cZ, 6, .inl Ka))] s.heap := hP
  obtain ⟨f1, f2, f3, f4, f5⟩ := hM.2.2 px hp
  have hvf := hv _ f2
  have hvt := hv _ f4
  refine lv_aload_n hx hb dX4_takes_0 rfl (lv_at hl 0 rfl) ?_
  refine va_get (D := D) (ci := 4) (v := .ref y7) (C := RX4) (T := TX4) (N := 22) hx hb htg hi_X4 hown hK hP 0 rfl rfl 7 (by decide) (htg _ hm_503) (fun _ h9 => h9) rfl dX4_takes_1 ?_
  refine lv_aload_n hx hb dX4_takes_4 rfl (lv_at hl 0 rfl) ?_
  refine va_get (D := D) (ci := 4) (v := .ref y4) (C := RX4) (T := TX4) (N := 22) hx hb htg hi_X4 hown hK hP 0 rfl rfl 4 (by decide) (htg _ hm_500) (fun _ h9 => h9) rfl dX4_takes_5 ?_
  refine lv_iload_n hx hb dX4_takes_8 rfl (lv_at hl 1 rfl) ?_
  refine hw_iald hx hb hK hP 1 0 rfl rfl (j := px) (by omega) (by first | decide | omega) (v := nI (FA px)) ((hM.2.2 px (by omega)).1) dX4_takes_9 ?_
  refine hw_iald hx hb hK hP 4 0 rfl rfl (j := (FA px)) (by omega) (by first | decide | omega) (v := nI (v (FA px))) (hG (FA px) (by first | omega | assumption)) dX4_takes_10 ?_
  refine lv_istore_n hx hb dX4_takes_11 rfl hl (by decide) rfl (fun ls hl => ?_)
  replace hl : lv_has ls 4 [(2, .int (nI (v (FA px)))), (0, .ref y0), (1, .int (nI px))] := hl
  refine lv_aload_n hx hb dX4_takes_12 rfl (lv_at hl 1 rfl) ?_
  refine va_get (D := D) (ci := 4) (v := .ref y7) (C := RX4) (T := TX4) (N := 22) hx hb htg hi_X4 hown hK hP 0 rfl rfl 7 (by decide) (htg _ hm_503) (fun _ h9 => h9) rfl dX4_takes_13 ?_
  refine lv_aload_n hx hb dX4_takes_16 rfl (lv_at hl 1 rfl) ?_
  refine va_get (D := D) (ci := 4) (v := .ref y5) (C := RX4) (T := TX4) (N := 22) hx hb htg hi_X4 hown hK hP 0 rfl rfl 5 (by decide) (htg _ hm_501) (fun _ h9 => h9) rfl dX4_takes_17 ?_
  refine lv_iload_n hx hb dX4_takes_20 rfl (lv_at hl 2 rfl) ?_
  refine hw_iald hx hb hK hP 2 0 rfl rfl (j := px) (by omega) (by first | decide | omega) (v := nI (TA px)) ((hM.2.2 px (by omega)).2.2.1) dX4_takes_21 ?_
  refine hw_iald hx hb hK hP 4 0 rfl rfl (j := (TA px)) (by omega) (by first | decide | omega) (v := nI (v (TA px))) (hG (TA px) (by first | omega | assumption)) dX4_takes_22 ?_
  refine lv_istore_n hx hb dX4_takes_23 rfl hl (by decide) rfl (fun ls hl => ?_)
  replace hl : lv_has ls 4 [(3, .int (nI (v (TA px)))), (2, .int (nI (v (FA px)))), (0, .ref y0), (1, .int (nI px))] := hl
  refine lv_aload_n hx hb dX4_takes_24 rfl (lv_at hl 2 rfl) ?_
  refine va_get (D := D) (ci := 4) (v := .ref y6) (C := RX4) (T := TX4) (N := 22) hx hb htg hi_X4 hown hK hP 0 rfl rfl 6 (by decide) (htg _ hm_502) (fun _ h9 => h9) rfl dX4_takes_25 ?_
  refine lv_iload_n hx hb dX4_takes_28 rfl (lv_at hl 3 rfl) ?_
  refine hw_zald hx hb hK hP 3 1 rfl rfl (j := px) (by omega) (by first | decide | omega) (v := hc_b (LA px)) ((hM.2.2 px (by omega)).2.2.2.2) dX4_takes_29 ?_
  refine hw_ifne_b hx hb dX4_takes_30 rfl (fun hI => ?_) (fun hI => ?_)
  · obtain ⟨H, e_H⟩ : ∃ z : Heap, z = s.heap := ⟨_, rfl⟩
    obtain ⟨locs, e_locs⟩ : ∃ z : List Loc, z = [] := ⟨_, rfl⟩
    replace hP : va_P D vwCl [(y0, .inr (4, [.int cd, .ref y1, .ref y2, .ref y3, .ref y4, .ref y5, .ref y6, .ref y7, .ref y8, .ref y9, .ref ya, .ref yb, .ref yc, .ref yd, .ref ye, .int md, .int o1, .int o2, .int mo, .ref yf, .ref yg, .ref yh])), (y4, .inl (cI, 10, .inl Fa)), (y5, .inl (cI, 10, .inl Ta)), (y6, .inl (cZ, 10, .inl La)), (y7, .inl (cI, 6, .inl Ga)), (y8, .inl (cZ, 6, .inl Ca)), (y9, .inl (cI, 6, .inl Na)), (ya, .inl (cZ, 6, .inl Ra)), (yb, .inl (cZ, 6, .inl Ka))] H := by subst e_H; exact hP
    replace hS : va_S A s.heap H locs := by subst e_H e_locs; exact hS
    rw [← e_H, ← e_locs]
    clear e_H e_locs
    obtain ⟨gg, e_gg⟩ : ∃ z : Nat, z = v (FA px) := ⟨_, rfl⟩
    obtain ⟨T1, e_T1⟩ : ∃ z : Nat → Bool, z = T := ⟨_, rfl⟩
    obtain ⟨K1, e_K1⟩ : ∃ z : Nat → Int32, z = Ka := ⟨_, rfl⟩
    replace hl : lv_has ls 4 [(3, .int (nI (v (TA px)))), (2, .int (nI gg)), (0, .ref y0), (1, .int (nI px))] := by subst e_gg e_T1 e_K1; exact hl
    replace hP : va_P D vwCl [(y0, .inr (4, [.int cd, .ref y1, .ref y2, .ref y3, .ref y4, .ref y5, .ref y6, .ref y7, .ref y8, .ref y9, .ref ya, .ref yb, .ref yc, .ref yd, .ref ye, .int md, .int o1, .int o2, .int mo, .ref yf, .ref yg, .ref yh])), (y4, .inl (cI, 10, .inl Fa)), (y5, .inl (cI, 10, .inl Ta)), (y6, .inl (cZ, 10, .inl La)), (y7, .inl (cI, 6, .inl Ga)), (y8, .inl (cZ, 6, .inl Ca)), (y9, .inl (cI, 6, .inl Na)), (ya, .inl (cZ, 6, .inl Ra)), (yb, .inl (cZ, 6, .inl K1))] H := by subst e_gg e_T1 e_K1; exact hP
    replace hD : va_D A [(y0, .inr (4, [.int cd, .ref y1, .ref y2, .ref y3, .ref y4, .ref y5, .ref y6, .ref y7, .ref y8, .ref y9, .ref ya, .ref yb, .ref yc, .ref yd, .ref ye, .int md, .int o1, .int o2, .int mo, .ref yf, .ref yg, .ref yh])), (y4, .inl (cI, 10, .inl Fa)), (y5, .inl (cI, 10, .inl Ta)), (y6, .inl (cZ, 10, .inl La)), (y7, .inl (cI, 6, .inl Ga)), (y8, .inl (cZ, 6, .inl Ca)), (y9, .inl (cI, 6, .inl Na)), (ya, .inl (cZ, 6, .inl Ra)), (yb, .inl (cZ, 6, .inl K1))] := by subst e_gg e_T1 e_K1; exact hD
    have hi : hk_I nx (v (TA px)) T T1 (v (FA px)) gg := by subst e_gg e_T1 e_K1; exact hk_I0
    have hK1 : ∀ j, j < 6 → K1 j = hc_b (T1 j) := by subst e_gg e_T1 e_K1; exact hT
    have hg6 : gg < 6 := by subst e_gg e_T1 e_K1; exact hvf
    clear e_gg e_T1 e_K1
    obtain ⟨k, hk⟩ : ∃ k : Nat, k = hk_c T1 + 1 := ⟨_, rfl⟩
    induction k generalizing gg T1 K1 ls H locs  with
    | zero =>
      omega
    | succ k ih =>
      refine lv_iload_n hx hb dX4_takes_81 rfl (lv_at hl 1 rfl) ?_
      refine lv_iload_n hx hb dX4_takes_82 rfl (lv_at hl 0 rfl) ?_
      refine hw_icmp_eq hx hb (by omega) (by omega) dX4_takes_83 rfl (fun hc => ?_) (fun hc => ?_)
      · rw [hc] at hi
        refine lv_iconst (v := nI 1) hx hb dX4_takes_123 (by decide) ?_
        exact W.zret (v := nI 1) hx hb hr (by decide +kernel) (fun t9 ht9 hW9 => ⟨⟨_, K1, rfl, Or.inl ⟨rfl, by obtain ⟨l9, h1, h2, h3⟩ := hk_Ie hi; exact ⟨l9, T1, ⟨fun _ => h1, fun q => absurd (hI.symm.trans q) (by decide)⟩, h2, hK1, fun j _ => h3 j⟩⟩, by show va_P D vwCl [(y0, .inr (4, [.int cd, .ref y1, .ref y2, .ref y3, .ref y4, .ref y5, .ref y6, .ref y7, .ref y8, .ref y9, .ref ya, .ref yb, .ref yc, .ref yd, .ref ye, .int md, .int o1, .int o2, .int mo, .ref yf, .ref yg, .ref yh])), (y4, .inl (cI, 10, .inl Fa)), (y5, .inl (cI, 10, .inl Ta)), (y6, .inl (cZ, 10, .inl La)), (y7, .inl (cI, 6, .inl Ga)), (y8, .inl (cZ, 6, .inl Ca)), (y9, .inl (cI, 6, .inl Na)), (ya, .inl (cZ, 6, .inl Ra)), (yb, .inl (cZ, 6, .inl K1))] t9.heap; rw [ht9]; exact hP⟩, hS.F ht9⟩) hS.2.2 dX4_takes_124
      · cases hn : nx gg with
        | none =>
          refine lv_aload_n hx hb dX4_takes_86 rfl (lv_at hl 2 rfl) ?_
          refine va_get (D := D) (ci := 4) (v := .ref y8) (C := RX4) (T := TX4) (N := 22) hx hb htg hi_X4 hown hK hP 0 rfl rfl 8 (by decide) (htg _ hm_504) (fun _ h9 => h9) rfl dX4_takes_87 ?_
          refine lv_iload_n hx hb dX4_takes_90 rfl (lv_at hl 1 rfl) ?_
          refine hw_zald hx hb hK hP 5 1 rfl rfl (j := gg) (by omega) (by first | decide | omega) (v := hc_b false) ((hN.2 _ hg6).1 hn) dX4_takes_91 ?_
          refine hw_ifeq_b hx hb dX4_takes_92 rfl (fun hc9 => ?_) (fun hc9 => absurd hc9 (by decide))
          refine lv_iconst (v := nI 0) hx hb dX4_takes_104 (by decide) ?_
          exact W.zret (v := nI 0) hx hb hr (by decide +kernel) (fun t9 ht9 hW9 => ⟨⟨_, K1, rfl, Or.inr ⟨rfl, fun ⟨l9, h1, h2⟩ => hk_In hi hc (fun z hz => by rw [hn] at hz; cases hz) ⟨l9, h1.1 hI, h2⟩⟩, by show va_P D vwCl [(y0, .inr (4, [.int cd, .ref y1, .ref y2, .ref y3, .ref y4, .ref y5, .ref y6, .ref y7, .ref y8, .ref y9, .ref ya, .ref yb, .ref yc, .ref yd, .ref ye, .int md, .int o1, .int o2, .int mo, .ref yf, .ref yg, .ref yh])), (y4, .inl (cI, 10, .inl Fa)), (y5, .inl (cI, 10, .inl Ta)), (y6, .inl (cZ, 10, .inl La)), (y7, .inl (cI, 6, .inl Ga)), (y8, .inl (cZ, 6, .inl Ca)), (y9, .inl (cI, 6, .inl Na)), (ya, .inl (cZ, 6, .inl Ra)), (yb, .inl (cZ, 6, .inl K1))] t9.heap; rw [ht9]; exact hP⟩, hS.F ht9⟩) hS.2.2 dX4_takes_105
        | some zz =>
          obtain ⟨c1, c2, c3, c4⟩ := (hN.2 _ hg6).2 zz hn
          refine lv_aload_n hx hb dX4_takes_86 rfl (lv_at hl 2 rfl) ?_
          refine va_get (D := D) (ci := 4) (v := .ref y8) (C := RX4) (T := TX4) (N := 22) hx hb htg hi_X4 hown hK hP 0 rfl rfl 8 (by decide) (htg _ hm_504) (fun _ h9 => h9) rfl dX4_takes_87 ?_
          refine lv_iload_n hx hb dX4_takes_90 rfl (lv_at hl 1 rfl) ?_
          refine hw_zald hx hb hK hP 5 1 rfl rfl (j := gg) (by omega) (by first | decide | omega) (v := hc_b true) (c1) dX4_takes_91 ?_
          refine hw_ifeq_b hx hb dX4_takes_92 rfl (fun hc9 => absurd hc9 (by decide)) (fun hc9 => ?_)
          refine lv_aload_n hx hb dX4_takes_95 rfl (lv_at hl 2 rfl) ?_
          refine va_get (D := D) (ci := 4) (v := .ref yb) (C := RX4) (T := TX4) (N := 22) hx hb htg hi_X4 hown hK hP 0 rfl rfl 11 (by decide) (htg _ hm_507) (fun _ h9 => h9) rfl dX4_takes_96 ?_
          refine lv_iload_n hx hb dX4_takes_99 rfl (lv_at hl 1 rfl) ?_
          refine hw_zald hx hb hK hP 8 1 rfl rfl (j := gg) (by omega) (by first | decide | omega) (v := hc_b (T1 gg)) (hK1 gg (by omega)) dX4_takes_100 ?_
          refine hw_ifeq_b hx hb dX4_takes_101 rfl (fun ht1 => ?_) (fun ht1 => ?_)
          · refine lv_aload_n hx hb dX4_takes_106 rfl (lv_at hl 2 rfl) ?_
            refine va_get (D := D) (ci := 4) (v := .ref yb) (C := RX4) (T := TX4) (N := 22) hx hb htg hi_X4 hown hK hP 0 rfl rfl 11 (by decide) (htg _ hm_507) (fun _ h9 => h9) rfl dX4_takes_107 ?_
            refine lv_iload_n hx hb dX4_takes_110 rfl (lv_at hl 1 rfl) ?_
            refine lv_iconst (v := nI 1) hx hb dX4_takes_111 (by decide) ?_
            refine hw_zast hx hb hK hP hD hS 8 1 rfl rfl (j := gg) (by omega) (by first | decide | omega) dX4_takes_112 (fun H locs hP hD hS => ?_)
            rw [hw_nar1] at hP hD
            replace hP : va_P D vwCl [(y0, .inr (4, [.int cd, .ref y1, .ref y2, .ref y3, .ref y4, .ref y5, .ref y6, .ref y7, .ref y8, .ref y9, .ref ya, .ref yb, .ref yc, .ref yd, .ref ye, .int md, .int o1, .int o2, .int mo, .ref yf, .ref yg, .ref yh])), (y4, .inl (cI, 10, .inl Fa)), (y5, .inl (cI, 10, .inl Ta)), (y6, .inl (cZ, 10, .inl La)), (y7, .inl (cI, 6, .inl Ga)), (y8, .inl (cZ, 6, .inl Ca)), (y9, .inl (cI, 6, .inl Na)), (ya, .inl (cZ, 6, .inl Ra)), (yb, .inl (cZ, 6, .inl (upd K1 gg (hc_b true))))] H := hP
            replace hD : va_D A [(y0, .inr (4, [.int cd, .ref y1, .ref y2, .ref y3, .ref y4, .ref y5, .ref y6, .ref y7, .ref y8, .ref y9, .ref ya, .ref yb, .ref yc, .ref yd, .ref ye, .int md, .int o1, .int o2, .int mo, .ref yf, .ref yg, .ref yh])), (y4, .inl (cI, 10, .inl Fa)), (y5, .inl (cI, 10, .inl Ta)), (y6, .inl (cZ, 10, .inl La)), (y7, .inl (cI, 6, .inl Ga)), (y8, .inl (cZ, 6, .inl Ca)), (y9, .inl (cI, 6, .inl Na)), (ya, .inl (cZ, 6, .inl Ra)), (yb, .inl (cZ, 6, .inl (upd K1 gg (hc_b true))))] := hD
            refine lv_aload_n hx hb dX4_takes_113 rfl (lv_at hl 2 rfl) ?_
            refine va_get (D := D) (ci := 4) (v := .ref y9) (C := RX4) (T := TX4) (N := 22) hx hb htg hi_X4 hown hK hP 0 rfl rfl 9 (by decide) (htg _ hm_505) (fun _ h9 => h9) rfl dX4_takes_114 ?_
            refine lv_iload_n hx hb dX4_takes_117 rfl (lv_at hl 1 rfl) ?_
            refine hw_iald hx hb hK hP 6 0 rfl rfl (j := gg) (by omega) (by first | decide | omega) (v := nI zz) (c3) dX4_takes_118 ?_
            refine lv_istore_n hx hb dX4_takes_119 rfl hl (by decide) rfl (fun ls hl => ?_)
            replace hl : lv_has ls 4 [(2, .int (nI zz)), (3, .int (nI (v (TA px)))), (0, .ref y0), (1, .int (nI px))] := hl
            refine lv_goto hx hb dX4_takes_120 rfl ?_
            replace hl : lv_has ls 4 [(3, .int (nI (v (TA px)))), (2, .int (nI zz)), (0, .ref y0), (1, .int (nI px))] := lv_sub hl [1, 0, 2, 3] rfl
            refine ih (hS := hS) (hl := hl) (hP := hP) (hD := hD) (hi := (hk_I1 hi hc hn ht1)) (hK1 := (fun j hj => hw_updb hK1 _ true j hj)) (hg6 := c2) (hk := (by have := hk_c_up hg6 ht1; omega))
          · refine lv_iconst (v := nI 0) hx hb dX4_takes_104 (by decide) ?_
            exact W.zret (v := nI 0) hx hb hr (by decide +kernel) (fun t9 ht9 hW9 => ⟨⟨_, K1, rfl, Or.inr ⟨rfl, fun ⟨l9, h1, h2⟩ => hk_In hi hc (fun z hz => ht1) ⟨l9, h1.1 hI, h2⟩⟩, by show va_P D vwCl [(y0, .inr (4, [.int cd, .ref y1, .ref y2, .ref y3, .ref y4, .ref y5, .ref y6, .ref y7, .ref y8, .ref y9, .ref ya, .ref yb, .ref yc, .ref yd, .ref ye, .int md, .int o1, .int o2, .int mo, .ref yf, .ref yg, .ref yh])), (y4, .inl (cI, 10, .inl Fa)), (y5, .inl (cI, 10, .inl Ta)), (y6, .inl (cZ, 10, .inl La)), (y7, .inl (cI, 6, .inl Ga)), (y8, .inl (cZ, 6, .inl Ca)), (y9, .inl (cI, 6, .inl Na)), (ya, .inl (cZ, 6, .inl Ra)), (yb, .inl (cZ, 6, .inl K1))] t9.heap; rw [ht9]; exact hP⟩, hS.F ht9⟩) hS.2.2 dX4_takes_105
  · cases hn : nx (v (FA px)) with
    | none =>
      refine lv_aload_n hx hb dX4_takes_33 rfl (lv_at hl 2 rfl) ?_
      refine va_get (D := D) (ci := 4) (v := .ref y8) (C := RX4) (T := TX4) (N := 22) hx hb htg hi_X4 hown hK hP 0 rfl rfl 8 (by decide) (htg _ hm_504) (fun _ h9 => h9) rfl dX4_takes_34 ?_
      refine lv_iload_n hx hb dX4_takes_37 rfl (lv_at hl 1 rfl) ?_
      refine hw_zald hx hb hK hP 5 1 rfl rfl (j := (v (FA px))) (by omega) (by first | decide | omega) (v := hc_b false) ((hN.2 _ hvf).1 hn) dX4_takes_38 ?_
      refine hw_ifeq_b hx hb dX4_takes_39 rfl (fun hc9 => ?_) (fun hc9 => absurd hc9 (by decide))
      refine lv_iconst (v := nI 0) hx hb dX4_takes_70 (by decide) ?_
      exact W.zret (v := nI 0) hx hb hr (by decide +kernel) (fun t9 ht9 hW9 => ⟨⟨_, Ka, rfl, Or.inr ⟨rfl, fun ⟨l9, h1, h2⟩ => (by have h9 := (h1.2 hI).2.1; rw [hn] at h9; cases h9)⟩, by show va_P D vwCl [(y0, .inr (4, [.int cd, .ref y1, .ref y2, .ref y3, .ref y4, .ref y5, .ref y6, .ref y7, .ref y8, .ref y9, .ref ya, .ref yb, .ref yc, .ref yd, .ref ye, .int md, .int o1, .int o2, .int mo, .ref yf, .ref yg, .ref yh])), (y4, .inl (cI, 10, .inl Fa)), (y5, .inl (cI, 10, .inl Ta)), (y6, .inl (cZ, 10, .inl La)), (y7, .inl (cI, 6, .inl Ga)), (y8, .inl (cZ, 6, .inl Ca)), (y9, .inl (cI, 6, .inl Na)), (ya, .inl (cZ, 6, .inl Ra)), (yb, .inl (cZ, 6, .inl Ka))] t9.heap; rw [ht9]; exact hP⟩, hS.F ht9⟩) hS.2.2 dX4_takes_71
    | some zz =>
      obtain ⟨c1, c2, c3, c4⟩ := (hN.2 _ hvf).2 zz hn
      refine lv_aload_n hx hb dX4_takes_33 rfl (lv_at hl 2 rfl) ?_
      refine va_get (D := D) (ci := 4) (v := .ref y8) (C := RX4) (T := TX4) (N := 22) hx hb htg hi_X4 hown hK hP 0 rfl rfl 8 (by decide) (htg _ hm_504) (fun _ h9 => h9) rfl dX4_takes_34 ?_
      refine lv_iload_n hx hb dX4_takes_37 rfl (lv_at hl 1 rfl) ?_
      refine hw_zald hx hb hK hP 5 1 rfl rfl (j := (v (FA px))) (by omega) (by first | decide | omega) (v := hc_b true) (c1) dX4_takes_38 ?_
      refine hw_ifeq_b hx hb dX4_takes_39 rfl (fun hc9 => absurd hc9 (by decide)) (fun hc9 => ?_)
      refine lv_aload_n hx hb dX4_takes_42 rfl (lv_at hl 2 rfl) ?_
      refine va_get (D := D) (ci := 4) (v := .ref yb) (C := RX4) (T := TX4) (N := 22) hx hb htg hi_X4 hown hK hP 0 rfl rfl 11 (by decide) (htg _ hm_507) (fun _ h9 => h9) rfl dX4_takes_43 ?_
      refine lv_iload_n hx hb dX4_takes_46 rfl (lv_at hl 1 rfl) ?_
      refine hw_zald hx hb hK hP 8 1 rfl rfl (j := (v (FA px))) (by omega) (by first | decide | omega) (v := hc_b (T (v (FA px)))) (hT (v (FA px)) (by omega)) dX4_takes_47 ?_
      refine hw_ifne_b hx hb dX4_takes_48 rfl (fun h3 => ?_) (fun h3 => ?_)
      · refine lv_iconst (v := nI 0) hx hb dX4_takes_70 (by decide) ?_
        exact W.zret (v := nI 0) hx hb hr (by decide +kernel) (fun t9 ht9 hW9 => ⟨⟨_, Ka, rfl, Or.inr ⟨rfl, fun ⟨l9, h1, h2⟩ => (by have h9 := h2 (v (FA px)) (by rw [(h1.2 hI).1]; exact List.mem_cons_self); rw [h3] at h9; cases h9)⟩, by show va_P D vwCl [(y0, .inr (4, [.int cd, .ref y1, .ref y2, .ref y3, .ref y4, .ref y5, .ref y6, .ref y7, .ref y8, .ref y9, .ref ya, .ref yb, .ref yc, .ref yd, .ref ye, .int md, .int o1, .int o2, .int mo, .ref yf, .ref yg, .ref yh])), (y4, .inl (cI, 10, .inl Fa)), (y5, .inl (cI, 10, .inl Ta)), (y6, .inl (cZ, 10, .inl La)), (y7, .inl (cI, 6, .inl Ga)), (y8, .inl (cZ, 6, .inl Ca)), (y9, .inl (cI, 6, .inl Na)), (ya, .inl (cZ, 6, .inl Ra)), (yb, .inl (cZ, 6, .inl Ka))] t9.heap; rw [ht9]; exact hP⟩, hS.F ht9⟩) hS.2.2 dX4_takes_71
      · refine lv_aload_n hx hb dX4_takes_51 rfl (lv_at hl 2 rfl) ?_
        refine va_get (D := D) (ci := 4) (v := .ref ya) (C := RX4) (T := TX4) (N := 22) hx hb htg hi_X4 hown hK hP 0 rfl rfl 10 (by decide) (htg _ hm_506) (fun _ h9 => h9) rfl dX4_takes_52 ?_
        refine lv_iload_n hx hb dX4_takes_55 rfl (lv_at hl 1 rfl) ?_
        refine hw_zald hx hb hK hP 7 1 rfl rfl (j := (v (FA px))) (by omega) (by first | decide | omega) (v := hc_b (lg (v (FA px)))) (c4) dX4_takes_56 ?_
        refine hw_ifne_b hx hb dX4_takes_57 rfl (fun h4 => ?_) (fun h4 => ?_)
        · refine lv_iconst (v := nI 0) hx hb dX4_takes_70 (by decide) ?_
          exact W.zret (v := nI 0) hx hb hr (by decide +kernel) (fun t9 ht9 hW9 => ⟨⟨_, Ka, rfl, Or.inr ⟨rfl, fun ⟨l9, h1, h2⟩ => (by have h9 := (h1.2 hI).2.2; rw [h4] at h9; cases h9)⟩, by show va_P D vwCl [(y0, .inr (4, [.int cd, .ref y1, .ref y2, .ref y3, .ref y4, .ref y5, .ref y6, .ref y7, .ref y8, .ref y9, .ref ya, .ref yb, .ref yc, .ref yd, .ref ye, .int md, .int o1, .int o2, .int mo, .ref yf, .ref yg, .ref yh])), (y4, .inl (cI, 10, .inl Fa)), (y5, .inl (cI, 10, .inl Ta)), (y6, .inl (cZ, 10, .inl La)), (y7, .inl (cI, 6, .inl Ga)), (y8, .inl (cZ, 6, .inl Ca)), (y9, .inl (cI, 6, .inl Na)), (ya, .inl (cZ, 6, .inl Ra)), (yb, .inl (cZ, 6, .inl Ka))] t9.heap; rw [ht9]; exact hP⟩, hS.F ht9⟩) hS.2.2 dX4_takes_71
        · refine lv_aload_n hx hb dX4_takes_60 rfl (lv_at hl 2 rfl) ?_
          refine va_get (D := D) (ci := 4) (v := .ref y9) (C := RX4) (T := TX4) (N := 22) hx hb htg hi_X4 hown hK hP 0 rfl rfl 9 (by decide) (htg _ hm_505) (fun _ h9 => h9) rfl dX4_takes_61 ?_
          refine lv_iload_n hx hb dX4_takes_64 rfl (lv_at hl 1 rfl) ?_
          refine hw_iald hx hb hK hP 6 0 rfl rfl (j := (v (FA px))) (by omega) (by first | decide | omega) (v := nI zz) (c3) dX4_takes_65 ?_
          refine lv_iload_n hx hb dX4_takes_66 rfl (lv_at hl 0 rfl) ?_
          refine hw_icmp_eq hx hb (by omega) (by omega) dX4_takes_67 rfl (fun h5 => ?_) (fun h5 => ?_)
          · refine lv_aload_n hx hb dX4_takes_72 rfl (lv_at hl 2 rfl) ?_
            refine va_get (D := D) (ci := 4) (v := .ref yb) (C := RX4) (T := TX4) (N := 22) hx hb htg hi_X4 hown hK hP 0 rfl rfl 11 (by decide) (htg _ hm_507) (fun _ h9 => h9) rfl dX4_takes_73 ?_
            refine lv_iload_n hx hb dX4_takes_76 rfl (lv_at hl 1 rfl) ?_
            refine lv_iconst (v := nI 1) hx hb dX4_takes_77 (by decide) ?_
            refine hw_zast hx hb hK hP hD hS 8 1 rfl rfl (j := (v (FA px))) (by omega) (by first | decide | omega) dX4_takes_78 (fun H locs hP hD hS => ?_)
            rw [hw_nar1] at hP hD
            replace hP : va_P D vwCl [(y0, .inr (4, [.int cd, .ref y1, .ref y2, .ref y3, .ref y4, .ref y5, .ref y6, .ref y7, .ref y8, .ref y9, .ref ya, .ref yb, .ref yc, .ref yd, .ref ye, .int md, .int o1, .int o2, .int mo, .ref yf, .ref yg, .ref yh])), (y4, .inl (cI, 10, .inl Fa)), (y5, .inl (cI, 10, .inl Ta)), (y6, .inl (cZ, 10, .inl La)), (y7, .inl (cI, 6, .inl Ga)), (y8, .inl (cZ, 6, .inl Ca)), (y9, .inl (cI, 6, .inl Na)), (ya, .inl (cZ, 6, .inl Ra)), (yb, .inl (cZ, 6, .inl (upd Ka (v (FA px)) (hc_b true))))] H := hP
            replace hD : va_D A [(y0, .inr (4, [.int cd, .ref y1, .ref y2, .ref y3, .ref y4, .ref y5, .ref y6, .ref y7, .ref y8, .ref y9, .ref ya, .ref yb, .ref yc, .ref yd, .ref ye, .int md, .int o1, .int o2, .int mo, .ref yf, .ref yg, .ref yh])), (y4, .inl (cI, 10, .inl Fa)), (y5, .inl (cI, 10, .inl Ta)), (y6, .inl (cZ, 10, .inl La)), (y7, .inl (cI, 6, .inl Ga)), (y8, .inl (cZ, 6, .inl Ca)), (y9, .inl (cI, 6, .inl Na)), (ya, .inl (cZ, 6, .inl Ra)), (yb, .inl (cZ, 6, .inl (upd Ka (v (FA px)) (hc_b true))))] := hD
            refine lv_iconst (v := nI 1) hx hb dX4_takes_79 (by decide) ?_
            exact W.zret (v := nI 1) hx hb hr (by decide +kernel) (fun t9 ht9 hW9 => ⟨⟨_, upd Ka (v (FA px)) (hc_b true), rfl, Or.inl ⟨rfl, [v (FA px)], va_up T (v (FA px)) true, ⟨fun q => absurd (hI.symm.trans q) (by decide), fun _ => ⟨rfl, by rw [hn, h5], h4⟩⟩, fun a ha => by rw [List.mem_singleton.mp ha]; exact h3, fun j hj => hw_updb hT _ true j hj, fun j _ => hk_T1 _ j⟩, by show va_P D vwCl [(y0, .inr (4, [.int cd, .ref y1, .ref y2, .ref y3, .ref y4, .ref y5, .ref y6, .ref y7, .ref y8, .ref y9, .ref ya, .ref yb, .ref yc, .ref yd, .ref ye, .int md, .int o1, .int o2, .int mo, .ref yf, .ref yg, .ref yh])), (y4, .inl (cI, 10, .inl Fa)), (y5, .inl (cI, 10, .inl Ta)), (y6, .inl (cZ, 10, .inl La)), (y7, .inl (cI, 6, .inl Ga)), (y8, .inl (cZ, 6, .inl Ca)), (y9, .inl (cI, 6, .inl Na)), (ya, .inl (cZ, 6, .inl Ra)), (yb, .inl (cZ, 6, .inl (upd Ka (v (FA px)) (hc_b true))))] t9.heap; rw [ht9]; exact hP⟩, hS.F ht9⟩) hS.2.2 dX4_takes_80
          · refine lv_iconst (v := nI 0) hx hb dX4_takes_70 (by decide) ?_
            exact W.zret (v := nI 0) hx hb hr (by decide +kernel) (fun t9 ht9 hW9 => ⟨⟨_, Ka, rfl, Or.inr ⟨rfl, fun ⟨l9, h1, h2⟩ => (by have h9 := (h1.2 hI).2.1; rw [hn] at h9; injection h9 with h9; exact h5 h9)⟩, by show va_P D vwCl [(y0, .inr (4, [.int cd, .ref y1, .ref y2, .ref y3, .ref y4, .ref y5, .ref y6, .ref y7, .ref y8, .ref y9, .ref ya, .ref yb, .ref yc, .ref yd, .ref ye, .int md, .int o1, .int o2, .int mo, .ref yf, .ref yg, .ref yh])), (y4, .inl (cI, 10, .inl Fa)), (y5, .inl (cI, 10, .inl Ta)), (y6, .inl (cZ, 10, .inl La)), (y7, .inl (cI, 6, .inl Ga)), (y8, .inl (cZ, 6, .inl Ca)), (y9, .inl (cI, 6, .inl Na)), (ya, .inl (cZ, 6, .inl Ra)), (yb, .inl (cZ, 6, .inl Ka))] t9.heap; rw [ht9]; exact hP⟩, hS.F ht9⟩) hS.2.2 dX4_takes_71
end
