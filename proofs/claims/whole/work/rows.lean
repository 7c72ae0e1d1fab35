section
/-! bits of an Int32; the first family is kit/laws/BITS.to-paste (bt) -/
def bt (x : Int32) (i : Nat) : Bool := x.toBitVec.getLsbD i
theorem b_ext {x y : Int32} (h : ∀ i, i < 32 → bt x i = bt y i) : x = y := Int32.toBitVec_inj.mp (BitVec.eq_of_getLsbD_eq (fun i hi => h i hi))
theorem b_or (x y : Int32) (i : Nat) : bt (x ||| y) i = (bt x i || bt y i) := by unfold bt; rw [Int32.toBitVec_or, BitVec.getLsbD_or]
theorem b_and (x y : Int32) (i : Nat) : bt (x &&& y) i = (bt x i && bt y i) := by unfold bt; rw [Int32.toBitVec_and, BitVec.getLsbD_and]
theorem b_xor (x y : Int32) (i : Nat) : bt (x ^^^ y) i = (bt x i ^^ bt y i) := by unfold bt; rw [Int32.toBitVec_xor, BitVec.getLsbD_xor]
theorem b_big {x : Int32} {i : Nat} (h : 32 ≤ i) : bt x i = false := BitVec.getLsbD_of_ge _ _ h
theorem b_255 (i : Nat) : bt 255 i = decide (i < 8) := by
  rcases Nat.lt_or_ge i 32 with h | h
  · exact (by decide +kernel : ∀ i, i < 32 → bt 255 i = decide (i < 8)) i h
  · rw [b_big h, decide_eq_false (by omega)]
theorem b_65535 (i : Nat) : bt 65535 i = decide (i < 16) := by
  rcases Nat.lt_or_ge i 32 with h | h
  · exact (by decide +kernel : ∀ i, i < 32 → bt 65535 i = decide (i < 16)) i h
  · rw [b_big h, decide_eq_false (by omega)]
theorem b_m1 : ∀ i, i < 32 → bt (-1) i = true := by decide +kernel
theorem b_0 (i : Nat) : bt 0 i = false := BitVec.getLsbD_zero
theorem s_l : ∀ n, n < 32 → ((nI n &&& 31).toBitVec.smod 32).toNat = n := by decide +kernel
theorem s_u : ∀ n, n < 32 → (((nI n).toUInt32 &&& Int32.toUInt32 31).toBitVec % 32).toNat = n := by decide +kernel
theorem b_shl (n : Nat) (hn : n < 32) (x : Int32) {i : Nat} (hi : i < 32) : bt (x <<< (nI n &&& 31)) i = (decide (n ≤ i) && bt x (i - n)) := by
  unfold bt
  rw [Int32.toBitVec_shiftLeft]
  show (x.toBitVec <<< ((nI n &&& 31).toBitVec.smod 32).toNat).getLsbD i = _
  rw [s_l n hn, BitVec.getLsbD_shiftLeft]
  rcases Nat.lt_or_ge i n with h | h
  · simp [h, Nat.not_le.mpr h]
  · simp [hi, h, Nat.not_lt.mpr h]
theorem b_ushr (n : Nat) (hn : n < 32) (x : Int32) (i : Nat) : bt ((x.toUInt32 >>> ((nI n).toUInt32 &&& Int32.toUInt32 31)).toInt32) i = bt x (n + i) := by
  show (x.toUInt32 >>> ((nI n).toUInt32 &&& Int32.toUInt32 31)).toBitVec.getLsbD i = x.toUInt32.toBitVec.getLsbD (n + i)
  rw [UInt32.toBitVec_shiftRight]
  show (x.toUInt32.toBitVec >>> (((nI n).toUInt32 &&& Int32.toUInt32 31).toBitVec % 32).toNat).getLsbD i = _
  rw [s_u n hn, BitVec.getLsbD_ushiftRight]
theorem b_sshr (n : Nat) (hn : n < 32) (x : Int32) {i : Nat} (hi : i < 32) : bt (x >>> (nI n &&& 31)) i = if n + i < 32 then bt x (n + i) else bt x 31 := by
  unfold bt
  rw [Int32.toBitVec_shiftRight]
  show (x.toBitVec.sshiftRight ((nI n &&& 31).toBitVec.smod 32).toNat).getLsbD i = _
  rw [s_l n hn, BitVec.getLsbD_sshiftRight, BitVec.msb_eq_getLsbD_last]
  simp [hi]
/-! own rows on bits -/
theorem hb_1 : ∀ k, k < 32 → ∀ i, i < 32 → bt ((1 : Int32) <<< (nI k &&& 31)) i = decide (i = k) := by decide +kernel
theorem hb_not (x : Int32) {i : Nat} (hi : i < 32) : bt (x ^^^ (-1)) i = !bt x i := by rw [b_xor, b_m1 i hi, Bool.xor_true]
theorem hb_0 {x : Int32} : x = 0 ↔ ∀ i, i < 32 → bt x i = false := ⟨fun h i _ => by rw [h]; exact b_0 i, fun h => b_ext (fun i hi => by rw [h i hi, b_0])⟩
theorem hb_n0 {x : Int32} : x ≠ 0 ↔ ∃ i, i < 32 ∧ bt x i = true := by
  constructor
  · intro h
    by_cases h9 : ∃ i, i < 32 ∧ bt x i = true
    · exact h9
    · exact absurd (hb_0.mpr (fun i hi => by cases hb : bt x i with | false => rfl | true => exact absurd ⟨i, hi, hb⟩ h9)) h
  · rintro ⟨i, hi, h⟩ q
    rw [q, b_0] at h
    cases h
theorem hb_nI (k : Nat) {i : Nat} (hi : i < 32) : bt (nI k) i = k.testBit i := by
  show (BitVec.ofNat 32 k).getLsbD i = _
  rw [BitVec.getLsbD_ofNat]
  simp [hi]
theorem hb_m1 {x : Int32} {i : Nat} (hi : i < 32) (h : bt x i = false) : x ≠ -1 := fun q => by
  rw [q, b_m1 i hi] at h
  cases h
end
section
/-! Paths over a partial next; pieces; what left's pieces make of a state (pure, no machine). -/
def hc_PP (nx : Nat → Option Nat) (e x : Nat) : List Nat → Nat → Prop
  | [], g => g = x
  | a :: l, g => a = g ∧ g ≠ e ∧ ∃ g', nx g = some g' ∧ hc_PP nx e x l g'
/-- from g along nx to e, no node of the list being e -/
def hc_P (nx : Nat → Option Nat) (e : Nat) (l : List Nat) (g : Nat) : Prop := hc_PP nx e e l g
theorem hc_P_nil {nx : Nat → Option Nat} {e g : Nat} : hc_P nx e [] g ↔ g = e := Iff.rfl
theorem hc_P_cons {nx : Nat → Option Nat} {e a g : Nat} {l : List Nat} : hc_P nx e (a :: l) g ↔ a = g ∧ g ≠ e ∧ ∃ g', nx g = some g' ∧ hc_P nx e l g' := Iff.rfl
theorem hc_P_det {nx : Nat → Option Nat} {e : Nat} : ∀ (l l' : List Nat) (g : Nat), hc_P nx e l g → hc_P nx e l' g → l = l' := by
  intro l
  induction l with
  | nil =>
    intro l' g h h'
    cases l' with
    | nil => rfl
    | cons a l' => exact absurd (hc_P_nil.mp h) (hc_P_cons.mp h').2.1
  | cons a l ih =>
    intro l' g h h'
    cases l' with
    | nil => exact absurd (hc_P_nil.mp h') (hc_P_cons.mp h).2.1
    | cons a' l' =>
      obtain ⟨h1, _, x, hx, hp⟩ := hc_P_cons.mp h
      obtain ⟨h1', _, x', hx', hp'⟩ := hc_P_cons.mp h'
      rw [hx] at hx'
      injection hx' with hx'
      rw [← hx'] at hp'
      rw [h1, h1', ih l' x hp hp']
theorem hc_P_ne {nx : Nat → Option Nat} {e : Nat} : ∀ (l : List Nat) (g : Nat), hc_P nx e l g → ∀ b, b ∈ l → b ≠ e ∧ nx b ≠ none := by
  intro l
  induction l with
  | nil => intro g _ b hb; exact absurd hb List.not_mem_nil
  | cons a l ih =>
    intro g h b hb
    obtain ⟨h1, h2, x, hx, hp⟩ := hc_P_cons.mp h
    rcases List.mem_cons.mp hb with hb | hb
    · rw [hb, h1]
      exact ⟨h2, by rw [hx]; exact fun q => nomatch q⟩
    · exact ih x hp b hb
theorem hc_P_head {nx : Nat → Option Nat} {e g : Nat} {l : List Nat} (h : hc_P nx e l g) (hg : g ≠ e) : g ∈ l := by
  cases l with
  | nil => exact absurd (hc_P_nil.mp h) hg
  | cons a l => rw [(hc_P_cons.mp h).1]; exact List.mem_cons_self
theorem hc_P_congr {nx nx' : Nat → Option Nat} {e : Nat} : ∀ (l : List Nat) (g : Nat), hc_P nx e l g → (∀ b, b ∈ l → nx' b = nx b) → hc_P nx' e l g := by
  intro l
  induction l with
  | nil => intro g h _; exact h
  | cons a l ih =>
    intro g h hc
    obtain ⟨h1, h2, x, hx, hp⟩ := hc_P_cons.mp h
    exact hc_P_cons.mpr ⟨h1, h2, x, by rw [← h1, hc a List.mem_cons_self, h1, hx], ih x hp (fun b hb => hc b (List.mem_cons_of_mem _ hb))⟩
theorem hc_P_app {nx : Nat → Option Nat} {e x : Nat} {l2 : List Nat} (h2 : hc_P nx e l2 x) : ∀ (l1 : List Nat) (g : Nat), hc_P nx x l1 g → (∀ b, b ∈ l1 → b ≠ e) → hc_P nx e (l1 ++ l2) g := by
  intro l1
  induction l1 with
  | nil => intro g h _; rw [hc_P_nil.mp h]; exact h2
  | cons a l1 ih =>
    intro g h hb
    obtain ⟨h1, h3, y, hy, hp⟩ := hc_P_cons.mp h
    exact hc_P_cons.mpr ⟨h1, by rw [← h1]; exact hb a List.mem_cons_self, y, hy, ih y hp (fun b h => hb b (List.mem_cons_of_mem _ h))⟩
/-- the path is cut at a, whose next is now the end -/
theorem hc_P_cut {nx nx' : Nat → Option Nat} {e a : Nat} (hn : ∀ b, b ≠ a → nx b ≠ none → nx' b = nx b) (ha : nx' a = some e) : ∀ (l : List Nat) (g : Nat), hc_P nx e l g → a ∈ l → ∃ l', hc_P nx' e l' g ∧ a ∈ l' := by
  intro l
  induction l with
  | nil => intro g _ h; exact absurd h List.not_mem_nil
  | cons b l ih =>
    intro g h hm
    obtain ⟨h1, h2, x, hx, hp⟩ := hc_P_cons.mp h
    by_cases hga : g = a
    · exact ⟨[a], hc_P_cons.mpr ⟨hga.symm, h2, e, by rw [hga]; exact ha, hc_P_nil.mpr rfl⟩, List.mem_cons_self⟩
    · rcases List.mem_cons.mp hm with hm | hm
      · exact absurd (hm.trans h1).symm hga
      · obtain ⟨l', q1, q2⟩ := ih x hp hm
        exact ⟨g :: l', hc_P_cons.mpr ⟨rfl, h2, x, by rw [hn g hga (by rw [hx]; exact fun q => nomatch q)]; exact hx, q1⟩, List.mem_cons_of_mem _ q2⟩
theorem hc_P_suf {nx : Nat → Option Nat} {e : Nat} : ∀ (l : List Nat) (g : Nat), hc_P nx e l g → ∀ a, a ∈ l → ∃ l2, hc_P nx e (a :: l2) a ∧ l2.length < l.length := by
  intro l
  induction l with
  | nil => intro g _ a ha; exact absurd ha List.not_mem_nil
  | cons b l ih =>
    intro g h a ha
    obtain ⟨h1, h2, x, hx, hp⟩ := hc_P_cons.mp h
    rcases List.mem_cons.mp ha with hb | hb
    · have hag : a = g := hb.trans h1
      exact ⟨l, hc_P_cons.mpr ⟨rfl, by rw [hag]; exact h2, x, by rw [hag]; exact hx, hp⟩, by simp⟩
    · obtain ⟨l2, q1, q2⟩ := ih x hp a hb
      exact ⟨l2, q1, by simp only [List.length_cons]; omega⟩
theorem hc_P_nodup {nx : Nat → Option Nat} {e : Nat} : ∀ (l : List Nat) (g : Nat), hc_P nx e l g → l.Nodup := by
  intro l
  induction l with
  | nil => intro g _; exact List.nodup_nil
  | cons b l ih =>
    intro g h
    obtain ⟨h1, h2, x, hx, hp⟩ := hc_P_cons.mp h
    refine List.nodup_cons.mpr ⟨fun hm => ?_, ih x hp⟩
    obtain ⟨l2, q1, q2⟩ := hc_P_suf l x hp b hm
    rw [← h1] at h
    have h3 := hc_P_det _ _ _ h q1
    injection h3 with _ h3
    rw [h3] at q2
    exact absurd q2 (Nat.lt_irrefl _)
/-- a list of different members of M is no longer than M -/
theorem hc_pigeon : ∀ (l M : List Nat), l.Nodup → (∀ a, a ∈ l → a ∈ M) → l.length ≤ M.length := by
  intro l
  induction l with
  | nil => intro M _ _; exact Nat.zero_le _
  | cons a l ih =>
    intro M hn hm
    obtain ⟨h1, h2⟩ := List.nodup_cons.mp hn
    have haM : a ∈ M := hm a List.mem_cons_self
    have h3 := ih (M.erase a) h2 (fun b hb => (List.mem_erase_of_ne (fun q => h1 (by rw [← q]; exact hb))).mpr (hm b (List.mem_cons_of_mem _ hb)))
    rw [List.length_erase_of_mem haM] at h3
    have h4 : 0 < M.length := List.length_pos_of_mem haM
    simp only [List.length_cons]
    omega
def hc_Dj (l l' : List Nat) : Prop := ∀ a, a ∈ l → a ∉ l'
theorem hc_Dj.symm {l l' : List Nat} (h : hc_Dj l l') : hc_Dj l' l := fun a h1 h2 => h a h2 h1
/-- the cells l of a piece: LIST (i) or CELL, from s to e; lg: no cell alone -/
def hc_pp (nx : Nat → Option Nat) (lg : Nat → Bool) (s e : Nat) (i : Bool) (l : List Nat) : Prop := (i = true → hc_P nx e l s) ∧ (i = false → l = [s] ∧ nx s = some e ∧ lg s = false)
def hc_lo (nx : Nat → Option Nat) (nil e : Nat) : Prop := e ≠ nil ∧ nx e = none
def hc_cp (nx : Nat → Option Nat) (lg : Nat → Bool) (nil s e : Nat) (i : Bool) (l : List Nat) : Prop := hc_pp nx lg s e i l ∧ (i = true → hc_lo nx nil e → ∀ a, a ∈ l → lg a = true → nx a = some e)
theorem hc_pp_det {nx : Nat → Option Nat} {lg lg' : Nat → Bool} {s e : Nat} {i : Bool} {l l' : List Nat} (h : hc_pp nx lg s e i l) (h' : hc_pp nx lg' s e i l') : l = l' := by
  cases i with
  | true => exact hc_P_det _ _ _ (h.1 rfl) (h'.1 rfl)
  | false => rw [(h.2 rfl).1, (h'.2 rfl).1]
theorem hc_pp_cell {nx : Nat → Option Nat} {lg : Nat → Bool} {s e : Nat} {i : Bool} {l : List Nat} (h : hc_pp nx lg s e i l) {a : Nat} (ha : a ∈ l) : nx a ≠ none := by
  cases i with
  | true => exact (hc_P_ne _ _ (h.1 rfl) a ha).2
  | false =>
    obtain ⟨h1, h2, _⟩ := h.2 rfl
    rw [h1] at ha
    rw [List.mem_singleton.mp ha, h2]
    exact fun q => nomatch q
/-- right's n pieces have the cells c between them -/
def hc_CT (nx : Nat → Option Nat) (lg : Nat → Bool) (nil n : Nat) (S E : Nat → Nat) (I : Nat → Bool) (c : Nat → List Nat) : Prop := (∀ i, i < n → hc_cp nx lg nil (S i) (E i) (I i) (c i)) ∧ ∀ i j, i < n → j < n → i ≠ j → hc_Dj (c i) (c j)
/-- n pieces, and those of m others at the bits f, have all cells between them -/
def hc_TR (nx : Nat → Option Nat) (lg : Nat → Bool) (n : Nat) (S' E' : Nat → Nat) (I' : Nat → Bool) (m : Nat) (f : Nat → Bool) (S E : Nat → Nat) (I : Nat → Bool) : Prop :=
  ∃ c d : Nat → List Nat, (∀ i, i < n → hc_pp nx lg (S' i) (E' i) (I' i) (c i)) ∧ (∀ p, p < m → f p = true → hc_pp nx lg (S p) (E p) (I p) (d p)) ∧
    (∀ i j, i < n → j < n → i ≠ j → hc_Dj (c i) (c j)) ∧ (∀ i p, i < n → p < m → f p = true → hc_Dj (c i) (d p)) ∧ (∀ p q, p < m → q < m → f p = true → f q = true → p ≠ q → hc_Dj (d p) (d q)) ∧
    ∀ g, nx g ≠ none → (∃ i, i < n ∧ g ∈ c i) ∨ ∃ p, p < m ∧ f p = true ∧ g ∈ d p
/-- the piece p has cells -/
def hc_N (S E : Nat → Nat) (I : Nat → Bool) (p : Nat) : Prop := I p = true → S p ≠ E p
def hc_BG (nil m : Nat) (S E : Nat → Nat) (I : Nat → Bool) : Prop := ∀ p, p < m → hc_N S E I p → S p ≠ nil ∧ ∀ q, q < m → hc_N S E I q → S q = S p → q = p
/-- the stretches of m pieces -/
def hc_H (nx : Nat → Option Nat) (lg : Nat → Bool) (m : Nat) (S E : Nat → Nat) (I : Nat → Bool) : Prop := (∀ p, p < m → hc_N S E I p → nx (S p) = some (E p) ∧ lg (S p) = I p) ∧ ∀ g, nx g ≠ none → ∃ p, p < m ∧ hc_N S E I p ∧ S p = g
/-- a state that m pieces make: ch has each stretch's cells by its first -/
def hc_Lf (m : Nat) (S E : Nat → Nat) (I : Nat → Bool) (fr : Nat → Prop) (nx : Nat → Option Nat) (fa : Nat → Bool) (ch : Nat → List Nat) : Prop :=
  (∀ p, p < m → hc_N S E I p → hc_pp nx fa (S p) (E p) (I p) (ch (S p)) ∧ ∀ a, a ∈ ch (S p) → a = S p ∨ fr a) ∧
  (∀ p q x, p < m → q < m → hc_N S E I p → hc_N S E I q → x ∈ ch (S p) → x ∈ ch (S q) → S p = S q) ∧ ∀ g, nx g ≠ none → ∃ p, p < m ∧ hc_N S E I p ∧ g ∈ ch (S p)
section CORE
variable {nil m n : Nat} {S E S' E' : Nat → Nat} {I I' : Nat → Bool} {nxH nx : Nat → Option Nat} {lgH fa : Nat → Bool} {ch : Nat → List Nat} {fr : Nat → Prop} {f : Nat → Bool}
theorem hc_expand (hH : hc_H nxH lgH m S E I) (hL : hc_Lf m S E I fr nx fa ch) (hfr : ∀ a, fr a → a ≠ nil ∧ nxH a = none) {e : Nat} :
    ∀ (l : List Nat) (g : Nat), hc_P nxH e l g → (hc_lo nxH nil e → ∀ a, a ∈ l → lgH a = true → nxH a = some e) → hc_P nx e (l.flatMap ch) g := by
  intro l
  induction l with
  | nil => intro g h _; exact h
  | cons a l ih =>
    intro g h hlo
    obtain ⟨h1, h2, x, hx, hp⟩ := hc_P_cons.mp h
    obtain ⟨p, hpm, hN, hS⟩ := hH.2 g (by rw [hx]; exact fun q => nomatch q)
    obtain ⟨⟨k1, k2⟩, k3⟩ := hL.1 p hpm hN
    obtain ⟨j1, j2⟩ := hH.1 p hpm hN
    rw [hS] at k1 k2 k3 j1 j2
    rw [hx] at j1
    injection j1 with j1
    rw [List.flatMap_cons, h1]
    have ih2 := ih x hp (fun q b hb => hlo q b (List.mem_cons_of_mem _ hb))
    cases hI : I p with
    | false =>
      obtain ⟨q1, q2, -⟩ := k2 hI
      rw [q1]
      exact hc_P_cons.mpr ⟨rfl, h2, x, by rw [q2, j1], ih2⟩
    | true =>
      have k4 := k1 hI
      rw [← j1] at k4
      refine hc_P_app ih2 _ _ k4 (fun b hb hbe => ?_)
      rcases k3 b hb with hb2 | hb2
      · exact h2 (hb2.symm.trans hbe)
      · obtain ⟨q1, q2⟩ := hfr b hb2
        rw [hbe] at q1 q2
        have h5 := hlo ⟨q1, q2⟩ a List.mem_cons_self (by rw [h1, j2, hI])
        rw [h1, hx] at h5
        injection h5 with h5
        exact (hc_P_ne _ _ k4 b hb).1 (hbe.trans h5.symm)
theorem hc_sound (hB : hc_BG nil m S E I) (hH : hc_H nxH lgH m S E I) (hL : hc_Lf m S E I fr nx fa ch) (hfr : ∀ a, fr a → a ≠ nil ∧ nxH a = none) {c : Nat → List Nat} (hC : hc_CT nxH lgH nil n S' E' I' c)
    (hf : ∀ p, p < m → hc_N S E I p → (f p = true ↔ ∀ i, i < n → S p ∉ c i)) : hc_TR nx fa n S' E' I' m f S E I := by
  have hst : ∀ i, i < n → ∀ a, a ∈ c i → ∃ p, p < m ∧ hc_N S E I p ∧ S p = a := fun i hi a ha => hH.2 a (hc_pp_cell (hC.1 i hi).1 ha)
  have hd : ∀ p, p < m → hc_N S E I p → ∀ x, x ∈ (if I p = true ∧ S p = E p then [] else ch (S p)) → x ∈ ch (S p) := fun p _ hN x hx => by
    rw [if_neg (fun q => hN q.1 q.2)] at hx; exact hx
  have hdN : ∀ p x, x ∈ (if I p = true ∧ S p = E p then [] else ch (S p)) → hc_N S E I p := fun p x hx h1 h2 => by
    rw [if_pos ⟨h1, h2⟩] at hx; exact absurd hx List.not_mem_nil
  refine ⟨fun i => (c i).flatMap ch, fun p => if I p = true ∧ S p = E p then [] else ch (S p), ?_, ?_, ?_, ?_, ?_, ?_⟩
  · intro i hi
    obtain ⟨⟨h1, h2⟩, h3⟩ := hC.1 i hi
    refine ⟨fun hI => hc_expand hH hL hfr _ _ (h1 hI) (h3 hI), fun hI => ?_⟩
    obtain ⟨q1, q2, q3⟩ := h2 hI
    obtain ⟨p, hpm, hN, hS⟩ := hH.2 (S' i) (by rw [q2]; exact fun q => nomatch q)
    obtain ⟨j1, j2⟩ := hH.1 p hpm hN
    obtain ⟨⟨-, k2⟩, -⟩ := hL.1 p hpm hN
    rw [hS] at j1 j2 k2
    rw [q3] at j2
    obtain ⟨k3, k5, k4⟩ := k2 j2.symm
    rw [q2] at j1
    injection j1 with j1
    show (c i).flatMap ch = [S' i] ∧ _
    rw [q1]
    exact ⟨by simp [k3], by rw [k5, j1], k4⟩
  · intro p hp hfp
    by_cases hN : I p = true ∧ S p = E p
    · show hc_pp nx fa (S p) (E p) (I p) (if I p = true ∧ S p = E p then [] else ch (S p))
      rw [if_pos hN]
      exact ⟨fun _ => hc_P_nil.mpr hN.2, fun h => (by rw [hN.1] at h; cases h)⟩
    · have hN' : hc_N S E I p := fun a b => hN ⟨a, b⟩
      show hc_pp nx fa (S p) (E p) (I p) (if I p = true ∧ S p = E p then [] else ch (S p))
      rw [if_neg hN]
      exact (hL.1 p hp hN').1
  · intro i j hi hj hij a ha hb
    obtain ⟨x, hx1, hx2⟩ := List.mem_flatMap.mp ha
    obtain ⟨y, hy1, hy2⟩ := List.mem_flatMap.mp hb
    obtain ⟨p, hpm, hN, hS⟩ := hst i hi x hx1
    obtain ⟨q, hqm, hNq, hSq⟩ := hst j hj y hy1
    have h9 := hL.2.1 p q a hpm hqm hN hNq (by rw [hS]; exact hx2) (by rw [hSq]; exact hy2)
    rw [hS, hSq] at h9
    rw [h9] at hx1
    exact hC.2 i j hi hj hij y hx1 hy1
  · intro i p hi hp hfp a ha hb
    obtain ⟨x, hx1, hx2⟩ := List.mem_flatMap.mp ha
    obtain ⟨q, hqm, hNq, hSq⟩ := hst i hi x hx1
    have hN := hdN p a hb
    have h9 := hL.2.1 q p a hqm hp hNq hN (by rw [hSq]; exact hx2) (hd p hp hN a hb)
    rw [hSq] at h9
    rw [h9] at hx1
    exact (hf p hp hN).mp hfp i hi hx1
  · intro p q hp hq hfp hfq hpq a ha hb
    have hN := hdN p a ha
    have hNq := hdN q a hb
    have h9 := hL.2.1 p q a hp hq hN hNq (hd p hp hN a ha) (hd q hq hNq a hb)
    exact hpq ((hB q hq hNq).2 p hp hN h9)
  · intro g hg
    obtain ⟨p, hpm, hN, hgm⟩ := hL.2.2 g hg
    by_cases hfp : f p = true
    · refine Or.inr ⟨p, hpm, hfp, ?_⟩
      show g ∈ (if I p = true ∧ S p = E p then [] else ch (S p))
      rw [if_neg (fun q => hN q.1 q.2)]
      exact hgm
    · have h9 : ¬ ∀ i, i < n → S p ∉ c i := fun q => hfp ((hf p hpm hN).mpr q)
      obtain ⟨i, h9⟩ := Classical.not_forall.mp h9
      obtain ⟨hi, h9⟩ := Classical.not_imp.mp h9
      exact Or.inl ⟨i, hi, List.mem_flatMap.mpr ⟨S p, Classical.not_not.mp h9, hgm⟩⟩
/-- the stretch at a leads by e now -/
def hc_we (nx : Nat → Option Nat) (a e e' : Nat) : Nat → Option Nat := fun g => if g = a then some e else if g = e then some e' else nx g
theorem hc_need (hB : hc_BG nil m S E I) (hH : hc_H nxH lgH m S E I) (h0 : hc_TR nxH lgH n S' E' I' m f S E I)
    (he : ∀ p i, p < m → hc_N S E I p → I p = true → i < n → I' i = true → E' i ≠ E p → E' i ≠ nil → nxH (E' i) = none → ∃ fa' : Nat → Bool, hc_TR (hc_we nxH (S p) (E' i) (E p)) fa' n S' E' I' m f S E I) :
    ∃ c, hc_CT nxH lgH nil n S' E' I' c ∧ ∀ p, p < m → hc_N S E I p → (f p = true ↔ ∀ i, i < n → S p ∉ c i) := by
  obtain ⟨c, d, hc, hd, hcc, hcd, hdd, hcov⟩ := h0
  have hdp : ∀ q, q < m → f q = true → ∀ x, x ∈ d q → x = S q ∧ hc_N S E I q := by
    intro q hq hfq x hx
    cases hI : I q with
    | false =>
      have h1 := ((hd q hq hfq).2 hI).1
      rw [h1] at hx
      exact ⟨List.mem_singleton.mp hx, fun h => (by rw [hI] at h; cases h)⟩
    | true =>
      have h1 := (hd q hq hfq).1 hI
      by_cases hSE : S q = E q
      · rw [hc_P_det _ [] _ h1 (hc_P_nil.mpr hSE)] at hx
        exact absurd hx List.not_mem_nil
      · have hN : hc_N S E I q := fun _ => hSE
        rw [hc_P_det _ [S q] _ h1 (hc_P_cons.mpr ⟨rfl, hSE, E q, (hH.1 q hq hN).1, hc_P_nil.mpr rfl⟩)] at hx
        exact ⟨List.mem_singleton.mp hx, hN⟩
  have hin : ∀ p, p < m → hc_N S E I p → f p = true → S p ∈ d p := by
    intro p hp hN hfp
    cases hI : I p with
    | false => rw [((hd p hp hfp).2 hI).1]; exact List.mem_cons_self
    | true => exact hc_P_head ((hd p hp hfp).1 hI) (hN hI)
  refine ⟨c, ⟨fun i hi => ⟨hc i hi, fun hI hlo a ha hlg => ?_⟩, hcc⟩, fun p hp hN => ⟨fun hfp i hi hm => hcd i p hi hp hfp _ hm (hin p hp hN hfp), fun hno => ?_⟩⟩
  · by_cases hae : nxH a = some (E' i)
    · exact hae
    exfalso
    obtain ⟨p, hpm, hN, hS⟩ := hH.2 a (hc_pp_cell (hc i hi) ha)
    obtain ⟨j1, j2⟩ := hH.1 p hpm hN
    rw [hS] at j1 j2
    have hIp : I p = true := by rw [← j2]; exact hlg
    have hne : E' i ≠ E p := fun q => hae (by rw [j1, q])
    obtain ⟨fa', c', d', hc', hd', hcc', hcd', hdd', hcov'⟩ := he p i hpm hN hIp hi hI hne hlo.1 hlo.2
    rw [hS] at hc' hd' hcov'
    have hea : E' i ≠ a := fun q => by rw [← q, hlo.2] at j1; cases j1
    have hwe : ∀ b, b ≠ a → nxH b ≠ none → hc_we nxH a (E' i) (E p) b = nxH b := fun b h1 h2 => by
      unfold hc_we
      rw [if_neg h1, if_neg (fun q => h2 (by rw [q]; exact hlo.2))]
    have hwa : hc_we nxH a (E' i) (E p) a = some (E' i) := if_pos rfl
    have hac' : a ∈ c' i := by
      obtain ⟨l', q1, q2⟩ := hc_P_cut hwe hwa _ _ ((hc i hi).1 hI) ha
      rw [hc_P_det _ _ _ ((hc' i hi).1 hI) q1]
      exact q2
    rcases hcov' (E' i) (by unfold hc_we; rw [if_neg hea, if_pos rfl]; exact fun q => nomatch q) with ⟨j, hj, hm⟩ | ⟨q, hq, hfq, hm⟩
    · cases hIj : I' j with
      | false =>
        rw [((hc' j hj).2 hIj).1] at hm
        have h1 := ((hc j hj).2 hIj).2.1
        rw [← List.mem_singleton.mp hm, hlo.2] at h1
        cases h1
      | true =>
        by_cases haj : a ∈ c j
        · have hij : i = j := by
            by_cases hij : i = j
            · exact hij
            · exact absurd haj (hcc i j hi hj hij a ha)
          rw [← hij] at hm
          exact (hc_P_ne _ _ ((hc' i hi).1 hI) _ hm).1 rfl
        · have h1 := (hc j hj).1 hIj
          have h2 : hc_P (hc_we nxH a (E' i) (E p)) (E' j) (c j) (S' j) := hc_P_congr _ _ h1 (fun b hb => hwe b (fun q => haj (by rw [← q]; exact hb)) (hc_P_ne _ _ h1 b hb).2)
          rw [hc_P_det _ _ _ ((hc' j hj).1 hIj) h2] at hm
          exact (hc_P_ne _ _ h1 _ hm).2 hlo.2
    · cases hIq : I q with
      | false =>
        rw [((hd' q hq hfq).2 hIq).1] at hm
        have h1 := (hH.1 q hq (fun h => (by rw [hIq] at h; cases h))).1
        rw [← List.mem_singleton.mp hm, hlo.2] at h1
        cases h1
      | true =>
        have h1 := (hd' q hq hfq).1 hIq
        by_cases hSE : S q = E q
        · rw [hc_P_det _ [] _ h1 (hc_P_nil.mpr hSE)] at hm
          exact absurd hm List.not_mem_nil
        · have hNq : hc_N S E I q := fun _ => hSE
          have h2 := (hH.1 q hq hNq).1
          by_cases hqa : S q = a
          · have h3 := hc_P_head h1 hSE
            rw [hqa] at h3
            exact hcd' i q hi hq hfq a hac' h3
          · rw [hc_P_det _ [S q] _ h1 (hc_P_cons.mpr ⟨rfl, hSE, E q, by rw [hwe _ hqa (by rw [h2]; exact fun q => nomatch q)]; exact h2, hc_P_nil.mpr rfl⟩)] at hm
            rw [← List.mem_singleton.mp hm, hlo.2] at h2
            cases h2
  · by_cases hfp : f p = true
    · exact hfp
    exfalso
    rcases hcov (S p) (by rw [(hH.1 p hp hN).1]; exact fun q => nomatch q) with ⟨i, hi, hm⟩ | ⟨q, hq, hfq, hm⟩
    · exact hno i hi hm
    · obtain ⟨h1, h2⟩ := hdp q hq hfq _ hm
      have h3 := (hB q hq h2).2 p hp hN h1
      rw [h3] at hfp
      exact hfp hfq
end CORE
end
section
/-! The ways in which lists can run through free addresses: the reference's search as a proposition. -/
def hc_nx : List (Nat × Nat × Bool) → Nat → Option Nat
  | [], _ => none
  | x :: l, g => if x.1 = g then some x.2.1 else hc_nx l g
def hc_fa : List (Nat × Nat × Bool) → Nat → Bool
  | [], _ => false
  | x :: l, g => if x.1 = g then x.2.2 else hc_fa l g
theorem hc_nx_none : ∀ (as : List (Nat × Nat × Bool)) (g : Nat), hc_nx as g = none → ∀ x, x ∈ as → x.1 ≠ g := by
  intro as
  induction as with
  | nil => intro g _ x hx; exact absurd hx List.not_mem_nil
  | cons y l ih =>
    intro g h x hx
    unfold hc_nx at h
    by_cases hy : y.1 = g
    · rw [if_pos hy] at h; cases h
    · rw [if_neg hy] at h
      rcases List.mem_cons.mp hx with hx | hx
      · rw [hx]; exact hy
      · exact ih g h x hx
theorem hc_nx_some : ∀ (as : List (Nat × Nat × Bool)) (g z : Nat), hc_nx as g = some z → ∃ x, x ∈ as ∧ x.1 = g ∧ x.2.1 = z ∧ hc_fa as g = x.2.2 := by
  intro as
  induction as with
  | nil => intro g z h; cases h
  | cons y l ih =>
    intro g z h
    unfold hc_nx at h
    by_cases hy : y.1 = g
    · rw [if_pos hy] at h
      injection h with h
      exact ⟨y, List.mem_cons_self, hy, h, by unfold hc_fa; rw [if_pos hy]⟩
    · rw [if_neg hy] at h
      obtain ⟨x, q1, q2, q3, q4⟩ := ih g z h
      exact ⟨x, List.mem_cons_of_mem _ q1, q2, q3, by unfold hc_fa; rw [if_neg hy]; exact q4⟩
/-- an address has one entry -/
def hc_fn (as : List (Nat × Nat × Bool)) : Prop := ∀ x y, x ∈ as → y ∈ as → x.1 = y.1 → x = y
theorem hc_nx_mem {as : List (Nat × Nat × Bool)} (hf : hc_fn as) {x : Nat × Nat × Bool} (hx : x ∈ as) : hc_nx as x.1 = some x.2.1 ∧ hc_fa as x.1 = x.2.2 := by
  cases h : hc_nx as x.1 with
  | none => exact absurd rfl (hc_nx_none as _ h x hx)
  | some z =>
    obtain ⟨y, q1, q2, q3, q4⟩ := hc_nx_some as _ _ h
    have h1 := hf y x q1 hx q2
    rw [h1] at q3 q4
    exact ⟨by rw [q3], q4⟩
theorem hc_nx_cons (x : Nat × Nat × Bool) (as : List (Nat × Nat × Bool)) (g : Nat) : hc_nx (x :: as) g = if x.1 = g then some x.2.1 else hc_nx as g := rfl
theorem hc_fa_cons (x : Nat × Nat × Bool) (as : List (Nat × Nat × Bool)) (g : Nat) : hc_fa (x :: as) g = if x.1 = g then x.2.2 else hc_fa as g := rfl
/-- some way from here: rem has the addresses whose next is still open, each with its list's end -/
def hc_Ex (fr : Nat → Prop) (L : List (Nat × Nat × Bool) → Prop) : Nat → List (Nat × Nat) → List (Nat × Nat × Bool) → Prop
  | 0, rem, as => rem = [] ∧ L as
  | _ + 1, [], as => L as
  | k + 1, r :: rs, as => ∃ b : Bool, hc_Ex fr L k rs ((r.1, r.2, b) :: as) ∨ ∃ g, fr g ∧ g ≠ r.2 ∧ g ≠ r.1 ∧ hc_nx as g = none ∧ hc_Ex fr L k ((g, r.2) :: rs) ((r.1, g, b) :: as)
theorem hc_Ex_nil {fr : Nat → Prop} {L : List (Nat × Nat × Bool) → Prop} {k : Nat} {as : List (Nat × Nat × Bool)} : hc_Ex fr L k [] as ↔ L as := by
  cases k with
  | zero => exact ⟨fun h => h.2, fun h => ⟨rfl, h⟩⟩
  | succ k => exact Iff.rfl
theorem hc_Ex_cons {fr : Nat → Prop} {L : List (Nat × Nat × Bool) → Prop} {k : Nat} {r : Nat × Nat} {rs : List (Nat × Nat)} {as : List (Nat × Nat × Bool)} :
    hc_Ex fr L (k + 1) (r :: rs) as ↔ ∃ b : Bool, hc_Ex fr L k rs ((r.1, r.2, b) :: as) ∨ ∃ g, fr g ∧ g ≠ r.2 ∧ g ≠ r.1 ∧ hc_nx as g = none ∧ hc_Ex fr L k ((g, r.2) :: rs) ((r.1, g, b) :: as) := Iff.rfl
theorem hc_PP_mono {nx nx' : Nat → Option Nat} {e x : Nat} (h : ∀ a, nx a ≠ none → nx' a = nx a) : ∀ (l : List Nat) (g : Nat), hc_PP nx e x l g → hc_PP nx' e x l g := by
  intro l
  induction l with
  | nil => intro g hp; exact hp
  | cons a l ih =>
    intro g hp
    obtain ⟨h1, h2, y, hy, hq⟩ := hp
    exact ⟨h1, h2, y, by rw [h g (by rw [hy]; exact fun q => nomatch q)]; exact hy, ih y hq⟩
theorem hc_PP_app {nx : Nat → Option Nat} {e x z : Nat} (hx : x ≠ e) (hz : nx x = some z) : ∀ (l : List Nat) (g : Nat), hc_PP nx e x l g → hc_PP nx e z (l ++ [x]) g := by
  intro l
  induction l with
  | nil => intro g hp; exact ⟨hp.symm, by rw [show g = x from hp]; exact hx, z, by rw [show g = x from hp]; exact hz, rfl⟩
  | cons a l ih =>
    intro g hp
    obtain ⟨h1, h2, y, hy, hq⟩ := hp
    exact ⟨h1, h2, y, hy, ih y hq⟩
section WAYS
variable {nil m : Nat} {S E : Nat → Nat} {I : Nat → Bool} {fr : Nat → Prop} {L : List (Nat × Nat × Bool) → Prop}
/-- how far the lists have come: pend has piece and address of the open ones, ch the addresses that each stretch has so far -/
def hc_J (m : Nat) (S E : Nat → Nat) (I : Nat → Bool) (fr : Nat → Prop) (pend : List (Nat × Nat)) (as : List (Nat × Nat × Bool)) (ch : Nat → List Nat) : Prop :=
  (pend.map (fun y => y.1)).Nodup ∧
  (∀ y, y ∈ pend → y.1 < m ∧ hc_N S E I y.1 ∧ I y.1 = true ∧ hc_PP (hc_nx as) (E y.1) y.2 (ch (S y.1)) (S y.1) ∧ y.2 ≠ E y.1 ∧ hc_nx as y.2 = none ∧ (y.2 = S y.1 ∨ fr y.2)) ∧
  (∀ y, y ∈ pend.tail → y.2 = S y.1) ∧
  (∀ p, p < m → hc_N S E I p → p ∉ pend.map (fun y => y.1) → hc_pp (hc_nx as) (hc_fa as) (S p) (E p) (I p) (ch (S p))) ∧
  (∀ p, p < m → hc_N S E I p → ∀ a, a ∈ ch (S p) → (a = S p ∨ fr a) ∧ hc_nx as a ≠ none) ∧
  (∀ p q x, p < m → q < m → hc_N S E I p → hc_N S E I q → x ∈ ch (S p) → x ∈ ch (S q) → S p = S q) ∧
  ∀ g, hc_nx as g ≠ none → ∃ p, p < m ∧ hc_N S E I p ∧ g ∈ ch (S p)
/-- the head's address gets its next z -/
theorem hc_J_step (hB : hc_BG nil m S E I) (hfr : ∀ a, fr a → ∀ p, p < m → hc_N S E I p → S p ≠ a) {y : Nat × Nat} {ys : List (Nat × Nat)} {as : List (Nat × Nat × Bool)} {ch : Nat → List Nat} (hJ : hc_J m S E I fr (y :: ys) as ch) (z : Nat) (b : Bool)
    (pend : List (Nat × Nat)) (hpend : (z = E y.1 ∧ pend = ys) ∨ (pend = (y.1, z) :: ys ∧ fr z ∧ z ≠ E y.1 ∧ z ≠ y.2 ∧ hc_nx as z = none)) :
    hc_J m S E I fr pend ((y.2, z, b) :: as) (fun a => if a = S y.1 then ch (S y.1) ++ [y.2] else ch a) := by
  obtain ⟨j1, j2, j3, j4, j5, j6, j7⟩ := hJ
  obtain ⟨hym, hyN, hyI, hyP, hyE, hyn, hyf⟩ := j2 y List.mem_cons_self
  have hmono : ∀ a, hc_nx as a ≠ none → hc_nx ((y.2, z, b) :: as) a = hc_nx as a := fun a ha => by
    rw [hc_nx_cons, if_neg (fun q => ha (by rw [← q]; exact hyn))]
  have hnew : hc_nx ((y.2, z, b) :: as) y.2 = some z := by rw [hc_nx_cons, if_pos rfl]
  have hxS : ∀ p, p < m → hc_N S E I p → ∀ a, a ∈ ch (S p) → a ≠ y.2 := fun p hp hN a ha q => (j5 p hp hN a ha).2 (by rw [q]; exact hyn)
  have hSi : ∀ p, p < m → hc_N S E I p → S p = S y.1 → p = y.1 := fun p hp hN h => (hB y.1 hym hyN).2 p hp hN h
  have hPz : hc_PP (hc_nx ((y.2, z, b) :: as)) (E y.1) z (ch (S y.1) ++ [y.2]) (S y.1) := hc_PP_app hyE hnew _ _ (hc_PP_mono hmono _ _ hyP)
  have j1c := List.nodup_cons.mp (show (y.1 :: ys.map (fun y => y.1)).Nodup from j1)
  have hys : ∀ w, w ∈ ys → w.1 ≠ y.1 := fun w hw q => j1c.1 (by rw [← q]; exact List.mem_map.mpr ⟨w, hw, rfl⟩)
  have hold : ∀ w, w ∈ ys → w.1 < m ∧ hc_N S E I w.1 ∧ I w.1 = true ∧ hc_PP (hc_nx ((y.2, z, b) :: as)) (E w.1) w.2 (if S w.1 = S y.1 then ch (S y.1) ++ [y.2] else ch (S w.1)) (S w.1) ∧ w.2 ≠ E w.1 ∧ hc_nx ((y.2, z, b) :: as) w.2 = none ∧ (w.2 = S w.1 ∨ fr w.2) := by
    intro w hw
    obtain ⟨a1, a2, a3, a4, a5, a6, a7⟩ := j2 w (List.mem_cons_of_mem _ hw)
    have hne : S w.1 ≠ S y.1 := fun q => hys w hw (hSi w.1 a1 a2 q)
    refine ⟨a1, a2, a3, by rw [if_neg hne]; exact hc_PP_mono hmono _ _ a4, a5, ?_, a7⟩
    rw [hc_nx_cons, if_neg]
    · exact a6
    · intro q
      have hw2 : w.2 = S w.1 := j3 w hw
      have q' : y.2 = S w.1 := by rw [← hw2]; exact q
      rcases hyf with h | h
      · exact hne (q'.symm.trans h)
      · exact hfr _ h w.1 a1 a2 q'.symm
  have hdone : ∀ p, p < m → hc_N S E I p → p ≠ y.1 → p ∉ ys.map (fun y => y.1) → hc_pp (hc_nx ((y.2, z, b) :: as)) (hc_fa ((y.2, z, b) :: as)) (S p) (E p) (I p) (if S p = S y.1 then ch (S y.1) ++ [y.2] else ch (S p)) := by
    intro p hp hN hpy hpn
    have hne : S p ≠ S y.1 := fun q => hpy (hSi p hp hN q)
    rw [if_neg hne]
    have h1 := j4 p hp hN (fun q => by
      rcases List.mem_cons.mp (show p ∈ y.1 :: ys.map (fun y => y.1) from q) with q | q
      · exact hpy q
      · exact hpn q)
    refine ⟨fun hI => hc_PP_mono hmono _ _ (h1.1 hI), fun hI => ?_⟩
    obtain ⟨a1, a2, a3⟩ := h1.2 hI
    refine ⟨a1, by rw [hmono _ (by rw [a2]; exact fun q => nomatch q)]; exact a2, ?_⟩
    rw [hc_fa_cons, if_neg]
    · exact a3
    · exact fun q => hxS p hp hN (S p) (by rw [a1]; exact List.mem_cons_self) q.symm
  have h5 : ∀ p, p < m → hc_N S E I p → ∀ a, a ∈ (if S p = S y.1 then ch (S y.1) ++ [y.2] else ch (S p)) → (a = S p ∨ fr a) ∧ hc_nx ((y.2, z, b) :: as) a ≠ none := by
    intro p hp hN a ha
    have hk : ∀ q, q < m → hc_N S E I q → a ∈ ch (S q) → hc_nx ((y.2, z, b) :: as) a ≠ none := fun q hq hNq h => by rw [hmono _ (j5 q hq hNq a h).2]; exact (j5 q hq hNq a h).2
    by_cases hS : S p = S y.1
    · rw [if_pos hS] at ha
      rcases List.mem_append.mp ha with ha | ha
      · refine ⟨?_, hk y.1 hym hyN ha⟩
        rw [hS]
        exact (j5 y.1 hym hyN a ha).1
      · rw [List.mem_singleton.mp ha]
        refine ⟨by rw [hS]; exact hyf, by rw [hnew]; exact fun q => nomatch q⟩
    · rw [if_neg hS] at ha
      exact ⟨(j5 p hp hN a ha).1, hk p hp hN ha⟩
  have hsub : ∀ p, p < m → hc_N S E I p → ∀ a, a ∈ (if S p = S y.1 then ch (S y.1) ++ [y.2] else ch (S p)) → a ∈ ch (S p) ∨ (a = y.2 ∧ S p = S y.1) := by
    intro p hp hN a ha
    by_cases hS : S p = S y.1
    · rw [if_pos hS] at ha
      rcases List.mem_append.mp ha with ha | ha
      · exact Or.inl (by rw [hS]; exact ha)
      · exact Or.inr ⟨List.mem_singleton.mp ha, hS⟩
    · rw [if_neg hS] at ha
      exact Or.inl ha
  have h6 : ∀ p q x, p < m → q < m → hc_N S E I p → hc_N S E I q → x ∈ (if S p = S y.1 then ch (S y.1) ++ [y.2] else ch (S p)) → x ∈ (if S q = S y.1 then ch (S y.1) ++ [y.2] else ch (S q)) → S p = S q := by
    intro p q x hp hq hN hNq h1 h2
    rcases hsub p hp hN x h1 with a1 | ⟨a1, a2⟩
    · rcases hsub q hq hNq x h2 with b1 | ⟨b1, b2⟩
      · exact j6 p q x hp hq hN hNq a1 b1
      · exact absurd b1 (hxS p hp hN x a1)
    · rcases hsub q hq hNq x h2 with b1 | ⟨b1, b2⟩
      · exact absurd a1 (hxS q hq hNq x b1)
      · exact a2.trans b2.symm
  have h7 : ∀ g, hc_nx ((y.2, z, b) :: as) g ≠ none → ∃ p, p < m ∧ hc_N S E I p ∧ g ∈ (if S p = S y.1 then ch (S y.1) ++ [y.2] else ch (S p)) := by
    intro g hg
    by_cases hgy : y.2 = g
    · exact ⟨y.1, hym, hyN, by rw [if_pos rfl, ← hgy]; exact List.mem_append.mpr (Or.inr List.mem_cons_self)⟩
    · rw [hc_nx_cons, if_neg hgy] at hg
      obtain ⟨p, a1, a2, a3⟩ := j7 g hg
      refine ⟨p, a1, a2, ?_⟩
      by_cases hS : S p = S y.1
      · rw [if_pos hS]
        rw [hS] at a3
        exact List.mem_append.mpr (Or.inl a3)
      · rw [if_neg hS]; exact a3
  rcases hpend with ⟨rfl, rfl⟩ | ⟨rfl, hz1, hz2, hz3, hz4⟩
  · refine ⟨j1c.2, hold, fun w hw => j3 w (List.mem_of_mem_tail hw), fun p hp hN hpn => ?_, h5, h6, h7⟩
    by_cases hpy : p = y.1
    · rw [hpy]
      refine ⟨fun _ => ?_, fun h => (by rw [hyI] at h; cases h)⟩
      show hc_PP _ _ _ (if S y.1 = S y.1 then ch (S y.1) ++ [y.2] else ch (S y.1)) _
      rw [if_pos rfl]
      exact hPz
    · exact hdone p hp hN hpy hpn
  · refine ⟨List.nodup_cons.mpr j1c, fun w hw => ?_, fun w hw => j3 w hw, fun p hp hN hpn => ?_, h5, h6, h7⟩
    · rcases List.mem_cons.mp hw with hw | hw
      · rw [hw]
        refine ⟨hym, hyN, hyI, ?_, hz2, ?_, Or.inr hz1⟩
        · show hc_PP _ _ _ (if S y.1 = S y.1 then ch (S y.1) ++ [y.2] else ch (S y.1)) _
          rw [if_pos rfl]
          exact hPz
        · show hc_nx ((y.2, z, b) :: as) z = none
          rw [hc_nx_cons, if_neg (fun q => hz3 q.symm)]
          exact hz4
      · exact hold w hw
    · exact hdone p hp hN (fun q => hpn (by rw [q]; exact List.mem_cons_self)) (fun q => hpn (List.mem_cons_of_mem _ q))
/-- what the search finds is a state that the pieces make -/
theorem hc_leaf (hB : hc_BG nil m S E I) (hfr : ∀ a, fr a → ∀ p, p < m → hc_N S E I p → S p ≠ a) : ∀ (k : Nat) (pend : List (Nat × Nat)) (as : List (Nat × Nat × Bool)) (ch : Nat → List Nat),
    hc_J m S E I fr pend as ch → hc_Ex fr L k (pend.map (fun y => (y.2, E y.1))) as → ∃ as' ch', L as' ∧ hc_Lf m S E I fr (hc_nx as') (hc_fa as') ch' := by
  intro k
  induction k with
  | zero =>
    intro pend as ch hJ h
    cases pend with
    | nil =>
      obtain ⟨-, -, -, j4, j5, j6, j7⟩ := hJ
      exact ⟨as, ch, hc_Ex_nil.mp h, fun p hp hN => ⟨j4 p hp hN (fun q => absurd q List.not_mem_nil), fun a ha => (j5 p hp hN a ha).1⟩, j6, j7⟩
    | cons y ys => exact absurd h.1 (fun q => nomatch q)
  | succ k ih =>
    intro pend as ch hJ h
    cases pend with
    | nil =>
      obtain ⟨-, -, -, j4, j5, j6, j7⟩ := hJ
      exact ⟨as, ch, hc_Ex_nil.mp h, fun p hp hN => ⟨j4 p hp hN (fun q => absurd q List.not_mem_nil), fun a ha => (j5 p hp hN a ha).1⟩, j6, j7⟩
    | cons y ys =>
      obtain ⟨b, h | ⟨g, g1, g2, g3, g4, h⟩⟩ := hc_Ex_cons.mp h
      · exact ih ys _ _ (hc_J_step hB hfr hJ (E y.1) b ys (Or.inl ⟨rfl, rfl⟩)) h
      · exact ih ((y.1, g) :: ys) _ _ (hc_J_step hB hfr hJ g b ((y.1, g) :: ys) (Or.inr ⟨rfl, g1, g2, g3, g4⟩)) h
/-- all open lists run long and straight to their ends -/
def hc_fin : List (Nat × Nat) → List (Nat × Nat × Bool) → List (Nat × Nat × Bool)
  | [], as => as
  | r :: rs, as => hc_fin rs ((r.1, r.2, true) :: as)
theorem hc_fin_mem : ∀ (rem : List (Nat × Nat)) (as : List (Nat × Nat × Bool)) (x : Nat × Nat × Bool), x ∈ hc_fin rem as ↔ x ∈ as ∨ ∃ r, r ∈ rem ∧ x = (r.1, r.2, true) := by
  intro rem
  induction rem with
  | nil => intro as x; exact ⟨fun h => Or.inl h, fun h => h.elim id (fun ⟨r, h, _⟩ => absurd h List.not_mem_nil)⟩
  | cons r rs ih =>
    intro as x
    show x ∈ hc_fin rs _ ↔ _
    rw [ih]
    constructor
    · rintro (h | ⟨q, h1, h2⟩)
      · rcases List.mem_cons.mp h with h | h
        · exact Or.inr ⟨r, List.mem_cons_self, h⟩
        · exact Or.inl h
      · exact Or.inr ⟨q, List.mem_cons_of_mem _ h1, h2⟩
    · rintro (h | ⟨q, h1, h2⟩)
      · exact Or.inl (List.mem_cons_of_mem _ h)
      · rcases List.mem_cons.mp h1 with h1 | h1
        · exact Or.inl (by rw [h2, h1]; exact List.mem_cons_self)
        · exact Or.inr ⟨q, h1, h2⟩
theorem hc_Ex_fin : ∀ (rem : List (Nat × Nat)) (k : Nat) (as : List (Nat × Nat × Bool)), rem.length ≤ k → L (hc_fin rem as) → hc_Ex fr L k rem as := by
  intro rem
  induction rem with
  | nil => intro k as _ h; exact hc_Ex_nil.mpr h
  | cons r rs ih =>
    intro k as hk h
    cases k with
    | zero => simp at hk
    | succ k => exact hc_Ex_cons.mpr ⟨true, Or.inl (ih k _ (by simp only [List.length_cons] at hk; omega) h)⟩
theorem hc_Ex_via {a e' e : Nat} {r2 : List (Nat × Nat)} (he : fr e) (h1 : e ≠ e') (h2 : e ≠ a) : ∀ (r1 : List (Nat × Nat)) (k : Nat) (as : List (Nat × Nat × Bool)), (r1 ++ (a, e') :: r2).length + 1 ≤ k → hc_nx (hc_fin r1 as) e = none →
    L (hc_fin r2 ((e, e', true) :: (a, e, true) :: hc_fin r1 as)) → hc_Ex fr L k (r1 ++ (a, e') :: r2) as := by
  intro r1
  induction r1 with
  | nil =>
    intro k as hk hn h
    simp only [List.nil_append, List.length_cons] at hk
    obtain ⟨k, rfl⟩ : ∃ j, k = j + 2 := ⟨k - 2, by omega⟩
    refine hc_Ex_cons.mpr ⟨true, Or.inr ⟨e, he, h1, h2, hn, ?_⟩⟩
    exact hc_Ex_cons.mpr ⟨true, Or.inl (hc_Ex_fin r2 k _ (by omega) h)⟩
  | cons r rs ih =>
    intro k as hk hn h
    simp only [List.cons_append, List.length_cons] at hk
    cases k with
    | zero => omega
    | succ k => exact hc_Ex_cons.mpr ⟨true, Or.inl (ih k _ (by omega) hn h)⟩
end WAYS
end
section
/-! The search over all ways against one look at the long stretches. -/
section LISTS
variable {S E : Nat → Nat} {I : Nat → Bool}
/-- places of the lists with cells among q .. q + k - 1 -/
def hc_ls (S E : Nat → Nat) (I : Nat → Bool) : Nat → Nat → List Nat
  | _, 0 => []
  | q, k + 1 => if I q = true ∧ S q ≠ E q then q :: hc_ls S E I (q + 1) k else hc_ls S E I (q + 1) k
theorem hc_ls_mem : ∀ (k q p : Nat), p ∈ hc_ls S E I q k ↔ q ≤ p ∧ p < q + k ∧ I p = true ∧ S p ≠ E p := by
  intro k
  induction k with
  | zero => intro q p; exact ⟨fun h => absurd h List.not_mem_nil, fun h => by omega⟩
  | succ k ih =>
    intro q p
    unfold hc_ls
    by_cases hq : I q = true ∧ S q ≠ E q
    · rw [if_pos hq, List.mem_cons, ih]
      constructor
      · rintro (h | ⟨h1, h2, h3⟩)
        · rw [h]; exact ⟨Nat.le_refl _, by omega, hq⟩
        · exact ⟨by omega, by omega, h3⟩
      · rintro ⟨h1, h2, h3⟩
        by_cases hpq : p = q
        · exact Or.inl hpq
        · exact Or.inr ⟨by omega, by omega, h3⟩
    · rw [if_neg hq, ih]
      constructor
      · rintro ⟨h1, h2, h3⟩
        exact ⟨by omega, by omega, h3⟩
      · rintro ⟨h1, h2, h3⟩
        have hpq : p ≠ q := fun h => hq (by rw [← h]; exact h3)
        exact ⟨by omega, by omega, h3⟩
theorem hc_ls_nodup : ∀ (k q : Nat), (hc_ls S E I q k).Nodup := by
  intro k
  induction k with
  | zero => intro q; exact List.nodup_nil
  | succ k ih =>
    intro q
    unfold hc_ls
    by_cases hq : I q = true ∧ S q ≠ E q
    · rw [if_pos hq]
      exact List.nodup_cons.mpr ⟨fun h => by have := ((hc_ls_mem k (q + 1) q).mp h).1; omega, ih (q + 1)⟩
    · rw [if_neg hq]; exact ih (q + 1)
theorem hc_ls_len : ∀ (k q : Nat), (hc_ls S E I q k).length ≤ k := by
  intro k
  induction k with
  | zero => intro q; exact Nat.le_refl _
  | succ k ih =>
    intro q
    unfold hc_ls
    by_cases hq : I q = true ∧ S q ≠ E q
    · rw [if_pos hq, List.length_cons]; have := ih (q + 1); omega
    · rw [if_neg hq]; have := ih (q + 1); omega
/-- CELL pieces have their cell from the start -/
def hc_as0 (S E : Nat → Nat) (I : Nat → Bool) : Nat → List (Nat × Nat × Bool)
  | 0 => []
  | p + 1 => if I p = false then (S p, E p, false) :: hc_as0 S E I p else hc_as0 S E I p
theorem hc_as0_mem : ∀ (m : Nat) (x : Nat × Nat × Bool), x ∈ hc_as0 S E I m ↔ ∃ p, p < m ∧ I p = false ∧ x = (S p, E p, false) := by
  intro m
  induction m with
  | zero => intro x; exact ⟨fun h => absurd h List.not_mem_nil, fun ⟨p, h, _⟩ => absurd h (Nat.not_lt_zero _)⟩
  | succ m ih =>
    intro x
    unfold hc_as0
    by_cases hm : I m = false
    · rw [if_pos hm, List.mem_cons, ih]
      constructor
      · rintro (h | ⟨p, h1, h2⟩)
        · exact ⟨m, Nat.lt_succ_self _, hm, h⟩
        · exact ⟨p, by omega, h2⟩
      · rintro ⟨p, h1, h2, h3⟩
        by_cases hpm : p = m
        · rw [hpm] at h3; exact Or.inl h3
        · exact Or.inr ⟨p, by omega, h2, h3⟩
    · rw [if_neg hm, ih]
      constructor
      · rintro ⟨p, h1, h2⟩; exact ⟨p, by omega, h2⟩
      · rintro ⟨p, h1, h2, h3⟩
        have hpm : p ≠ m := fun h => hm (by rw [← h]; exact h2)
        exact ⟨p, by omega, h2, h3⟩
def hc_rem (S E : Nat → Nat) (I : Nat → Bool) (q k : Nat) : List (Nat × Nat) := (hc_ls S E I q k).map (fun p => (S p, E p))
theorem hc_fin_app : ∀ (r1 r2 : List (Nat × Nat)) (as : List (Nat × Nat × Bool)), hc_fin (r1 ++ r2) as = hc_fin r2 (hc_fin r1 as) := by
  intro r1
  induction r1 with
  | nil => intro r2 as; rfl
  | cons r rs ih => intro r2 as; exact ih r2 _
theorem hc_nx_fin_out : ∀ (r2 : List (Nat × Nat)) (Y : List (Nat × Nat × Bool)) (g : Nat), (∀ r, r ∈ r2 → r.1 ≠ g) → hc_nx (hc_fin r2 Y) g = hc_nx Y g := by
  intro r2
  induction r2 with
  | nil => intro Y g _; rfl
  | cons r rs ih =>
    intro Y g h
    show hc_nx (hc_fin rs _) g = _
    rw [ih _ g (fun q hq => h q (List.mem_cons_of_mem _ hq)), hc_nx_cons, if_neg (h r List.mem_cons_self)]
theorem hc_nx_fin_in : ∀ (r2 : List (Nat × Nat)) (Y Y' : List (Nat × Nat × Bool)) (g : Nat), (∃ r, r ∈ r2 ∧ r.1 = g) → hc_nx (hc_fin r2 Y) g = hc_nx (hc_fin r2 Y') g := by
  intro r2
  induction r2 with
  | nil => intro Y Y' g ⟨r, h, _⟩; exact absurd h List.not_mem_nil
  | cons r rs ih =>
    intro Y Y' g ⟨q, hq, hg⟩
    show hc_nx (hc_fin rs _) g = hc_nx (hc_fin rs _) g
    by_cases h : ∃ r, r ∈ rs ∧ r.1 = g
    · exact ih _ _ g h
    · have h' : ∀ r, r ∈ rs → r.1 ≠ g := fun r hr hg => h ⟨r, hr, hg⟩
      rw [hc_nx_fin_out rs _ g h', hc_nx_fin_out rs _ g h']
      rcases List.mem_cons.mp hq with hq | hq
      · rw [hq] at hg
        rw [hc_nx_cons, hc_nx_cons, if_pos hg, if_pos hg]
      · exact absurd hg (h' q hq)
end LISTS
section MAIN
variable {nil m n : Nat} {S E S' E' : Nat → Nat} {I I' : Nat → Bool} {nxH : Nat → Option Nat} {lgH : Nat → Bool} {f : Nat → Bool} {fr : Nat → Prop} {L : List (Nat × Nat × Bool) → Prop}
/-- the longest state: no list runs through a free address -/
def hc_w0 (S E : Nat → Nat) (I : Nat → Bool) (m : Nat) : List (Nat × Nat × Bool) := hc_fin (hc_rem S E I 0 m) (hc_as0 S E I m)
theorem hc_w0_mem (x : Nat × Nat × Bool) : x ∈ hc_w0 S E I m ↔ ∃ p, p < m ∧ hc_N S E I p ∧ x = (S p, E p, I p) := by
  unfold hc_w0
  rw [hc_fin_mem, hc_as0_mem]
  constructor
  · rintro (⟨p, h1, h2, h3⟩ | ⟨r, h1, h2⟩)
    · exact ⟨p, h1, fun h => (by rw [h2] at h; cases h), by rw [h2]; exact h3⟩
    · obtain ⟨p, h3, h4⟩ := List.mem_map.mp h1
      obtain ⟨-, h5, h6, h7⟩ := (hc_ls_mem _ _ _).mp h3
      exact ⟨p, by omega, fun _ => h7, by rw [h2, ← h4, h6]⟩
  · rintro ⟨p, h1, h2, h3⟩
    cases hI : I p with
    | false => exact Or.inl ⟨p, h1, hI, by rw [h3, hI]⟩
    | true => exact Or.inr ⟨(S p, E p), List.mem_map.mpr ⟨p, (hc_ls_mem _ _ _).mpr ⟨Nat.zero_le _, by omega, hI, h2 hI⟩, rfl⟩, by rw [h3, hI]⟩
theorem hc_w0_fn (hB : hc_BG nil m S E I) : hc_fn (hc_w0 S E I m) := by
  intro x y hx hy hxy
  obtain ⟨p, h1, h2, h3⟩ := (hc_w0_mem x).mp hx
  obtain ⟨q, k1, k2, k3⟩ := (hc_w0_mem y).mp hy
  rw [h3, k3] at hxy
  have hpq := (hB q k1 k2).2 p h1 h2 hxy
  rw [h3, k3, hpq]
theorem hc_w0_H (hB : hc_BG nil m S E I) : hc_H (hc_nx (hc_w0 S E I m)) (hc_fa (hc_w0 S E I m)) m S E I := by
  refine ⟨fun p hp hN => ?_, fun g hg => ?_⟩
  · exact hc_nx_mem (hc_w0_fn hB) ((hc_w0_mem (S p, E p, I p)).mpr ⟨p, hp, hN, rfl⟩)
  · cases h : hc_nx (hc_w0 S E I m) g with
    | none => exact absurd h hg
    | some z =>
      obtain ⟨x, h1, h2, -, -⟩ := hc_nx_some _ _ _ h
      obtain ⟨p, k1, k2, k3⟩ := (hc_w0_mem x).mp h1
      exact ⟨p, k1, k2, by rw [← h2, k3]⟩
theorem hc_H_same {nx' : Nat → Option Nat} {lg' : Nat → Bool} (hH : hc_H nxH lgH m S E I) (hH' : hc_H nx' lg' m S E I) : (∀ g, nxH g = nx' g) ∧ ∀ g, nxH g ≠ none → lgH g = lg' g := by
  refine ⟨fun g => ?_, fun g hg => ?_⟩
  · by_cases h : nxH g = none
    · by_cases h' : nx' g = none
      · rw [h, h']
      · obtain ⟨p, h1, h2, h3⟩ := hH'.2 g h'
        rw [← h3, (hH.1 p h1 h2).1] at h
        cases h
    · obtain ⟨p, h1, h2, h3⟩ := hH.2 g h
      rw [← h3, (hH.1 p h1 h2).1, (hH'.1 p h1 h2).1]
  · obtain ⟨p, h1, h2, h3⟩ := hH.2 g hg
    rw [← h3, (hH.1 p h1 h2).2, (hH'.1 p h1 h2).2]
theorem hc_CT_congr {nx' : Nat → Option Nat} {lg' : Nat → Bool} {c : Nat → List Nat} (h1 : ∀ g, nxH g = nx' g) (h2 : ∀ g, nxH g ≠ none → lgH g = lg' g) (h : hc_CT nxH lgH nil n S' E' I' c) : hc_CT nx' lg' nil n S' E' I' c := by
  have hnx : nxH = nx' := funext h1
  subst hnx
  refine ⟨fun i hi => ?_, h.2⟩
  obtain ⟨⟨a1, a2⟩, a3⟩ := h.1 i hi
  refine ⟨⟨a1, fun hI => ?_⟩, fun hI hlo a ha hlg => a3 hI hlo a ha (by rw [h2 a (hc_pp_cell ⟨a1, a2⟩ ha)]; exact hlg)⟩
  obtain ⟨b1, b2, b3⟩ := a2 hI
  exact ⟨b1, b2, by rw [← h2 _ (by rw [b2]; exact fun q => nomatch q)]; exact b3⟩
/-- how the search begins -/
theorem hc_J0 (hB : hc_BG nil m S E I) : hc_J m S E I fr ((hc_ls S E I 0 m).map (fun p => (p, S p))) (hc_as0 S E I m) (fun a => if hc_nx (hc_as0 S E I m) a = none then [] else [a]) := by
  have hfn : hc_fn (hc_as0 S E I m) := by
    intro x y hx hy hxy
    obtain ⟨p, h1, h2, h3⟩ := (hc_as0_mem _ x).mp hx
    obtain ⟨q, k1, k2, k3⟩ := (hc_as0_mem _ y).mp hy
    rw [h3, k3] at hxy
    have hpq := (hB q k1 (fun h => (by rw [k2] at h; cases h))).2 p h1 (fun h => (by rw [h2] at h; cases h)) hxy
    rw [h3, k3, hpq]
  have hkey : ∀ g, hc_nx (hc_as0 S E I m) g ≠ none → ∃ p, p < m ∧ I p = false ∧ S p = g := fun g hg => by
    cases h : hc_nx (hc_as0 S E I m) g with
    | none => exact absurd h hg
    | some z =>
      obtain ⟨x, h1, h2, -, -⟩ := hc_nx_some _ _ _ h
      obtain ⟨p, k1, k2, k3⟩ := (hc_as0_mem _ x).mp h1
      exact ⟨p, k1, k2, by rw [← h2, k3]⟩
  have hli : ∀ p, p < m → hc_N S E I p → I p = true → hc_nx (hc_as0 S E I m) (S p) = none := by
    intro p hp hN hI
    by_cases h : hc_nx (hc_as0 S E I m) (S p) = none
    · exact h
    · obtain ⟨q, h1, h2, h3⟩ := hkey _ h
      have hqp := (hB p hp hN).2 q h1 (fun h => (by rw [h2] at h; cases h)) h3
      rw [hqp, hI] at h2
      cases h2
  refine ⟨?_, ?_, ?_, ?_, ?_, ?_, ?_⟩
  · rw [List.map_map]
    show ((hc_ls S E I 0 m).map (fun p => p)).Nodup
    rw [List.map_id']
    exact hc_ls_nodup m 0
  · intro y hy
    obtain ⟨p, h1, h2⟩ := List.mem_map.mp hy
    obtain ⟨-, h3, h4, h5⟩ := (hc_ls_mem _ _ _).mp h1
    rw [← h2]
    have hn := hli p (by omega) (fun _ => h5) h4
    refine ⟨by show p < m; omega, fun _ => h5, h4, ?_, h5, hn, Or.inl rfl⟩
    show hc_PP _ _ (S p) (if hc_nx (hc_as0 S E I m) (S p) = none then [] else [S p]) (S p)
    rw [if_pos hn]
    rfl
  · intro y hy
    obtain ⟨p, h1, h2⟩ := List.mem_map.mp (List.mem_of_mem_tail hy)
    rw [← h2]
  · intro p hp hN hpn
    have hI : I p = false := by
      cases hI : I p with
      | false => rfl
      | true => exact absurd (List.mem_map.mpr ⟨(p, S p), List.mem_map.mpr ⟨p, (hc_ls_mem _ _ _).mpr ⟨Nat.zero_le _, by omega, hI, hN hI⟩, rfl⟩, rfl⟩) hpn
    obtain ⟨a1, a2⟩ := hc_nx_mem hfn ((hc_as0_mem m (S p, E p, false)).mpr ⟨p, hp, hI, rfl⟩)
    refine ⟨fun h => (by rw [hI] at h; cases h), fun _ => ⟨?_, a1, a2⟩⟩
    show (if hc_nx (hc_as0 S E I m) (S p) = none then [] else [S p]) = [S p]
    rw [if_neg (by show ¬ hc_nx _ (S p, E p, false).1 = none; rw [a1]; exact fun q => nomatch q)]
  · intro p hp hN a ha
    by_cases h : hc_nx (hc_as0 S E I m) (S p) = none
    · simp only [h, if_true] at ha
      exact absurd ha List.not_mem_nil
    · simp only [h, if_false] at ha
      rw [List.mem_singleton.mp ha]
      exact ⟨Or.inl rfl, h⟩
  · intro p q x hp hq hN hNq h1 h2
    have hx : ∀ s : Nat, x ∈ (if hc_nx (hc_as0 S E I m) s = none then [] else [s]) → x = s := fun s h => by
      by_cases h9 : hc_nx (hc_as0 S E I m) s = none
      · rw [if_pos h9] at h; exact absurd h List.not_mem_nil
      · rw [if_neg h9] at h; exact List.mem_singleton.mp h
    exact (hx _ h1).symm.trans (hx _ h2)
  · intro g hg
    obtain ⟨p, h1, h2, h3⟩ := hkey g hg
    refine ⟨p, h1, fun h => (by rw [h2] at h; cases h), ?_⟩
    rw [h3]
    show g ∈ (if hc_nx (hc_as0 S E I m) g = none then [] else [g])
    rw [if_neg hg]
    exact List.mem_cons_self
theorem hc_leaf0 (hB : hc_BG nil m S E I) (hfr : ∀ a, fr a → ∀ p, p < m → hc_N S E I p → S p ≠ a) {k : Nat} (h : hc_Ex fr L k (hc_rem S E I 0 m) (hc_as0 S E I m)) : ∃ as' ch', L as' ∧ hc_Lf m S E I fr (hc_nx as') (hc_fa as') ch' := by
  refine hc_leaf hB hfr k ((hc_ls S E I 0 m).map (fun p => (p, S p))) (hc_as0 S E I m) _ (hc_J0 hB) ?_
  rw [List.map_map]
  exact h
theorem hc_Ex_w0 {k : Nat} (hk : m ≤ k) (h : L (hc_w0 S E I m)) : hc_Ex fr L k (hc_rem S E I 0 m) (hc_as0 S E I m) :=
  hc_Ex_fin _ k _ (by unfold hc_rem; rw [List.length_map]; exact Nat.le_trans (hc_ls_len m 0) hk) h
/-- a question that the way doesn't matter to -/
theorem hc_Ex_const (hB : hc_BG nil m S E I) (hfr : ∀ a, fr a → ∀ p, p < m → hc_N S E I p → S p ≠ a) {k : Nat} (hk : m ≤ k) {c : Prop} : hc_Ex fr (fun _ => c) k (hc_rem S E I 0 m) (hc_as0 S E I m) ↔ c := by
  refine ⟨fun h => ?_, fun h => hc_Ex_w0 hk h⟩
  obtain ⟨_, _, h, _⟩ := hc_leaf0 hB hfr h
  exact h
theorem hc_Ex_filled (hB : hc_BG nil m S E I) (hfr : ∀ a, fr a → ∀ p, p < m → hc_N S E I p → S p ≠ a) {k : Nat} (hk : m ≤ k) {x : Nat} :
    hc_Ex fr (fun as => hc_nx as x = none) k (hc_rem S E I 0 m) (hc_as0 S E I m) ↔ ∀ p, p < m → hc_N S E I p → S p ≠ x := by
  refine ⟨fun h p hp hN hSx => ?_, fun h => hc_Ex_w0 hk ?_⟩
  · obtain ⟨as', ch', h1, h2⟩ := hc_leaf0 hB hfr h
    have h3 := (h2.1 p hp hN).1
    rw [← hSx] at h1
    cases hI : I p with
    | false => rw [(h3.2 hI).2.1] at h1; cases h1
    | true => exact (hc_P_ne _ _ (h3.1 hI) (S p) (hc_P_head (h3.1 hI) (hN hI))).2 h1
  · by_cases h9 : hc_nx (hc_w0 S E I m) x = none
    · exact h9
    · obtain ⟨p, h1, h2, h3⟩ := (hc_w0_H hB).2 x h9
      exact absurd h3 (h p h1 h2)
theorem hc_main (hB : hc_BG nil m S E I) (hH : hc_H nxH lgH m S E I) (gr : Nat → Prop) (hgr : ∀ i, i < n → gr (E' i)) (PO : Prop) {k : Nat} (hk : m + 1 ≤ k) :
    (¬ hc_Ex (fun g => gr g ∧ g ≠ nil ∧ ∀ p, p < m → hc_N S E I p → S p ≠ g) (fun as => ¬ (PO ∧ hc_TR (hc_nx as) (hc_fa as) n S' E' I' m f S E I)) k (hc_rem S E I 0 m) (hc_as0 S E I m)) ↔
      PO ∧ ∃ c, hc_CT nxH lgH nil n S' E' I' c ∧ ∀ p, p < m → hc_N S E I p → (f p = true ↔ ∀ i, i < n → S p ∉ c i) := by
  have hH0 := hc_w0_H hB
  obtain ⟨hs1, hs2⟩ := hc_H_same hH0 hH
  constructor
  · intro h
    have h0 : PO ∧ hc_TR (hc_nx (hc_w0 S E I m)) (hc_fa (hc_w0 S E I m)) n S' E' I' m f S E I := by
      by_cases h9 : PO ∧ hc_TR (hc_nx (hc_w0 S E I m)) (hc_fa (hc_w0 S E I m)) n S' E' I' m f S E I
      · exact h9
      · exact absurd (hc_Ex_w0 (by omega) h9) h
    refine ⟨h0.1, ?_⟩
    obtain ⟨c, hC, hf⟩ := hc_need hB hH0 h0.2 (by
      intro p i hp hN hI hi hI' hne hnil hnone
      have hpl : p ∈ hc_ls S E I 0 m := (hc_ls_mem _ _ _).mpr ⟨Nat.zero_le _, by omega, hI, hN hI⟩
      obtain ⟨l1, l2, hl⟩ := List.append_of_mem hpl
      have hrem : hc_rem S E I 0 m = l1.map (fun p => (S p, E p)) ++ (S p, E p) :: l2.map (fun p => (S p, E p)) := by
        unfold hc_rem; rw [hl, List.map_append, List.map_cons]
      have hnd := hc_ls_nodup (S := S) (E := E) (I := I) m 0
      rw [hl] at hnd
      have hl2 : ∀ q, q ∈ l2 → q ≠ p := fun q hq hqp => by
        have h1 := (List.nodup_cons.mp (List.nodup_append.mp hnd).2.1).1
        rw [hqp] at hq
        exact h1 hq
      have hlm : ∀ q, q ∈ l2 → q < m ∧ hc_N S E I q := fun q hq => by
        have h1 : q ∈ hc_ls S E I 0 m := by rw [hl]; exact List.mem_append.mpr (Or.inr (List.mem_cons_of_mem _ hq))
        obtain ⟨-, h2, -, h3⟩ := (hc_ls_mem _ _ _).mp h1
        exact ⟨by omega, fun _ => h3⟩
      have hw0 : hc_w0 S E I m = hc_fin (l2.map (fun p => (S p, E p))) ((S p, E p, true) :: hc_fin (l1.map (fun p => (S p, E p))) (hc_as0 S E I m)) := by
        unfold hc_w0; rw [hrem, hc_fin_app]; rfl
      have hno : ∀ x, x ∈ hc_w0 S E I m → x.1 ≠ E' i := fun x hx q => by
        have h1 := (hc_nx_mem (hc_w0_fn hB) hx).1
        rw [q, hnone] at h1
        cases h1
      have hX : hc_nx (hc_fin (l1.map (fun p => (S p, E p))) (hc_as0 S E I m)) (E' i) = none := by
        cases h9 : hc_nx (hc_fin (l1.map (fun p => (S p, E p))) (hc_as0 S E I m)) (E' i) with
        | none => rfl
        | some z =>
          obtain ⟨x, h1, h2, -, -⟩ := hc_nx_some _ _ _ h9
          exact absurd h2 (hno x (by rw [hw0, hc_fin_mem]; exact Or.inl (List.mem_cons_of_mem _ h1)))
      have hea : E' i ≠ S p := fun q => hno (S p, E p, I p) ((hc_w0_mem _).mpr ⟨p, hp, hN, rfl⟩) q.symm
      have hfre : gr (E' i) ∧ E' i ≠ nil ∧ ∀ p, p < m → hc_N S E I p → S p ≠ E' i := ⟨hgr i hi, hnil, fun q hq hNq h1 => hno (S q, E q, I q) ((hc_w0_mem _).mpr ⟨q, hq, hNq, rfl⟩) h1⟩
      generalize hZ : hc_fin (l2.map (fun p => (S p, E p))) ((E' i, E p, true) :: (S p, E' i, true) :: hc_fin (l1.map (fun p => (S p, E p))) (hc_as0 S E I m)) = Z
      have hTR : PO ∧ hc_TR (hc_nx Z) (hc_fa Z) n S' E' I' m f S E I := by
        by_cases h9 : PO ∧ hc_TR (hc_nx Z) (hc_fa Z) n S' E' I' m f S E I
        · exact h9
        · refine absurd ?_ h
          rw [hrem]
          refine hc_Ex_via (fr := fun g => gr g ∧ g ≠ nil ∧ ∀ p, p < m → hc_N S E I p → S p ≠ g) hfre hne hea _ k _ ?_ hX ?_
          · rw [← hrem]
            unfold hc_rem
            rw [List.length_map]
            have := hc_ls_len (S := S) (E := E) (I := I) m 0
            omega
          · rw [hZ]; exact h9
      refine ⟨hc_fa Z, ?_⟩
      have hnxZ : hc_nx Z = hc_we (hc_nx (hc_w0 S E I m)) (S p) (E' i) (E p) := by
        funext g
        unfold hc_we
        rw [← hZ]
        by_cases hg : ∃ r, r ∈ l2.map (fun p => (S p, E p)) ∧ r.1 = g
        · have hg1 : g ≠ S p := fun q => by
            obtain ⟨r, h1, h2⟩ := hg
            obtain ⟨x, h3, h4⟩ := List.mem_map.mp h1
            have h5 : S x = S p := by rw [← q, ← h2, ← h4]
            exact hl2 x h3 ((hB p hp hN).2 x (hlm x h3).1 (hlm x h3).2 h5)
          have hg2 : g ≠ E' i := fun q => by
            obtain ⟨r, h1, h2⟩ := hg
            refine hno (r.1, r.2, true) (by rw [hw0, hc_fin_mem]; exact Or.inr ⟨r, h1, rfl⟩) ?_
            rw [← q]; exact h2
          rw [if_neg hg1, if_neg hg2, hw0]
          exact hc_nx_fin_in _ _ _ g hg
        · have hg' : ∀ r, r ∈ l2.map (fun p => (S p, E p)) → r.1 ≠ g := fun r h1 h2 => hg ⟨r, h1, h2⟩
          rw [hw0, hc_nx_fin_out _ _ g hg', hc_nx_fin_out _ _ g hg', hc_nx_cons, hc_nx_cons, hc_nx_cons]
          show (if E' i = g then some (E p) else if S p = g then some (E' i) else _) = _
          by_cases h1 : E' i = g
          · rw [if_pos h1, if_neg (fun q => hea (h1.trans q)), if_pos h1.symm]
          · rw [if_neg h1]
            by_cases h2 : S p = g
            · rw [if_pos h2, if_pos h2.symm]
            · rw [if_neg h2, if_neg (fun q => h2 q.symm), if_neg (fun q => h1 q.symm)]
              show _ = (if S p = g then _ else _)
              rw [if_neg h2]
      rw [← hnxZ]
      exact hTR.2)
    exact ⟨c, hc_CT_congr hs1 hs2 hC, hf⟩
  · rintro ⟨hPO, c, hC, hf⟩ hEx
    obtain ⟨as', ch', h1, h2⟩ := hc_leaf0 hB (fun a ha => ha.2.2) hEx
    refine h1 ⟨hPO, hc_sound hB hH h2 (fun a ha => ⟨ha.2.1, ?_⟩) hC hf⟩
    by_cases h9 : nxH a = none
    · exact h9
    · obtain ⟨p, k1, k2, k3⟩ := hH.2 a h9
      exact absurd k3 (ha.2.2 p k1 k2)
end MAIN
end
section
/-! From one valuation to another that makes the same terms equal. -/
section MOVE
variable {v v' : Nat → Nat} {U : Nat → Prop} {m n : Nat} {fr to fr' to' : Nat → Nat} {I I' : Nat → Bool} {nx nx' : Nat → Option Nat} {lg lg' : Nat → Bool}
/-- the same named terms are equal -/
def hc_kq (U : Nat → Prop) (v v' : Nat → Nat) : Prop := ∀ a b, U a → U b → (v a = v b ↔ v' a = v' b)
theorem hc_kq.symm (h : hc_kq U v v') : hc_kq U v' v := fun a b ha hb => (h a b ha hb).symm
theorem hc_N_move (hk : hc_kq U v v') {p : Nat} (h1 : U (fr p)) (h2 : U (to p)) (h : hc_N (fun p => v (fr p)) (fun p => v (to p)) I p) : hc_N (fun p => v' (fr p)) (fun p => v' (to p)) I p := fun hI q => h hI ((hk _ _ h1 h2).mpr q)
theorem hc_BG_move (hk : hc_kq U v v') (h5 : U 5) (hU : ∀ p, p < m → U (fr p) ∧ U (to p)) (h : hc_BG (v 5) m (fun p => v (fr p)) (fun p => v (to p)) I) : hc_BG (v' 5) m (fun p => v' (fr p)) (fun p => v' (to p)) I := by
  intro p hp hN
  obtain ⟨a1, a2⟩ := h p hp (hc_N_move hk.symm (hU p hp).1 (hU p hp).2 hN)
  refine ⟨fun q => a1 ((hk _ _ (hU p hp).1 h5).mpr q), fun q hq hNq hqp => a2 q hq (hc_N_move hk.symm (hU q hq).1 (hU q hq).2 hNq) ((hk _ _ (hU q hq).1 (hU p hp).1).mpr hqp)⟩
def hc_PO (v : Nat → Nat) (sm ot : Nat → Nat → Bool) : Prop := ∀ a, a < 6 → ∀ b, b < 6 → (sm a b = true → v a = v b) ∧ (ot a b = true → v a ≠ v b)
theorem hc_PO_move {sm ot : Nat → Nat → Bool} (hk : hc_kq U v v') (hU : ∀ a, a < 6 → ∀ b, b < 6 → sm a b = true ∨ ot a b = true → U a ∧ U b) (h : hc_PO v sm ot) : hc_PO v' sm ot := by
  intro a ha b hb
  obtain ⟨h1, h2⟩ := h a ha b hb
  refine ⟨fun q => ?_, fun q e => ?_⟩
  · obtain ⟨u1, u2⟩ := hU a ha b hb (Or.inl q)
    exact (hk a b u1 u2).mp (h1 q)
  · obtain ⟨u1, u2⟩ := hU a ha b hb (Or.inr q)
    exact h2 q ((hk a b u1 u2).mpr e)
theorem hc_CT_move (hk : hc_kq U v v') (h5 : U 5) (hU : ∀ p, p < m → U (fr p) ∧ U (to p)) (hU' : ∀ i, i < n → U (fr' i) ∧ U (to' i))
    (hH : hc_H nx lg m (fun p => v (fr p)) (fun p => v (to p)) I) (hH' : hc_H nx' lg' m (fun p => v' (fr p)) (fun p => v' (to p)) I) {c : Nat → List Nat} (hC : hc_CT nx lg (v 5) n (fun i => v (fr' i)) (fun i => v (to' i)) I' c) :
    ∃ c', hc_CT nx' lg' (v' 5) n (fun i => v' (fr' i)) (fun i => v' (to' i)) I' c' ∧ ∀ p, p < m → hc_N (fun p => v (fr p)) (fun p => v (to p)) I p → ∀ i, i < n → (v' (fr p) ∈ c' i ↔ v (fr p) ∈ c i) := by
  have hph : ∀ g, ∃ y, ∀ t, U t → v t = g → v' t = y := by
    intro g
    by_cases h : ∃ t, U t ∧ v t = g
    · obtain ⟨t, ht, hg⟩ := h
      exact ⟨v' t, fun u hu hug => (hk u t hu ht).mp (hug.trans hg.symm)⟩
    · exact ⟨0, fun t ht hg => absurd ⟨t, ht, hg⟩ h⟩
  obtain ⟨φ, hφ⟩ := Classical.axiomOfChoice hph
  have hφ : ∀ t, U t → φ (v t) = v' t := fun t ht => (hφ (v t) t ht rfl).symm
  -- a cell of the one is a cell of the other
  have hcell : ∀ t, U t → nx (v t) ≠ none → ∃ p, p < m ∧ hc_N (fun p => v (fr p)) (fun p => v (to p)) I p ∧ v (fr p) = v t ∧ nx (v t) = some (v (to p)) ∧ lg (v t) = I p ∧ nx' (v' t) = some (v' (to p)) ∧ lg' (v' t) = I p := by
    intro t ht hn
    obtain ⟨p, h1, h2, h3⟩ := hH.2 _ hn
    have h3' : v (fr p) = v t := h3
    obtain ⟨a1, a2⟩ := hH.1 p h1 h2
    obtain ⟨b1, b2⟩ := hH'.1 p h1 (hc_N_move hk (hU p h1).1 (hU p h1).2 h2)
    have h4 : v' (fr p) = v' t := (hk _ _ (hU p h1).1 ht).mp h3'
    have a1' : nx (v (fr p)) = some (v (to p)) := a1
    have a2' : lg (v (fr p)) = I p := a2
    have b1' : nx' (v' (fr p)) = some (v' (to p)) := b1
    have b2' : lg' (v' (fr p)) = I p := b2
    rw [h3'] at a1' a2'
    rw [h4] at b1' b2'
    exact ⟨p, h1, h2, h3', a1', a2', b1', b2'⟩
  have hnone : ∀ t, U t → nx' (v' t) = none → nx (v t) = none := by
    intro t ht hn
    by_cases h : nx (v t) = none
    · exact h
    · obtain ⟨p, -, -, -, -, -, h6, -⟩ := hcell t ht h
      rw [hn] at h6
      cases h6
  have hpath : ∀ (u : Nat), U u → ∀ (l : List Nat) (t : Nat), U t → hc_P nx (v u) l (v t) → hc_P nx' (v' u) (l.map φ) (v' t) := by
    intro u hu l
    induction l with
    | nil => intro t ht h; exact hc_P_nil.mpr ((hk _ _ ht hu).mp (hc_P_nil.mp h))
    | cons a l ih =>
      intro t ht h
      obtain ⟨h1, h2, x, hx, hp⟩ := hc_P_cons.mp h
      obtain ⟨p, k1, -, -, k4, -, k6, -⟩ := hcell t ht (by rw [hx]; exact fun q => nomatch q)
      rw [hx] at k4
      injection k4 with k4
      rw [k4] at hp
      exact hc_P_cons.mpr ⟨by rw [h1]; exact hφ t ht, fun q => h2 ((hk _ _ ht hu).mpr q), v' (to p), k6, ih (to p) (hU p k1).2 hp⟩
  have hmem : ∀ i, i < n → ∀ a, a ∈ c i → ∃ p, p < m ∧ hc_N (fun p => v (fr p)) (fun p => v (to p)) I p ∧ a = v (fr p) ∧ φ a = v' (fr p) := by
    intro i hi a ha
    obtain ⟨p, h1, h2, h3⟩ := hH.2 a (hc_pp_cell (hC.1 i hi).1 ha)
    have h3' : v (fr p) = a := h3
    exact ⟨p, h1, h2, h3'.symm, by rw [← h3']; exact hφ _ (hU p h1).1⟩
  refine ⟨fun i => (c i).map φ, ⟨fun i hi => ?_, fun i j hi hj hij a ha hb => ?_⟩, fun p hp hN i hi => ?_⟩
  · obtain ⟨⟨a1, a2⟩, a3⟩ := hC.1 i hi
    refine ⟨⟨fun hI => hpath _ (hU' i hi).2 _ _ (hU' i hi).1 (a1 hI), fun hI => ?_⟩, fun hI hlo a ha hlg => ?_⟩
    · obtain ⟨b1, b2, b3⟩ := a2 hI
      have b2' : nx (v (fr' i)) = some (v (to' i)) := b2
      have b3' : lg (v (fr' i)) = false := b3
      obtain ⟨p, k1, k2, k3, k4, k5, k6, k7⟩ := hcell (fr' i) (hU' i hi).1 (by rw [b2']; exact fun q => nomatch q)
      rw [b2'] at k4
      injection k4 with k4
      rw [b3'] at k5
      show (c i).map φ = [v' (fr' i)] ∧ nx' (v' (fr' i)) = some (v' (to' i)) ∧ lg' (v' (fr' i)) = false
      refine ⟨?_, ?_, by rw [k7, ← k5]⟩
      · rw [b1]
        show [φ (v (fr' i))] = _
        rw [hφ _ (hU' i hi).1]
      · rw [k6, (hk _ _ (hU' i hi).2 (hU p k1).2).mp k4]
    · obtain ⟨b, hb1, hb2⟩ := List.mem_map.mp ha
      obtain ⟨p, k1, k2, k3, k4⟩ := hmem i hi b hb1
      have hbn : nx (v (fr p)) ≠ none := by rw [← k3]; exact hc_pp_cell ⟨a1, a2⟩ hb1
      obtain ⟨q, j1, j2, j3, j4, j5, j6, j7⟩ := hcell (fr p) (hU p k1).1 hbn
      have hlo' : hc_lo nx (v 5) (v (to' i)) := ⟨fun q => hlo.1 ((hk _ _ (hU' i hi).2 h5).mp q), hnone _ (hU' i hi).2 hlo.2⟩
      rw [← hb2, k4, j7] at hlg
      have h9 := a3 hI hlo' b hb1 (by rw [k3, j5]; exact hlg)
      have h9' : nx b = some (v (to' i)) := h9
      rw [k3, j4] at h9'
      injection h9' with h9'
      show nx' a = some (v' (to' i))
      rw [← hb2, k4, j6, (hk _ _ (hU q j1).2 (hU' i hi).2).mp h9']
  · obtain ⟨x, hx1, hx2⟩ := List.mem_map.mp ha
    obtain ⟨y, hy1, hy2⟩ := List.mem_map.mp hb
    obtain ⟨p, k1, k2, k3, k4⟩ := hmem i hi x hx1
    obtain ⟨q, j1, j2, j3, j4⟩ := hmem j hj y hy1
    have h9 : v' (fr p) = v' (fr q) := by rw [← k4, ← j4, hx2, hy2]
    have h8 : x = y := by rw [k3, j3]; exact (hk _ _ (hU p k1).1 (hU q j1).1).mpr h9
    rw [h8] at hx1
    exact hC.2 i j hi hj hij y hx1 hy1
  · constructor
    · intro h
      obtain ⟨x, hx1, hx2⟩ := List.mem_map.mp h
      obtain ⟨q, k1, k2, k3, k4⟩ := hmem i hi x hx1
      have h9 : v' (fr q) = v' (fr p) := by rw [← k4, hx2]
      rw [← (hk _ _ (hU q k1).1 (hU p hp).1).mpr h9, ← k3]
      exact hx1
    · intro h
      exact List.mem_map.mpr ⟨v (fr p), h, hφ _ (hU p hp).1⟩
end MOVE
end
section
/-! The cases: which terms are equal, one after another. -/
/-- the greatest of the first k, 0 at least -/
def hc_mx (l : List Nat) : Nat → Nat
  | 0 => 0
  | k + 1 => max (hc_mx l k) (l.getD k 0)
/-- the reference's next grouping, from place k down -/
def hc_ng : Nat → List Nat → Option (List Nat)
  | 0, _ => none
  | k + 1, l => if l.getD (k + 1) 0 ≤ hc_mx l (k + 1) then some ((List.range 6).map (fun i => if i < k + 1 then l.getD i 0 else if i = k + 1 then l.getD i 0 + 1 else 0)) else hc_ng k l
/-- the class's next case: the named variables below t -/
def hc_av (M : Nat) : Nat → List Nat → Option (List Nat)
  | 0, _ => none
  | t + 1, l => if M.testBit t = true then (if l.getD t 0 ≤ hc_mx l t then some (l.set t (l.getD t 0 + 1)) else hc_av M t (l.set t 0)) else hc_av M t l
def hc_run (nx : List Nat → Option (List Nat)) : Nat → List Nat → List (List Nat)
  | 0, _ => []
  | n + 1, l => l :: (match nx l with | some l' => hc_run nx n l' | none => [])
def hc_ends (nx : List Nat → Option (List Nat)) : Nat → List Nat → Bool
  | 0, _ => false
  | n + 1, l => (match nx l with | some l' => hc_ends nx n l' | none => true)
def hc_all : List (List Nat) := hc_run (hc_ng 5) 203 [0, 0, 0, 0, 0, 0]
def hc_cas (M : Nat) : List (List Nat) := hc_run (hc_av M 5) 203 [0, 0, 0, 0, 0, 0]
/-- lists by growth: place after place an old value or the next new one; unnamed places hold 0 -/
def hc_gen (q : Nat → Bool) : Nat → List (List Nat × Nat)
  | 0 => [([], 0)]
  | k + 1 => (hc_gen q k).flatMap (fun x => if q k = true then (List.range (x.2 + 2)).map (fun y => (x.1 ++ [y], max x.2 y)) else [(x.1 ++ [0], x.2)])
set_option maxRecDepth 100000 in
theorem hc_all_ends : hc_ends (hc_ng 5) 203 [0, 0, 0, 0, 0, 0] = true := by decide +kernel
set_option maxRecDepth 100000 in
theorem hc_all_fit : ∀ l, l ∈ hc_all → l.length = 6 ∧ ∀ t, t < 6 → l.getD t 0 < 6 := by decide +kernel
set_option maxRecDepth 100000 in
theorem hc_cas_ends : ∀ M, M < 32 → hc_ends (hc_av M 5) 203 [0, 0, 0, 0, 0, 0] = true := by decide +kernel
set_option maxRecDepth 100000 in
theorem hc_cas_fit : ∀ M, M < 32 → ∀ l, l ∈ hc_cas M → l.length = 6 ∧ l.getD 5 0 = 0 ∧ ∀ t, t < 6 → l.getD t 0 < 6 := by decide +kernel
set_option maxRecDepth 100000 in
theorem hc_gen_all : ∀ x, x ∈ hc_gen (fun _ => true) 5 → (0 :: x.1) ∈ hc_all := by decide +kernel
set_option maxRecDepth 100000 in
theorem hc_gen_cas : ∀ M, M < 32 → ∀ x, x ∈ hc_gen (fun t => M.testBit t) 5 → (x.1 ++ [0]) ∈ hc_cas M := by decide +kernel
theorem hc_getD_app {l : List Nat} {k : Nat} (h : l.length = k) (y a : Nat) : (l ++ [y]).getD a 0 = if a < k then l.getD a 0 else if a = k then y else 0 := by
  rw [List.getD_eq_getElem?_getD, List.getD_eq_getElem?_getD]
  by_cases h1 : a < k
  · rw [if_pos h1, List.getElem?_append_left (by omega)]
  · rw [if_neg h1, List.getElem?_append_right (by omega)]
    by_cases h2 : a = k
    · rw [if_pos h2, h, h2, Nat.sub_self]; rfl
    · rw [if_neg h2, List.getElem?_eq_none (by simp only [List.length_cons, List.length_nil]; omega)]; rfl
theorem hc_gen_cov (q : Nat → Bool) (w : Nat → Nat) (b : Nat) : ∀ k : Nat, ∃ x, x ∈ hc_gen q k ∧ x.1.length = k ∧ (∀ a, a < k → x.1.getD a 0 ≤ x.2) ∧ (∀ a, a < k → q a = true → (w a = b ↔ x.1.getD a 0 = 0)) ∧
    ∀ a c, a < k → c < k → q a = true → q c = true → (w a = w c ↔ x.1.getD a 0 = x.1.getD c 0) := by
  intro k
  induction k with
  | zero => exact ⟨([], 0), List.mem_cons_self, rfl, fun a h => absurd h (Nat.not_lt_zero _), fun a h => absurd h (Nat.not_lt_zero _), fun a c h => absurd h (Nat.not_lt_zero _)⟩
  | succ k ih =>
    obtain ⟨x, h1, h2, h3, h4, h5⟩ := ih
    have hone : ∀ y z, y ≤ z → x.2 ≤ z → (x.1 ++ [y], z) ∈ hc_gen q (k + 1) → (q k = true → (w k = b ↔ y = 0)) → (∀ a, a < k → q a = true → q k = true → (w a = w k ↔ x.1.getD a 0 = y)) →
        ∃ x, x ∈ hc_gen q (k + 1) ∧ x.1.length = k + 1 ∧ (∀ a, a < k + 1 → x.1.getD a 0 ≤ x.2) ∧ (∀ a, a < k + 1 → q a = true → (w a = b ↔ x.1.getD a 0 = 0)) ∧
        ∀ a c, a < k + 1 → c < k + 1 → q a = true → q c = true → (w a = w c ↔ x.1.getD a 0 = x.1.getD c 0) := by
      intro y z hy hz hm hb hw
      have hg : ∀ a, a < k → (x.1 ++ [y]).getD a 0 = x.1.getD a 0 := fun a ha => by rw [hc_getD_app h2, if_pos ha]
      have hgk : (x.1 ++ [y]).getD k 0 = y := by rw [hc_getD_app h2, if_neg (Nat.lt_irrefl _), if_pos rfl]
      refine ⟨(x.1 ++ [y], z), hm, by simp only [List.length_append, List.length_cons, List.length_nil, h2], fun a ha => ?_, fun a ha hq => ?_, fun a c ha hc hqa hqc => ?_⟩
      · show (x.1 ++ [y]).getD a 0 ≤ z
        by_cases hak : a = k
        · rw [hak, hgk]; exact hy
        · rw [hg a (by omega)]; exact Nat.le_trans (h3 a (by omega)) hz
      · show w a = b ↔ (x.1 ++ [y]).getD a 0 = 0
        by_cases hak : a = k
        · rw [hak, hgk]; rw [hak] at hq; exact hb hq
        · rw [hg a (by omega)]; exact h4 a (by omega) hq
      · show w a = w c ↔ (x.1 ++ [y]).getD a 0 = (x.1 ++ [y]).getD c 0
        by_cases hak : a = k
        · by_cases hck : c = k
          · rw [hak, hck]; exact ⟨fun _ => rfl, fun _ => rfl⟩
          · rw [hak, hgk, hg c (by omega)]
            rw [hak] at hqa
            have h9 := hw c (by omega) hqc hqa
            exact ⟨fun e => (h9.mp e.symm).symm, fun e => (h9.mpr e.symm).symm⟩
        · by_cases hck : c = k
          · rw [hck, hgk, hg a (by omega)]
            rw [hck] at hqc
            exact hw a (by omega) hqa hqc
          · rw [hg a (by omega), hg c (by omega)]
            exact h5 a c (by omega) (by omega) hqa hqc
    by_cases hq : q k = true
    · have hmem : ∀ y, y < x.2 + 2 → (x.1 ++ [y], max x.2 y) ∈ hc_gen q (k + 1) := fun y hy => by
        show _ ∈ (hc_gen q k).flatMap _
        refine List.mem_flatMap.mpr ⟨x, h1, ?_⟩
        rw [if_pos hq]
        exact List.mem_map.mpr ⟨y, List.mem_range.mpr hy, rfl⟩
      by_cases hb : w k = b
      · exact hone 0 _ (Nat.zero_le _) (Nat.le_max_left _ _) (hmem 0 (by omega)) (fun _ => ⟨fun _ => rfl, fun _ => hb⟩) (fun a ha hqa _ => by rw [hb]; exact h4 a ha hqa)
      · by_cases hold : ∃ a, a < k ∧ q a = true ∧ w a = w k
        · obtain ⟨a, ha, hqa, hwa⟩ := hold
          refine hone (x.1.getD a 0) _ (Nat.le_max_right _ _) (Nat.le_max_left _ _) (hmem _ (by have := h3 a ha; omega)) (fun _ => by rw [← hwa]; exact h4 a ha hqa) (fun c hc hqc _ => by rw [← hwa]; exact h5 c a hc ha hqc hqa)
        · refine hone (x.2 + 1) _ (Nat.le_max_right _ _) (Nat.le_max_left _ _) (hmem _ (by omega)) (fun _ => ⟨fun e => absurd e hb, fun e => absurd e (by omega)⟩) (fun c hc hqc _ => ⟨fun e => absurd ⟨c, hc, hqc, e⟩ hold, fun e => ?_⟩)
          have := h3 c hc
          omega
    · refine hone 0 x.2 (Nat.zero_le _) (Nat.le_refl _) ?_ (fun h => absurd h hq) (fun a ha hqa h => absurd h hq)
      show _ ∈ (hc_gen q k).flatMap _
      refine List.mem_flatMap.mpr ⟨x, h1, ?_⟩
      rw [if_neg hq]
      exact List.mem_cons_self
theorem hc_cov_all (v : Nat → Nat) : ∃ l, l ∈ hc_all ∧ hc_kq (fun t => t < 6) v (fun t => l.getD t 0) := by
  obtain ⟨x, h1, h2, -, h4, h5⟩ := hc_gen_cov (fun _ => true) (fun t => v (t + 1)) (v 0) 5
  refine ⟨0 :: x.1, hc_gen_all x h1, fun a b ha hb => ?_⟩
  have ha : a < 6 := ha
  have hb : b < 6 := hb
  cases a with
  | zero =>
    cases b with
    | zero => exact ⟨fun _ => rfl, fun _ => rfl⟩
    | succ b =>
      have h9 := h4 b (by omega) rfl
      exact ⟨fun e => (h9.mp e.symm).symm, fun e => (h9.mpr (Eq.symm e)).symm⟩
  | succ a =>
    cases b with
    | zero => exact h4 a (by omega) rfl
    | succ b => exact h5 a b (by omega) (by omega) rfl rfl
theorem hc_cov_cas (M : Nat) (hM : M < 32) (v : Nat → Nat) : ∃ l, l ∈ hc_cas M ∧ hc_kq (fun t => (t < 5 ∧ M.testBit t = true) ∨ t = 5) v (fun t => l.getD t 0) := by
  obtain ⟨x, h1, h2, -, h4, h5⟩ := hc_gen_cov (fun t => M.testBit t) v (v 5) 5
  refine ⟨x.1 ++ [0], hc_gen_cas M hM x h1, fun a b ha hb => ?_⟩
  have hg : ∀ a, a < 5 → (x.1 ++ [0]).getD a 0 = x.1.getD a 0 := fun a ha => by rw [hc_getD_app h2, if_pos ha]
  have hg5 : (x.1 ++ [0]).getD 5 0 = 0 := by rw [hc_getD_app h2, if_neg (Nat.lt_irrefl _), if_pos rfl]
  show v a = v b ↔ (x.1 ++ [0]).getD a 0 = (x.1 ++ [0]).getD b 0
  rcases ha with ⟨ha1, ha2⟩ | ha
  · rcases hb with ⟨hb1, hb2⟩ | hb
    · rw [hg a ha1, hg b hb1]; exact h5 a b ha1 hb1 ha2 hb2
    · rw [hb, hg a ha1, hg5]; exact h4 a ha1 ha2
  · rcases hb with ⟨hb1, hb2⟩ | hb
    · rw [ha, hg b hb1, hg5]
      have h9 := h4 b hb1 hb2
      exact ⟨fun e => (h9.mp e.symm).symm, fun e => (h9.mpr (Eq.symm e)).symm⟩
    · rw [ha, hb]; exact ⟨fun _ => rfl, fun _ => rfl⟩
end
section
/-! What the class gathers over its cases, against what the reference asks of all groupings. -/
section FRAME
variable {sm ot sm' ot' : Nat → Nat → Bool} {m n : Nat} {fr to fr' to' : Nat → Nat} {I I' : Nat → Bool}
/-- left is true of some state of this case -/
def hc_A (sm ot : Nat → Nat → Bool) (m : Nat) (fr to : Nat → Nat) (I : Nat → Bool) (v : Nat → Nat) : Prop := hc_PO v sm ot ∧ hc_BG (v 5) m (fun p => v (fr p)) (fun p => v (to p)) I
abbrev hc_nv (m : Nat) (fr to : Nat → Nat) (I : Nat → Bool) (v : Nat → Nat) : Nat → Option Nat := hc_nx (hc_w0 (fun p => v (fr p)) (fun p => v (to p)) I m)
abbrev hc_lv (m : Nat) (fr to : Nat → Nat) (I : Nat → Bool) (v : Nat → Nat) : Nat → Bool := hc_fa (hc_w0 (fun p => v (fr p)) (fun p => v (to p)) I m)
abbrev hc_Nv (fr to : Nat → Nat) (I : Nat → Bool) (v : Nat → Nat) (p : Nat) : Prop := hc_N (fun p => v (fr p)) (fun p => v (to p)) I p
/-- right has the stretches c there -/
def hc_G (m : Nat) (fr to : Nat → Nat) (I : Nat → Bool) (sm' ot' : Nat → Nat → Bool) (n : Nat) (fr' to' : Nat → Nat) (I' : Nat → Bool) (v : Nat → Nat) (c : Nat → List Nat) : Prop :=
  hc_PO v sm' ot' ∧ hc_CT (hc_nv m fr to I v) (hc_lv m fr to I v) (v 5) n (fun i => v (fr' i)) (fun i => v (to' i)) I' c
/-- the frame f is right for this case -/
def hc_F (m : Nat) (fr to : Nat → Nat) (I : Nat → Bool) (sm' ot' : Nat → Nat → Bool) (n : Nat) (fr' to' : Nat → Nat) (I' : Nat → Bool) (f : Nat → Bool) (v : Nat → Nat) : Prop :=
  ∃ c, hc_G m fr to I sm' ot' n fr' to' I' v c ∧ ∀ p, p < m → hc_Nv fr to I v p → (f p = true ↔ ∀ i, i < n → v (fr p) ∉ c i)
/-- the terms that a claim names -/
def hc_U (sm ot : Nat → Nat → Bool) (m : Nat) (fr to : Nat → Nat) (U : Nat → Prop) : Prop := (∀ a, a < 6 → ∀ b, b < 6 → sm a b = true ∨ ot a b = true → U a ∧ U b) ∧ ∀ p, p < m → U (fr p) ∧ U (to p)
theorem hc_A_move {U : Nat → Prop} {v v' : Nat → Nat} (hk : hc_kq U v v') (h5 : U 5) (hU : hc_U sm ot m fr to U) (h : hc_A sm ot m fr to I v) : hc_A sm ot m fr to I v' := ⟨hc_PO_move hk hU.1 h.1, hc_BG_move hk h5 hU.2 h.2⟩
theorem hc_G_det {v : Nat → Nat} {c c' : Nat → List Nat} (h : hc_G m fr to I sm' ot' n fr' to' I' v c) (h' : hc_G m fr to I sm' ot' n fr' to' I' v c') : ∀ i, i < n → c i = c' i := fun i hi => hc_pp_det (h.2.1 i hi).1 (h'.2.1 i hi).1
theorem hc_G_move {U : Nat → Prop} {v v' : Nat → Nat} (hk : hc_kq U v v') (h5 : U 5) (hU : hc_U sm ot m fr to U) (hU' : hc_U sm' ot' n fr' to' U) (hA : hc_A sm ot m fr to I v) {c : Nat → List Nat} (h : hc_G m fr to I sm' ot' n fr' to' I' v c) :
    ∃ c', hc_G m fr to I sm' ot' n fr' to' I' v' c' ∧ ∀ p, p < m → hc_Nv fr to I v p → ∀ i, i < n → (v' (fr p) ∈ c' i ↔ v (fr p) ∈ c i) := by
  obtain ⟨c', h1, h2⟩ := hc_CT_move hk h5 hU.2 hU'.2 (hc_w0_H hA.2) (hc_w0_H (hc_A_move hk h5 hU hA).2) h.2
  exact ⟨c', ⟨hc_PO_move hk hU'.1 h.1, h1⟩, h2⟩
theorem hc_F_move {U : Nat → Prop} {v v' : Nat → Nat} {f : Nat → Bool} (hk : hc_kq U v v') (h5 : U 5) (hU : hc_U sm ot m fr to U) (hU' : hc_U sm' ot' n fr' to' U) (hA : hc_A sm ot m fr to I v) (h : hc_F m fr to I sm' ot' n fr' to' I' f v) :
    hc_F m fr to I sm' ot' n fr' to' I' f v' := by
  obtain ⟨c, h1, h2⟩ := h
  obtain ⟨c', k1, k2⟩ := hc_G_move hk h5 hU hU' hA h1
  refine ⟨c', k1, fun p hp hN => ?_⟩
  have hN' : hc_Nv fr to I v p := hc_N_move hk.symm (hU.2 p hp).1 (hU.2 p hp).2 hN
  rw [h2 p hp hN']
  exact ⟨fun q i hi e => q i hi ((k2 p hp hN' i hi).mp e), fun q i hi e => q i hi ((k2 p hp hN' i hi).mpr e)⟩
/-- all groupings, or the class's cases: it is one -/
theorem hc_all_cas {M : Nat} (hM : M < 32) (hU : hc_U sm ot m fr to (fun t => (t < 5 ∧ M.testBit t = true) ∨ t = 5)) {P : (Nat → Nat) → Prop}
    (hP : ∀ v v', hc_kq (fun t => (t < 5 ∧ M.testBit t = true) ∨ t = 5) v v' → hc_A sm ot m fr to I v → P v → P v') :
    (∀ l, l ∈ hc_all → hc_A sm ot m fr to I (fun t => l.getD t 0) → P (fun t => l.getD t 0)) ↔ ∀ l, l ∈ hc_cas M → hc_A sm ot m fr to I (fun t => l.getD t 0) → P (fun t => l.getD t 0) := by
  have h5 : (fun t => (t < 5 ∧ M.testBit t = true) ∨ t = 5) 5 := Or.inr rfl
  constructor
  · intro h l hl hA
    obtain ⟨l', h1, h2⟩ := hc_cov_all (fun t => l.getD t 0)
    have hk : hc_kq (fun t => (t < 5 ∧ M.testBit t = true) ∨ t = 5) (fun t => l.getD t 0) (fun t => l'.getD t 0) := fun a b ha hb => h2 a b (by rcases ha with ha | ha <;> omega) (by rcases hb with hb | hb <;> omega)
    have hA' := hc_A_move hk h5 hU hA
    exact hP _ _ hk.symm hA' (h l' h1 hA')
  · intro h l hl hA
    obtain ⟨l', h1, hk⟩ := hc_cov_cas M hM (fun t => l.getD t 0)
    have hA' := hc_A_move hk h5 hU hA
    exact hP _ _ hk.symm hA' (h l' h1 hA')
/-- what the cases cs have gathered -/
def hc_nd (sm ot : Nat → Nat → Bool) (m : Nat) (fr to : Nat → Nat) (I : Nat → Bool) (sm' ot' : Nat → Nat → Bool) (n : Nat) (fr' to' : Nat → Nat) (I' : Nat → Bool) (cs : List (List Nat)) (p : Nat) : Prop :=
  ∃ l, l ∈ cs ∧ hc_A sm ot m fr to I (fun t => l.getD t 0) ∧ hc_Nv fr to I (fun t => l.getD t 0) p ∧ ∃ c, hc_G m fr to I sm' ot' n fr' to' I' (fun t => l.getD t 0) c ∧ ∀ i, i < n → l.getD (fr p) 0 ∉ c i
def hc_bd (sm ot : Nat → Nat → Bool) (m : Nat) (fr to : Nat → Nat) (I : Nat → Bool) (sm' ot' : Nat → Nat → Bool) (n : Nat) (fr' to' : Nat → Nat) (I' : Nat → Bool) (cs : List (List Nat)) (p : Nat) : Prop :=
  ∃ l, l ∈ cs ∧ hc_A sm ot m fr to I (fun t => l.getD t 0) ∧ hc_Nv fr to I (fun t => l.getD t 0) p ∧ ∃ c, hc_G m fr to I sm' ot' n fr' to' I' (fun t => l.getD t 0) c ∧ ∃ i, i < n ∧ l.getD (fr p) 0 ∈ c i
variable {cs : List (List Nat)}
theorem hc_fr_no (h : (∃ l, l ∈ cs ∧ hc_A sm ot m fr to I (fun t => l.getD t 0) ∧ ¬ ∃ c, hc_G m fr to I sm' ot' n fr' to' I' (fun t => l.getD t 0) c) ∨ ∃ p, p < m ∧ hc_nd sm ot m fr to I sm' ot' n fr' to' I' cs p ∧ hc_bd sm ot m fr to I sm' ot' n fr' to' I' cs p) (f : Nat → Bool) :
    ¬ ∀ l, l ∈ cs → hc_A sm ot m fr to I (fun t => l.getD t 0) → hc_F m fr to I sm' ot' n fr' to' I' f (fun t => l.getD t 0) := by
  intro hf
  rcases h with ⟨l, h1, h2, h3⟩ | ⟨p, hp, ⟨l, a1, a2, a3, c, a4, a5⟩, ⟨l2, b1, b2, b3, c2, b4, i, hi, b5⟩⟩
  · obtain ⟨c, h4, -⟩ := hf l h1 h2
    exact h3 ⟨c, h4⟩
  · obtain ⟨d, d1, d2⟩ := hf l a1 a2
    have hfp : f p = true := (d2 p hp a3).mpr (fun i hi => by rw [hc_G_det d1 a4 i hi]; exact a5 i hi)
    obtain ⟨d', e1, e2⟩ := hf l2 b1 b2
    refine (e2 p hp b3).mp hfp i hi ?_
    rw [hc_G_det e1 b4 i hi]
    exact b5
theorem hc_fr_yes (h : ∀ l, l ∈ cs → hc_A sm ot m fr to I (fun t => l.getD t 0) → ∃ c, hc_G m fr to I sm' ot' n fr' to' I' (fun t => l.getD t 0) c) {f : Nat → Bool} (hf : ∀ p, p < m → (f p = true ↔ hc_nd sm ot m fr to I sm' ot' n fr' to' I' cs p))
    (hno : ∀ p, p < m → hc_nd sm ot m fr to I sm' ot' n fr' to' I' cs p → ¬ hc_bd sm ot m fr to I sm' ot' n fr' to' I' cs p) :
    (∀ l, l ∈ cs → hc_A sm ot m fr to I (fun t => l.getD t 0) → hc_F m fr to I sm' ot' n fr' to' I' f (fun t => l.getD t 0)) ∧
    ∀ f' : Nat → Bool, (∀ l, l ∈ cs → hc_A sm ot m fr to I (fun t => l.getD t 0) → hc_F m fr to I sm' ot' n fr' to' I' f' (fun t => l.getD t 0)) → ∀ p, p < m → f p = true → f' p = true := by
  refine ⟨fun l hl hA => ?_, fun f' hf' p hp hfp => ?_⟩
  · obtain ⟨c, hc⟩ := h l hl hA
    refine ⟨c, hc, fun p hp hN => ⟨fun hfp i hi e => hno p hp ((hf p hp).mp hfp) ⟨l, hl, hA, hN, c, hc, i, hi, e⟩, fun q => (hf p hp).mpr ⟨l, hl, hA, hN, c, hc, q⟩⟩⟩
  · obtain ⟨l, a1, a2, a3, c, a4, a5⟩ := (hf p hp).mp hfp
    obtain ⟨d, d1, d2⟩ := hf' l a1 a2
    exact (d2 p hp a3).mpr (fun i hi => by rw [hc_G_det d1 a4 i hi]; exact a5 i hi)
end FRAME
end
section
/-! The class's walk along a list, step by step; the reference's choices. -/
def hc_b (b : Bool) : Int32 := if b = true then 1 else 0
section WALK
variable {nx : Nat → Option Nat} {lg : Nat → Bool} {nil s e x G : Nat}
theorem hc_PP_ext : ∀ (pre l : List Nat) (g : Nat), hc_PP nx e x pre g → hc_P nx e l g → ∃ l2, l = pre ++ l2 ∧ hc_P nx e l2 x := by
  intro pre
  induction pre with
  | nil => intro l g h hp; exact ⟨l, rfl, by rw [← show g = x from h]; exact hp⟩
  | cons a pre ih =>
    intro l g h hp
    obtain ⟨h1, h2, y, hy, hq⟩ := h
    cases l with
    | nil => exact absurd (hc_P_nil.mp hp) h2
    | cons b l =>
      obtain ⟨k1, k2, z, hz, hr⟩ := hc_P_cons.mp hp
      rw [hy] at hz
      injection hz with hz
      rw [← hz] at hr
      obtain ⟨l2, q1, q2⟩ := ih l y hq hr
      exact ⟨l2, by rw [q1, h1, k1]; rfl, q2⟩
theorem hc_PP_snoc {z : Nat} (hx : x ≠ e) (hz : nx x = some z) (pre : List Nat) (g : Nat) (h : hc_PP nx e x pre g) : hc_PP nx e z (pre ++ [x]) g := hc_PP_app hx hz pre g h
/-- no cell there: no path goes on -/
theorem hc_walk_none {pre : List Nat} (hp : hc_PP nx e x pre s) (hx : x ≠ e) (hn : nx x = none) : ¬ ∃ l, hc_cp nx lg nil s e true l := by
  rintro ⟨l, h, -⟩
  obtain ⟨l2, h1, h2⟩ := hc_PP_ext pre l s hp (h.1 rfl)
  have h3 := hc_P_head h2 hx
  exact (hc_P_ne _ _ h2 x h3).2 hn
/-- a loose end that may lie inside -/
theorem hc_walk_loose {pre : List Nat} (hp : hc_PP nx e x pre s) (hx : x ≠ e) (hlo : hc_lo nx nil e) (hlg : lg x = true) (hn : nx x ≠ some e) : ¬ ∃ l, hc_cp nx lg nil s e true l := by
  rintro ⟨l, h, hc⟩
  obtain ⟨l2, h1, h2⟩ := hc_PP_ext pre l s hp (h.1 rfl)
  exact hn (hc rfl hlo x (by rw [h1]; exact List.mem_append.mpr (Or.inr (hc_P_head h2 hx))) hlg)
/-- as many steps as there are addresses, and not there: a circle -/
theorem hc_walk_long {pre : List Nat} (hG : ∀ a, nx a ≠ none → 1 ≤ a ∧ a ≤ G) (hp : hc_PP nx e x pre s) (hx : x ≠ e) (hlen : G ≤ pre.length) : ¬ ∃ l, hc_cp nx lg nil s e true l := by
  rintro ⟨l, h, -⟩
  have hl := h.1 rfl
  obtain ⟨l2, h1, h2⟩ := hc_PP_ext pre l s hp hl
  have h3 := List.length_pos_of_mem (hc_P_head h2 hx)
  have h4 := hc_pigeon l ((List.range G).map (fun a => a + 1)) (hc_P_nodup l s hl) (fun a ha => by
    obtain ⟨k1, k2⟩ := hG a (hc_P_ne _ _ hl a ha).2
    exact List.mem_map.mpr ⟨a - 1, List.mem_range.mpr (by omega), by omega⟩)
  rw [List.length_map, List.length_range, h1, List.length_append] at h4
  omega
theorem hc_walk_done {l : List Nat} (hp : hc_PP nx e e l s) (hc : hc_lo nx nil e → ∀ a, a ∈ l → lg a = true → nx a = some e) : hc_cp nx lg nil s e true l := ⟨⟨fun _ => hp, fun h => by cases h⟩, fun _ => hc⟩
end WALK
section CHOICE
variable {fr : Nat → Prop} {L : List (Nat × Nat × Bool) → Prop} {k x e : Nat} {rs : List (Nat × Nat)} {as : List (Nat × Nat × Bool)}
/-- the reference's choice c -/
def hc_Ch (fr : Nat → Prop) (L : List (Nat × Nat × Bool) → Prop) (k x e : Nat) (rs : List (Nat × Nat)) (as : List (Nat × Nat × Bool)) (c : Nat) : Prop :=
  if c < 2 then hc_Ex fr L k rs ((x, e, decide (c % 2 = 1)) :: as) else
    fr (c / 2 - 1) ∧ c / 2 - 1 ≠ e ∧ c / 2 - 1 ≠ x ∧ hc_nx as (c / 2 - 1) = none ∧ hc_Ex fr L k ((c / 2 - 1, e) :: rs) ((x, c / 2 - 1, decide (c % 2 = 1)) :: as)
theorem hc_Ex_Ch (hfr : ∀ g, fr g → g < 6) : hc_Ex fr L (k + 1) ((x, e) :: rs) as ↔ ∃ c, c < 14 ∧ hc_Ch fr L k x e rs as c := by
  rw [hc_Ex_cons]
  constructor
  · rintro ⟨b, h | ⟨g, g1, g2, g3, g4, h⟩⟩
    · cases b with
      | false => exact ⟨0, by omega, by unfold hc_Ch; rw [if_pos (by omega)]; exact h⟩
      | true => exact ⟨1, by omega, by unfold hc_Ch; rw [if_pos (by omega)]; exact h⟩
    · have hg := hfr g g1
      cases b with
      | false =>
        refine ⟨2 * g + 2, by omega, ?_⟩
        unfold hc_Ch
        rw [if_neg (by omega), show (2 * g + 2) / 2 - 1 = g by omega, show decide ((2 * g + 2) % 2 = 1) = false from decide_eq_false (by omega)]
        exact ⟨g1, g2, g3, g4, h⟩
      | true =>
        refine ⟨2 * g + 3, by omega, ?_⟩
        unfold hc_Ch
        rw [if_neg (by omega), show (2 * g + 3) / 2 - 1 = g by omega, show decide ((2 * g + 3) % 2 = 1) = true from decide_eq_true (by omega)]
        exact ⟨g1, g2, g3, g4, h⟩
  · rintro ⟨c, hc, h⟩
    unfold hc_Ch at h
    by_cases hc2 : c < 2
    · rw [if_pos hc2] at h
      exact ⟨_, Or.inl h⟩
    · rw [if_neg hc2] at h
      obtain ⟨g1, g2, g3, g4, h⟩ := h
      exact ⟨_, Or.inr ⟨c / 2 - 1, g1, g2, g3, g4, h⟩⟩
end CHOICE
end
section
/-! Pieces one after another: what has been taken so far. -/
section PARTS
variable {nx : Nat → Option Nat} {lg : Nat → Bool} {n m : Nat} {S E S' E' : Nat → Nat} {I I' : Nat → Bool} {f : Nat → Bool}
/-- the first i pieces of the one claim and those at bits of f among the first k of the other have the addresses T -/
def hc_PR (nx : Nat → Option Nat) (lg : Nat → Bool) (S' E' : Nat → Nat) (I' : Nat → Bool) (f : Nat → Bool) (S E : Nat → Nat) (I : Nat → Bool) (i k : Nat) (T : Nat → Bool) : Prop :=
  ∃ c d : Nat → List Nat, (∀ j, j < i → hc_pp nx lg (S' j) (E' j) (I' j) (c j)) ∧ (∀ p, p < k → f p = true → hc_pp nx lg (S p) (E p) (I p) (d p)) ∧
    (∀ j j', j < i → j' < i → j ≠ j' → hc_Dj (c j) (c j')) ∧ (∀ j p, j < i → p < k → f p = true → hc_Dj (c j) (d p)) ∧ (∀ p q, p < k → q < k → f p = true → f q = true → p ≠ q → hc_Dj (d p) (d q)) ∧
    ∀ g, g < 6 → (T g = true ↔ (∃ j, j < i ∧ g ∈ c j) ∨ ∃ p, p < k ∧ f p = true ∧ g ∈ d p)
theorem hc_PR_0 : hc_PR nx lg S' E' I' f S E I 0 0 (fun _ => false) :=
  ⟨fun _ => [], fun _ => [], fun _ h => absurd h (Nat.not_lt_zero _), fun _ h => absurd h (Nat.not_lt_zero _), fun _ _ h => absurd h (Nat.not_lt_zero _), fun _ _ h => absurd h (Nat.not_lt_zero _), fun _ _ h => absurd h (Nat.not_lt_zero _), fun g _ =>
    ⟨fun h => (by cases h), fun h => by rcases h with ⟨j, h, _⟩ | ⟨j, h, _⟩ <;> exact absurd h (Nat.not_lt_zero _)⟩⟩
theorem hc_up_s {α : Type} (c : Nat → α) (i : Nat) (x : α) : va_up c i x i = x := by unfold va_up; rw [if_pos rfl]
theorem hc_up_n {α : Type} (c : Nat → α) {i j : Nat} (x : α) (h : j ≠ i) : va_up c i x j = c j := by unfold va_up; rw [if_neg h]
theorem hc_PR_right {i : Nat} {T T' : Nat → Bool} (hkey : ∀ g, nx g ≠ none → g < 6) (h : hc_PR nx lg S' E' I' f S E I i 0 T) {l : List Nat} (hl : hc_pp nx lg (S' i) (E' i) (I' i) l) (hT : ∀ a, a ∈ l → T a = false) (hT' : ∀ g, g < 6 → T' g = (T g || decide (g ∈ l))) :
    hc_PR nx lg S' E' I' f S E I (i + 1) 0 T' := by
  obtain ⟨c, d, h1, h2, h3, h4, h5, h6⟩ := h
  have hfr : ∀ j, j < i → hc_Dj l (c j) := fun j hj a ha hb => by
    have h9 := (h6 a (hkey a (hc_pp_cell hl ha))).mpr (Or.inl ⟨j, hj, hb⟩)
    rw [hT a ha] at h9; cases h9
  refine ⟨va_up c i l, d, fun j hj => ?_, fun _ h => absurd h (Nat.not_lt_zero _), fun j j' hj hj' hjj => ?_, fun _ _ _ h => absurd h (Nat.not_lt_zero _), fun _ _ h => absurd h (Nat.not_lt_zero _), fun g hg => ?_⟩
  · by_cases hji : j = i
    · rw [hji, hc_up_s]; exact hl
    · rw [hc_up_n c l hji]; exact h1 j (by omega)
  · by_cases hji : j = i
    · have hj'i : j' ≠ i := fun q => hjj (hji.trans q.symm)
      rw [hji, hc_up_s, hc_up_n c l hj'i]; exact hfr j' (by omega)
    · by_cases hj'i : j' = i
      · rw [hj'i, hc_up_s, hc_up_n c l hji]; exact (hfr j (by omega)).symm
      · rw [hc_up_n c l hji, hc_up_n c l hj'i]; exact h3 j j' (by omega) (by omega) hjj
  · rw [hT' g hg, Bool.or_eq_true, decide_eq_true_eq, h6 g hg]
    constructor
    · rintro ((⟨j, hj, hgj⟩ | ⟨p, hp, _⟩) | hgl)
      · exact Or.inl ⟨j, by omega, by rw [hc_up_n c l (by omega)]; exact hgj⟩
      · exact absurd hp (Nat.not_lt_zero _)
      · exact Or.inl ⟨i, by omega, by rw [hc_up_s]; exact hgl⟩
    · rintro (⟨j, hj, hgj⟩ | ⟨p, hp, _⟩)
      · by_cases hji : j = i
        · rw [hji, hc_up_s] at hgj; exact Or.inr hgj
        · rw [hc_up_n c l hji] at hgj; exact Or.inl (Or.inl ⟨j, by omega, hgj⟩)
      · exact absurd hp (Nat.not_lt_zero _)
theorem hc_PR_right_no {i : Nat} {T : Nat → Bool} (hkey : ∀ g, nx g ≠ none → g < 6) (hi : i < n) (h : hc_PR nx lg S' E' I' f S E I i 0 T) (hno : ¬ ∃ l, hc_pp nx lg (S' i) (E' i) (I' i) l ∧ ∀ a, a ∈ l → T a = false) : ¬ hc_TR nx lg n S' E' I' m f S E I := by
  rintro ⟨c', d', k1, k2, k3, k4, k5, k6⟩
  obtain ⟨c, d, h1, h2, h3, h4, h5, h6⟩ := h
  refine hno ⟨c' i, k1 i hi, fun a ha => ?_⟩
  cases hTa : T a with
  | false => rfl
  | true =>
    rcases (h6 a (hkey a (hc_pp_cell (k1 i hi) ha))).mp hTa with ⟨j, hj, hm⟩ | ⟨p, hp, _⟩
    · rw [hc_pp_det (h1 j hj) (k1 j (by omega))] at hm
      exact absurd hm (k3 i j hi (by omega) (by omega) a ha)
    · exact absurd hp (Nat.not_lt_zero _)
theorem hc_PR_more {k : Nat} {T T' : Nat → Bool} (hkey : ∀ g, nx g ≠ none → g < 6) (h : hc_PR nx lg S' E' I' f S E I n k T) (hf : f k = true) {l : List Nat} (hl : hc_pp nx lg (S k) (E k) (I k) l) (hT : ∀ a, a ∈ l → T a = false) (hT' : ∀ g, g < 6 → T' g = (T g || decide (g ∈ l))) :
    hc_PR nx lg S' E' I' f S E I n (k + 1) T' := by
  obtain ⟨c, d, h1, h2, h3, h4, h5, h6⟩ := h
  have hfr : ∀ j, j < n → hc_Dj (c j) l := fun j hj a ha hb => by
    have h9 := (h6 a (hkey a (hc_pp_cell hl hb))).mpr (Or.inl ⟨j, hj, ha⟩)
    rw [hT a hb] at h9; cases h9
  have hfr2 : ∀ p, p < k → f p = true → hc_Dj (d p) l := fun p hp hfp a ha hb => by
    have h9 := (h6 a (hkey a (hc_pp_cell hl hb))).mpr (Or.inr ⟨p, hp, hfp, ha⟩)
    rw [hT a hb] at h9; cases h9
  refine ⟨c, va_up d k l, h1, fun p hp hfp => ?_, h3, fun j p hj hp hfp => ?_, fun p q hp hq hfp hfq hpq => ?_, fun g hg => ?_⟩
  · by_cases hpk : p = k
    · rw [hpk, hc_up_s]; exact hl
    · rw [hc_up_n d l hpk]; exact h2 p (by omega) hfp
  · by_cases hpk : p = k
    · rw [hpk, hc_up_s]; exact hfr j hj
    · rw [hc_up_n d l hpk]; exact h4 j p hj (by omega) hfp
  · by_cases hpk : p = k
    · have hqk : q ≠ k := fun e => hpq (hpk.trans e.symm)
      rw [hpk, hc_up_s, hc_up_n d l hqk]; exact (hfr2 q (by omega) hfq).symm
    · by_cases hqk : q = k
      · rw [hqk, hc_up_s, hc_up_n d l hpk]; exact hfr2 p (by omega) hfp
      · rw [hc_up_n d l hpk, hc_up_n d l hqk]; exact h5 p q (by omega) (by omega) hfp hfq hpq
  · rw [hT' g hg, Bool.or_eq_true, decide_eq_true_eq, h6 g hg]
    constructor
    · rintro ((h | ⟨p, hp, hfp, hgp⟩) | hgl)
      · exact Or.inl h
      · exact Or.inr ⟨p, by omega, hfp, by rw [hc_up_n d l (by omega)]; exact hgp⟩
      · exact Or.inr ⟨k, by omega, hf, by rw [hc_up_s]; exact hgl⟩
    · rintro (h | ⟨p, hp, hfp, hgp⟩)
      · exact Or.inl (Or.inl h)
      · by_cases hpk : p = k
        · rw [hpk, hc_up_s] at hgp; exact Or.inr hgp
        · rw [hc_up_n d l hpk] at hgp; exact Or.inl (Or.inr ⟨p, by omega, hfp, hgp⟩)
theorem hc_PR_skip {k : Nat} {T : Nat → Bool} (h : hc_PR nx lg S' E' I' f S E I n k T) (hf : f k = false) : hc_PR nx lg S' E' I' f S E I n (k + 1) T := by
  obtain ⟨c, d, h1, h2, h3, h4, h5, h6⟩ := h
  have hk : ∀ p, p < k + 1 → f p = true → p < k := fun p hp hfp => by
    by_cases hpk : p = k
    · rw [hpk, hf] at hfp; cases hfp
    · omega
  refine ⟨c, d, h1, fun p hp hfp => h2 p (hk p hp hfp) hfp, h3, fun j p hj hp hfp => h4 j p hj (hk p hp hfp) hfp, fun p q hp hq hfp hfq => h5 p q (hk p hp hfp) (hk q hq hfq) hfp hfq, fun g hg => ?_⟩
  rw [h6 g hg]
  constructor
  · rintro (h | ⟨p, hp, hfp, hgp⟩)
    · exact Or.inl h
    · exact Or.inr ⟨p, by omega, hfp, hgp⟩
  · rintro (h | ⟨p, hp, hfp, hgp⟩)
    · exact Or.inl h
    · exact Or.inr ⟨p, hk p hp hfp, hfp, hgp⟩
theorem hc_PR_more_no {k : Nat} {T : Nat → Bool} (hkey : ∀ g, nx g ≠ none → g < 6) (hk : k < m) (hf : f k = true) (h : hc_PR nx lg S' E' I' f S E I n k T) (hno : ¬ ∃ l, hc_pp nx lg (S k) (E k) (I k) l ∧ ∀ a, a ∈ l → T a = false) : ¬ hc_TR nx lg n S' E' I' m f S E I := by
  rintro ⟨c', d', k1, k2, k3, k4, k5, k6⟩
  obtain ⟨c, d, h1, h2, h3, h4, h5, h6⟩ := h
  refine hno ⟨d' k, k2 k hk hf, fun a ha => ?_⟩
  cases hTa : T a with
  | false => rfl
  | true =>
    rcases (h6 a (hkey a (hc_pp_cell (k2 k hk hf) ha))).mp hTa with ⟨j, hj, hm⟩ | ⟨p, hp, hfp, hm⟩
    · rw [hc_pp_det (h1 j hj) (k1 j hj)] at hm
      exact absurd ha (k4 j k hj hk hf a hm)
    · rw [hc_pp_det (h2 p hp hfp) (k2 p (by omega) hfp)] at hm
      exact absurd ha (k5 p k (by omega) hk hfp hf (by omega) a hm)
theorem hc_PR_end {T : Nat → Bool} (hkey : ∀ g, nx g ≠ none → g < 6) (h : hc_PR nx lg S' E' I' f S E I n m T) : hc_TR nx lg n S' E' I' m f S E I ↔ ∀ g, g < 6 → nx g ≠ none → T g = true := by
  obtain ⟨c, d, h1, h2, h3, h4, h5, h6⟩ := h
  constructor
  · rintro ⟨c', d', k1, k2, k3, k4, k5, k6⟩ g hg hn
    refine (h6 g hg).mpr ?_
    rcases k6 g hn with ⟨i, hi, hm⟩ | ⟨p, hp, hfp, hm⟩
    · exact Or.inl ⟨i, hi, by rw [hc_pp_det (h1 i hi) (k1 i hi)]; exact hm⟩
    · exact Or.inr ⟨p, hp, hfp, by rw [hc_pp_det (h2 p hp hfp) (k2 p hp hfp)]; exact hm⟩
  · intro hall
    exact ⟨c, d, h1, h2, h3, h4, h5, fun g hn => (h6 g (hkey g hn)).mp (hall g (hkey g hn) hn)⟩
/-- the reference's walk: fresh addresses to the end -/
theorem hc_take_step {T : Nat → Bool} {g g' e : Nat} (hne : g ≠ e) (hg : nx g = some g') (hT : T g = false) : (∃ l, hc_P nx e l g ∧ ∀ a, a ∈ l → T a = false) ↔ ∃ l, hc_P nx e l g' ∧ ∀ a, a ∈ l → va_up T g true a = false := by
  constructor
  · rintro ⟨l, h1, h2⟩
    cases l with
    | nil => exact absurd (hc_P_nil.mp h1) hne
    | cons b l =>
      have hnd := hc_P_nodup _ _ h1
      obtain ⟨k1, k2, y, hy, k3⟩ := hc_P_cons.mp h1
      rw [hg] at hy
      injection hy with hy
      refine ⟨l, by rw [hy]; exact k3, fun a ha => ?_⟩
      have hag : a ≠ g := fun q => (List.nodup_cons.mp hnd).1 (by rw [k1, ← q]; exact ha)
      rw [hc_up_n T true hag]
      exact h2 a (List.mem_cons_of_mem _ ha)
  · rintro ⟨l, h1, h2⟩
    refine ⟨g :: l, hc_P_cons.mpr ⟨rfl, hne, g', hg, h1⟩, fun a ha => ?_⟩
    rcases List.mem_cons.mp ha with ha | ha
    · rw [ha]; exact hT
    · have h3 := h2 a ha
      by_cases hag : a = g
      · rw [hag, hc_up_s] at h3; cases h3
      · rw [hc_up_n T true hag] at h3; exact h3
end PARTS
end
section
/-! own rows: the kit's, over numbers nI and places -/
theorem hw_of (n : Nat) : Int32.ofInt (n : Int) = nI n := rfl
theorem hw_inc (n : Nat) : nI n + Int32.ofInt 1 = nI (n + 1) := by rw [show Int32.ofInt 1 = 1 from rfl]; exact nI_1 n
theorem hw_dec {n : Nat} (h : 0 < n) : nI n + Int32.ofInt (-1) = nI (n - 1) := by
  obtain ⟨k, rfl⟩ : ∃ k, n = k + 1 := ⟨n - 1, by omega⟩
  rw [show Int32.ofInt (-1) = -1 from rfl, Nat.add_sub_cancel]
  exact pk_m1 k
theorem hw_upd {n : Nat} {F : Nat → Int32} {f : Nat → Nat} (h : ∀ i, i < n → F i = nI (f i)) (j x : Nat) : ∀ i, i < n → upd F j (nI x) i = nI (va_up f j x i) := fun i hi => by
  unfold upd va_up
  by_cases hij : i = j
  · rw [if_pos hij, if_pos hij]
  · rw [if_neg hij, if_neg hij]; exact h i hi
theorem hw_updb {n : Nat} {F : Nat → Int32} {f : Nat → Bool} (h : ∀ i, i < n → F i = hc_b (f i)) (j : Nat) (x : Bool) : ∀ i, i < n → upd F j (hc_b x) i = hc_b (va_up f j x i) := fun i hi => by
  unfold upd va_up
  by_cases hij : i = j
  · rw [if_pos hij, if_pos hij]
  · rw [if_neg hij, if_neg hij]; exact h i hi
theorem hw_narb (b : Bool) : vp_nar .boolean (hc_b b) = hc_b b := by cases b <;> decide +kernel
theorem hw_b0 {b : Bool} : hc_b b = 0 ↔ b = false := by cases b <;> decide
section HW
variable {p : Program} {l : Launch} {e : Env} {R : Room} {s : State} {m : MethodId} {args : Array Value} {below : List Frame} {meth : Method} {c : Code} {H : Heap} {locs : List Loc} {cells slots : Nat} {Q : State → Prop}
variable {cc : ByteArray} {pc : Nat} {ls : Array Slot} {rest : List Value} {D : va_G} {cl : List vw_C} {A : Nat → Prop} {tys : List (ClassId × FieldType)} {ws : va_W} {H0 : Heap} {q : Nat}
theorem hw_iadd (hx : p.tables.exec = Jvm.exec) (hb : c.code = cc) {a b : Nat} (hd : decode cc pc = .ok (.iadd, 1)) (k : W p l e R s m args below meth c H locs cells slots Q (F0 m (pc + 1) ls (.int (nI (a + b)) :: rest))) : W p l e R s m args below meth c H locs cells slots Q (F0 m pc ls (.int (nI b) :: .int (nI a) :: rest)) := lv_iadd hx hb hd (by rw [nI_add]; exact k)
theorem hw_imul (hx : p.tables.exec = Jvm.exec) (hb : c.code = cc) {a b : Nat} (hd : decode cc pc = .ok (.imul, 1)) (k : W p l e R s m args below meth c H locs cells slots Q (F0 m (pc + 1) ls (.int (nI (a * b)) :: rest))) : W p l e R s m args below meth c H locs cells slots Q (F0 m pc ls (.int (nI b) :: .int (nI a) :: rest)) := lv_imul hx hb hd (by rw [pk_mul]; exact k)
theorem hw_isub (hx : p.tables.exec = Jvm.exec) (hb : c.code = cc) {a b : Nat} (h : b ≤ a) (hd : decode cc pc = .ok (.isub, 1)) (k : W p l e R s m args below meth c H locs cells slots Q (F0 m (pc + 1) ls (.int (nI (a - b)) :: rest))) : W p l e R s m args below meth c H locs cells slots Q (F0 m pc ls (.int (nI b) :: .int (nI a) :: rest)) := lv_isub hx hb hd (by rw [pk_sub h]; exact k)
theorem hw_icmp_lt (hx : p.tables.exec = Jvm.exec) (hb : c.code = cc) {a b : Nat} (ha : a < 2 ^ 31) (hbb : b < 2 ^ 31) {off : Int} {tgt : Nat} (hd : decode cc pc = .ok (.if_icmp .lt off, 3)) (ht : (pc : Int) + off = (tgt : Int)) (kt : a < b → W p l e R s m args below meth c H locs cells slots Q (F0 m tgt ls rest)) (kf : b ≤ a → W p l e R s m args below meth c H locs cells slots Q (F0 m (pc + 3) ls rest)) : W p l e R s m args below meth c H locs cells slots Q (F0 m pc ls (.int (nI b) :: .int (nI a) :: rest)) := lv_icmp_lt hx hb hd ht (fun h => kt ((nI_ltI ha hbb).mp h)) (fun h => kf (Nat.not_lt.mp (fun q => h ((nI_ltI ha hbb).mpr q))))
theorem hw_icmp_ge (hx : p.tables.exec = Jvm.exec) (hb : c.code = cc) {a b : Nat} (ha : a < 2 ^ 31) (hbb : b < 2 ^ 31) {off : Int} {tgt : Nat} (hd : decode cc pc = .ok (.if_icmp .ge off, 3)) (ht : (pc : Int) + off = (tgt : Int)) (kt : b ≤ a → W p l e R s m args below meth c H locs cells slots Q (F0 m tgt ls rest)) (kf : a < b → W p l e R s m args below meth c H locs cells slots Q (F0 m (pc + 3) ls rest)) : W p l e R s m args below meth c H locs cells slots Q (F0 m pc ls (.int (nI b) :: .int (nI a) :: rest)) := lv_icmp_ge hx hb hd ht (fun h => kt ((nI_leI hbb ha).mp h)) (fun h => kf (Nat.not_le.mp (fun q => h ((nI_leI hbb ha).mpr q))))
theorem hw_icmp_gt (hx : p.tables.exec = Jvm.exec) (hb : c.code = cc) {a b : Nat} (ha : a < 2 ^ 31) (hbb : b < 2 ^ 31) {off : Int} {tgt : Nat} (hd : decode cc pc = .ok (.if_icmp .gt off, 3)) (ht : (pc : Int) + off = (tgt : Int)) (kt : b < a → W p l e R s m args below meth c H locs cells slots Q (F0 m tgt ls rest)) (kf : a ≤ b → W p l e R s m args below meth c H locs cells slots Q (F0 m (pc + 3) ls rest)) : W p l e R s m args below meth c H locs cells slots Q (F0 m pc ls (.int (nI b) :: .int (nI a) :: rest)) := lv_icmp_gt hx hb hd ht (fun h => kt ((nI_ltI hbb ha).mp h)) (fun h => kf (Nat.not_lt.mp (fun q => h ((nI_ltI hbb ha).mpr q))))
theorem hw_icmp_le (hx : p.tables.exec = Jvm.exec) (hb : c.code = cc) {a b : Nat} (ha : a < 2 ^ 31) (hbb : b < 2 ^ 31) {off : Int} {tgt : Nat} (hd : decode cc pc = .ok (.if_icmp .le off, 3)) (ht : (pc : Int) + off = (tgt : Int)) (kt : a ≤ b → W p l e R s m args below meth c H locs cells slots Q (F0 m tgt ls rest)) (kf : b < a → W p l e R s m args below meth c H locs cells slots Q (F0 m (pc + 3) ls rest)) : W p l e R s m args below meth c H locs cells slots Q (F0 m pc ls (.int (nI b) :: .int (nI a) :: rest)) := lv_icmp_le hx hb hd ht (fun h => kt ((nI_leI ha hbb).mp h)) (fun h => kf (Nat.not_le.mp (fun q => h ((nI_leI ha hbb).mpr q))))
theorem hw_icmp_eq (hx : p.tables.exec = Jvm.exec) (hb : c.code = cc) {a b : Nat} (ha : a < 2 ^ 31) (hbb : b < 2 ^ 31) {off : Int} {tgt : Nat} (hd : decode cc pc = .ok (.if_icmp .eq off, 3)) (ht : (pc : Int) + off = (tgt : Int)) (kt : a = b → W p l e R s m args below meth c H locs cells slots Q (F0 m tgt ls rest)) (kf : a ≠ b → W p l e R s m args below meth c H locs cells slots Q (F0 m (pc + 3) ls rest)) : W p l e R s m args below meth c H locs cells slots Q (F0 m pc ls (.int (nI b) :: .int (nI a) :: rest)) := lv_icmp_eq hx hb hd ht (fun h => kt ((nI_eq ha hbb).mp h)) (fun h => kf (fun q => h ((nI_eq ha hbb).mpr q)))
theorem hw_icmp_ne (hx : p.tables.exec = Jvm.exec) (hb : c.code = cc) {a b : Nat} (ha : a < 2 ^ 31) (hbb : b < 2 ^ 31) {off : Int} {tgt : Nat} (hd : decode cc pc = .ok (.if_icmp .ne off, 3)) (ht : (pc : Int) + off = (tgt : Int)) (kt : a ≠ b → W p l e R s m args below meth c H locs cells slots Q (F0 m tgt ls rest)) (kf : a = b → W p l e R s m args below meth c H locs cells slots Q (F0 m (pc + 3) ls rest)) : W p l e R s m args below meth c H locs cells slots Q (F0 m pc ls (.int (nI b) :: .int (nI a) :: rest)) := lv_icmp_ne hx hb hd ht (fun h => kt (fun q => h ((nI_eq ha hbb).mpr q))) (fun h => kf ((nI_eq ha hbb).mp h))
theorem hw_ifeq_b (hx : p.tables.exec = Jvm.exec) (hb : c.code = cc) {b : Bool} {off : Int} {tgt : Nat} (hd : decode cc pc = .ok (.ifCond .eq off, 3)) (ht : (pc : Int) + off = (tgt : Int)) (kt : b = false → W p l e R s m args below meth c H locs cells slots Q (F0 m tgt ls rest)) (kf : b = true → W p l e R s m args below meth c H locs cells slots Q (F0 m (pc + 3) ls rest)) : W p l e R s m args below meth c H locs cells slots Q (F0 m pc ls (.int (hc_b b) :: rest)) := lv_if_eq hx hb hd ht (fun h => kt (hw_b0.mp h)) (fun h => kf (by cases b with | true => rfl | false => exact absurd rfl h))
theorem hw_ifne_b (hx : p.tables.exec = Jvm.exec) (hb : c.code = cc) {b : Bool} {off : Int} {tgt : Nat} (hd : decode cc pc = .ok (.ifCond .ne off, 3)) (ht : (pc : Int) + off = (tgt : Int)) (kt : b = true → W p l e R s m args below meth c H locs cells slots Q (F0 m tgt ls rest)) (kf : b = false → W p l e R s m args below meth c H locs cells slots Q (F0 m (pc + 3) ls rest)) : W p l e R s m args below meth c H locs cells slots Q (F0 m pc ls (.int (hc_b b) :: rest)) := lv_if_ne hx hb hd ht (fun h => kt (by cases b with | true => rfl | false => exact absurd rfl h)) (fun h => kf (hw_b0.mp h))
theorem hw_iald (hx : p.tables.exec = Jvm.exec) (hb : c.code = cc) (hK : va_K D cl tys s) (hP : va_P D cl ws H) (q0 t0 : Nat) {cA : ClassId} {n : Nat} {f : Nat → Int32} (ha : ws[q0]? = some (q, .inl (cA, n, .inl f))) (ht : tys[t0]? = some (cA, .int)) {j : Nat} (hj : j < n) (hn : n < 2 ^ 31) {v : Int32} (hv : f j = v) (hd : decode cc pc = .ok (.iaload, 1)) (k : W p l e R s m args below meth c H locs cells slots Q (F0 m (pc + 1) ls (.int v :: rest))) : W p l e R s m args below meth c H locs cells slots Q (F0 m pc ls (.int (nI j) :: .ref q :: rest)) := va_iald hx hb hK hP q0 t0 ha ht (vp_in_nI hj hn) hd (by rw [nI_clamp (Nat.lt_trans hj hn), hv]; exact k)
theorem hw_zald (hx : p.tables.exec = Jvm.exec) (hb : c.code = cc) (hK : va_K D cl tys s) (hP : va_P D cl ws H) (q0 t0 : Nat) {cA : ClassId} {n : Nat} {f : Nat → Int32} (ha : ws[q0]? = some (q, .inl (cA, n, .inl f))) (ht : tys[t0]? = some (cA, .boolean)) {j : Nat} (hj : j < n) (hn : n < 2 ^ 31) {v : Int32} (hv : f j = v) (hd : decode cc pc = .ok (.baload, 1)) (k : W p l e R s m args below meth c H locs cells slots Q (F0 m (pc + 1) ls (.int v :: rest))) : W p l e R s m args below meth c H locs cells slots Q (F0 m pc ls (.int (nI j) :: .ref q :: rest)) := va_zald hx hb hK hP q0 t0 ha ht (vp_in_nI hj hn) hd (by rw [nI_clamp (Nat.lt_trans hj hn), hv]; exact k)
theorem hw_iast (hx : p.tables.exec = Jvm.exec) (hb : c.code = cc) (hK : va_K D cl tys s) (hP : va_P D cl ws H) (hD : va_D A ws) (hS : va_S A H0 H locs) (q0 t0 : Nat) {cA : ClassId} {n : Nat} {f : Nat → Int32} (ha : ws[q0]? = some (q, .inl (cA, n, .inl f))) (ht : tys[t0]? = some (cA, .int)) {j : Nat} {x : Int32} (hj : j < n) (hn : n < 2 ^ 31) (hd : decode cc pc = .ok (.iastore, 1)) (kk : ∀ (H1 : Heap) (locs1 : List Loc), va_P D cl (ws.set q0 (q, .inl (cA, n, .inl (upd f j x)))) H1 → va_D A (ws.set q0 (q, .inl (cA, n, .inl (upd f j x)))) → va_S A H0 H1 locs1 → W p l e R s m args below meth c H1 locs1 cells slots Q (F0 m (pc + 1) ls rest)) : W p l e R s m args below meth c H locs cells slots Q (F0 m pc ls (.int x :: .int (nI j) :: .ref q :: rest)) := va_iast hx hb hK hP hD hS q0 t0 ha ht (vp_in_nI hj hn) hd (by rw [nI_clamp (Nat.lt_trans hj hn)]; exact kk)
theorem hw_zast (hx : p.tables.exec = Jvm.exec) (hb : c.code = cc) (hK : va_K D cl tys s) (hP : va_P D cl ws H) (hD : va_D A ws) (hS : va_S A H0 H locs) (q0 t0 : Nat) {cA : ClassId} {n : Nat} {f : Nat → Int32} (ha : ws[q0]? = some (q, .inl (cA, n, .inl f))) (ht : tys[t0]? = some (cA, .boolean)) {j : Nat} {x : Int32} (hj : j < n) (hn : n < 2 ^ 31) (hd : decode cc pc = .ok (.bastore, 1)) (kk : ∀ (H1 : Heap) (locs1 : List Loc), va_P D cl (ws.set q0 (q, .inl (cA, n, .inl (upd f j (vp_nar .boolean x))))) H1 → va_D A (ws.set q0 (q, .inl (cA, n, .inl (upd f j (vp_nar .boolean x))))) → va_S A H0 H1 locs1 → W p l e R s m args below meth c H1 locs1 cells slots Q (F0 m (pc + 1) ls rest)) : W p l e R s m args below meth c H locs cells slots Q (F0 m pc ls (.int x :: .int (nI j) :: .ref q :: rest)) := va_zast hx hb hK hP hD hS q0 t0 ha ht (vp_in_nI hj hn) hd (by rw [nI_clamp (Nat.lt_trans hj hn)]; exact kk)
/-- a call that leaves the heap as it is -/
theorem hw_csi {post : Int32 → Prop} {a : Array Value} {st0 : List Value} (hr : va_Run p l e R s m args below meth c H locs cells slots 0 0 (F0 m pc ls st0) rest (vp_Si post a) (fun _ => False)) (kk : ∀ r : Int32, post r → W p l e R s m args below meth c H locs cells slots Q (F0 m (pc + 3) ls (.int r :: rest))) : W p l e R s m args below meth c H locs cells slots Q (F0 m pc ls st0) := by
  intro T hT X
  obtain ⟨v, st₀, t, T', L, h0, X', hL, e1, -, ⟨r, hv, hp, hh⟩, st⟩ := hr T hT X
  cases hv
  obtain ⟨t2, a1, b1⟩ := kk r hp T' (by rw [e1, hh, h0]) (Stand.forget X' (fun q h => (hL q h).elim))
  exact ⟨t2, st t2 a1, b1⟩
theorem hw_csr {post : Nat → Prop} {ad : Nat → Value} {a : Array Value} {st0 : List Value} (hr : va_Run p l e R s m args below meth c H locs cells slots 0 0 (F0 m pc ls st0) rest (va_Sr post ad a) (fun _ => False)) (kk : ∀ k : Nat, post k → W p l e R s m args below meth c H locs cells slots Q (F0 m (pc + 3) ls (ad k :: rest))) : W p l e R s m args below meth c H locs cells slots Q (F0 m pc ls st0) := by
  intro T hT X
  obtain ⟨v, st₀, t, T', L, h0, X', hL, e1, -, ⟨r, hv, hp, hh⟩, st⟩ := hr T hT X
  cases hv
  obtain ⟨t2, a1, b1⟩ := kk r hp T' (by rw [e1, hh, h0]) (Stand.forget X' (fun q h => (hL q h).elim))
  exact ⟨t2, st t2 a1, b1⟩
theorem hw_csv {post : Unit → Prop} {a : Array Value} {st0 : List Value} (hr : va_Run p l e R s m args below meth c H locs cells slots 0 0 (F0 m pc ls st0) rest (va_Sv post a) (fun _ => False)) (kk : post () → W p l e R s m args below meth c H locs cells slots Q (F0 m (pc + 3) ls rest)) : W p l e R s m args below meth c H locs cells slots Q (F0 m pc ls st0) := by
  intro T hT X
  obtain ⟨v, st₀, t, T', L, h0, X', hL, e1, -, ⟨hv, hp, hh⟩, st⟩ := hr T hT X
  cases hv
  obtain ⟨t2, a1, b1⟩ := kk hp T' (by rw [e1, hh, h0]) (Stand.forget X' (fun q h => (hL q h).elim))
  exact ⟨t2, st t2 a1, b1⟩
end HW
end
section
/-! Methods that throw and have written nothing: their contract, the throw, the way out through a caller, the catch. -/
/-- since s0 nothing that was there has changed -/
def hx_Old (s0 U : State) : Prop := s0.WarmedH U.vm ∧ s0.heap.size ≤ U.heap.size ∧ ∀ q : Nat, q < s0.heap.size → U.heap[q]? = s0.heap[q]?
theorem hx_Old.step {s0 s U : State} (h : hx_Old s0 s) (hW : s.WarmedH U.vm) (hz : s.heap.size ≤ U.heap.size) (hq : ∀ q : Nat, q < s.heap.size → U.heap[q]? = s.heap[q]?) : hx_Old s0 U :=
  ⟨State.WarmedH.trans h.1 hW, Nat.le_trans h.2.1 hz, fun q h1 => (hq q (Nat.lt_of_lt_of_le h1 h.2.1)).trans (h.2.2 q h1)⟩
theorem hx_lays {C n d : String} {a a' : Array Value} {s0 U : State} (hO : hx_Old s0 U) (h : (Cond.laysStatic C n d).before a s0 = true) : (Cond.laysStatic C n d).before a' U = true := by
  obtain ⟨c, k, i, f, q, cell, h1, h2, h3, h4, h5, h6, h7, h8, h9⟩ := Cond.laysStatic_spec h
  obtain ⟨k', hi', he⟩ := State.fieldFound?_setVm hO.1.alike h2
  show (Cond.laysStatic C n d).holds a' U none U [] = true
  exact Cond.laysStatic_of (by rw [hO.1.alike.findClass]; exact h1) hi' h3 (by rw [he]; exact h4) (by rw [hO.2.2 q (Array.getElem?_eq_some_iff.mp h5).1]; exact h5) h6 h7 h8 (by rw [he]; exact h9)
theorem hx_ref {C n d : String} {a a' : Array Value} {s0 U : State} (hO : hx_Old s0 U) (hl : (Cond.laysStatic C n d).before a s0 = true) (hini : (Cond.initialized C).before a s0 = true) (h : (Cond.isRef (.static C n d)).before a s0 = true) : (Cond.isRef (.static C n d)).before a' U = true := by
  have hz : va_Zq C n d (fun q => s0.heap.size ≤ q) s0 s0.heap := va_Zqof hl hini h (fun q hq hA => absurd hq (Nat.not_lt.mpr hA))
  have hz : va_Zq C n d (fun q => s0.heap.size ≤ q) U U.heap := va_Zq.moved hO.1.alike (hz.kept (H1 := U.heap) (fun q hq _ => hO.2.2 q hq))
  rcases hz with hz | ⟨t, hz⟩
  · obtain ⟨cf, kf, fi, f, q, cell, h1, h2, h3, h4, h5, h6, h7, -⟩ := hz
    have he : (Term.static C n d).eval a' U none [] U = some .null := by simp [Term.eval, State.fieldNamed?, h1, h2, h4, h5, h6, h7]
    simp [Cond.before, Cond.holds, Cond.value, he]
  · obtain ⟨cf, kf, fi, f, q, cell, h1, h2, h3, h4, h5, h6, h7, -⟩ := hz
    have he : (Term.static C n d).eval a' U none [] U = some (.ref t) := by simp [Term.eval, State.fieldNamed?, h1, h2, h4, h5, h6, h7]
    simp [Cond.before, Cond.holds, Cond.value, he]
/-- the end of a method that throws an E -/
def hx_Q (E : String) : Array Value → State → Outcome → State → Prop := fun _ st o t =>
  ∃ (q : Addr) (ce : Cell), o = .threw q ∧ t.heap[q]? = some ce ∧ ce.vm = .none ∧ st.vm.findClass E = some ce.cls ∧ st.WarmedH t.vm ∧ st.sameButNew ({ t with vm := st.vm } : State) [] 1 6
def hx_Met (l : Launch) (y : MethodName) (ws : List Cond) (rm : Room) (Pc : Array Value → State → Prop) (E : String) : Prop := MetFree l y (headSpec ws rm) Pc (fun _ _ _ _ _ => True) (hx_Q E)
def hx_MQ (below : List Frame) (E : String) (a : Array Value) (s : State) : State → Prop := fun t => ∃ o, t.status = .running ∧ Ended t below o ∧ hx_Q E a s o t
theorem hx_ofW {l : Launch} {y : MethodName} {ws ws' : List Cond} {rm : Room} {Pc : Array Value → State → Prop} {E : String} {cc : ByteArray} {maxL : Nat} {ret : Option FieldType}
    (hy : plainName y.cls = true) (hw : ws = Cond.code y cc maxL ret :: ws')
    (body : ∀ p e s m args below meth c s₁, BodyLoose p l y (headSpec ws rm) cc maxL ret e s m args below meth c s₁ → c.maxLocals = maxL → c.exceptionTable.isEmpty = true → Pc args s →
      W p l e (headSpec ws rm).room s m args below meth c s.heap [] 0 0 (hx_MQ below E args s) (entryFrame m args maxL)) : hx_Met l y ws rm Pc E := by
  refine MetFree.of_bodyS (code := cc) (maxLocals := maxL) (ret := ret) hy ?_ ?_
  · intro args s m h hn
    obtain ⟨meth, c, h1, h2, h3, h4, h5, h6, -, -⟩ := Cond.code_spec hn (atoms_spec (ws := ws) h _ (by rw [hw]; exact List.mem_cons_self))
    exact ⟨meth, c, h1, h2, h3, h4, h5, h6⟩
  · intro p e s m args below meth c s₁ B hml hP _
    have hh0 : s₁.heap = s.heap := by rw [B.state]; rfl
    obtain ⟨t, a1, o, b1, b2, b3⟩ := body p e s m args below meth c s₁ B hml (B.noHandlers (atoms_spec (ws := ws) B.pre _ (by rw [hw]; exact List.mem_cons_self))) hP s₁ hh0 (Stand.of_body B)
    exact ⟨t, o, a1, b1, b2, b3⟩
section HX
variable {p : Program} {l : Launch} {e : Env} {R : Room} {s : State} {m : MethodId} {args : Array Value} {below : List Frame} {meth : Method} {c : Code} {H : Heap} {locs : List Loc} {cells slots : Nat} {Q : State → Prop}
variable {cc : ByteArray} {pc : Nat} {ls : Array Slot} {rest : List Value}
/-- throw new cls(text) -/
theorem hx_throw (hx : p.tables.exec = Jvm.exec) (hb : c.code = cc) (hl : l.stackTraces = false) {own cls text : String} {names : List String} {ik is ic sa : Nat}
    (hown : s.vm.findClass own = some m.cls) (hcls : Bundle.fit cls = true) (hnames : ∀ n ∈ names, Bundle.fit n = true)
    (hk : (Cond.classLink own ik cls).before args s = true) (hini : (Cond.initialized cls).before args s = true) (hstr : vk_R own is text sa s) (h : ∀ w ∈ Bundle.ownAtoms own ic cls names, w.before args s = true) (hsize : ls.size = c.maxLocals)
    (d0 : decode cc pc = .ok (.new ik, 3)) (d3 : decode cc (pc + 3) = .ok (.dup, 1)) (d4 : decode cc (pc + 4) = .ok (.ldc is, 2)) (d6 : decode cc (pc + 6) = .ok (.invokespecial ic, 3)) (d9 : decode cc (pc + 9) = .ok (.athrow, 1))
    (hout : c.exceptionTable.isEmpty = true) (hRf : names.length + 3 < R.frames) (hRl : (rest.map fun v => v.category).sum + (13 * (names.length + 1) + 43) ≤ R.locals) (hRc : 1 ≤ R.cells) (hRs : 6 ≤ R.slots) (hlocks : meth.locks = false) :
    W p l e R s m args below meth c H [] 0 0 (hx_MQ below cls args s) (F0 m pc ls rest) := by
  intro T hT X
  have htr : e.platform.stackTraces = false := (show e.platform.stackTraces = l.stackTraces by rw [X.admits.platform]).trans hl
  have hins : (Cond.instantiable cls 6).before args s = true := h _ (by simp [Bundle.ownAtoms])
  obtain ⟨vm₁, cX, kX, hfX, hkX, -, -, X₁, st1⟩ := X.newCold hx (own := own) (C := cls) (index := ik) (n := 6) hown hk hins hini (g := F0 m pc ls rest) rfl (by rw [hb]; exact d0) (by omega) (by omega)
  generalize hT1 : (T.setVm vm₁).pushCell { cls := cX, slots := kX.instanceTypes.map defaultValue, vm := .none } = T1 at X₁ st1
  have hcellA : T1.heap[T.heap.size]? = some (freshCell cX kX) := by rw [← hT1]; exact State.heap_pushCell_size _ _
  have hcat : (Value.ref T.heap.size).category = 1 := rfl
  have d3' : decode c.code (pc + 3) = .ok (.dup, 1) := by rw [hb]; exact d3
  have hnil : c.exceptionTable.toList = [] := by rw [Array.isEmpty_iff.mp hout]
  obtain ⟨U, hsteps, hrun, hend, hW, hsame, ce, hce, hO⟩ := X₁.ctorThrowS hx htr (own := own) (cls := cls) (names := names) (ic := ic) hown hcls hnames h (fun x hx => nomatch hx) hfX hkX hcellA X.same.2.1 (msg := .ref sa) rfl
    (g := { method := m, pc := pc + 6, locals := ls, stack := .ref sa :: .ref T.heap.size :: .ref T.heap.size :: rest, locked := none }) rfl hsize rfl rfl (rest := rest) rfl
    (by rw [hb]; exact d6) (by rw [hb]; exact d9) (fun x hx => by rw [hnil] at hx; cases hx) hRf (by simp only [List.map_cons, List.sum_cons, hcat]; show 2 * 0 + _ + _ ≤ _; omega) hlocks
  refine ⟨U, ?_, .threw T.heap.size, hrun, hend, T.heap.size, ce, rfl, hce, hO.vm, hO.cls, hW, hsame⟩
  refine st1 _ ?_
  show Steps p.tables e below (T1.setTop { method := m, pc := pc + 3, locals := ls, stack := .ref T.heap.size :: rest, locked := none }) _
  jvm_step X₁.here [X₁.here.top, hx, d3', Value.category]
  exact X₁.ldcString hx (own := own) (text := text) (index := is) (a := sa) hown hstr.1 hstr.2
    (g := { method := m, pc := pc + 4, locals := ls, stack := .ref T.heap.size :: .ref T.heap.size :: rest, locked := none }) rfl (by rw [hb]; exact d4) _ hsteps
/-- a call that throws an E: what is left -/
def hx_Run (p : Program) (l : Launch) (e : Env) (R : Room) (s : State) (m : MethodId) (args : Array Value) (below : List Frame) (meth : Method) (c : Code) (H : Heap) (locs : List Loc) (cells slots : Nat) (g : JFrame) (rest : List Value) (E : String) : Prop :=
  ∀ T : State, T.heap = H → Stand p l e R s m args below meth c T locs cells slots → ∃ (q : Addr) (T' : State) (ce : Cell), Stand p l e R s m args below meth c T' locs (cells + 1) (slots + 6) ∧ H.size ≤ T'.heap.size ∧ (∀ a : Nat, a < H.size → T'.heap[a]? = H[a]?) ∧
    T'.heap[q]? = some ce ∧ ce.vm = .none ∧ s.vm.findClass E = some ce.cls ∧ Steps p.tables e below (T.setTop g) ((T'.setTop { g with stack := rest }).pushFrame (.throwing q))
theorem hx_frame {s U : State} {k n : Nat} (h : s.sameButNew U [] k n) : s.heap.size ≤ U.heap.size ∧ ∀ q : Nat, q < s.heap.size → U.heap[q]? = s.heap[q]? := by
  obtain ⟨-, h2, -, -, -, h6⟩ := h
  refine ⟨h2, fun q hq => ?_⟩
  obtain ⟨c9, e1, e2, e3, e4⟩ := h6 q _ (Array.getElem?_eq_getElem hq)
  have hs : c9.slots = (s.heap[q]).slots := Array.ext_getElem? fun i => e4 i (fun hm => nomatch hm)
  rw [hs] at e2
  rw [e1, Array.getElem?_eq_getElem hq, e2]
/-- behind the link of an invocation: the callee by its contract -/
theorem hx_back {y : MethodName} {ws : List Cond} {rm : Room} {Pc : Array Value → State → Prop} {E : String} {bytes : ByteArray} {maxL : Nat} {ret : Option FieldType} {n index : Nat} {own : String} {T : State} {g : JFrame} {ig : Instr} {mk : MethodId} {a : Array Value}
    (X : Stand p l e R s m args below meth c T locs cells slots) (hM : hx_Met l y ws rm Pc E) (cb : CallB R s args own index y bytes maxL ret ws rm 1 6 n) (hbl : FrameBlind Pc) (hg : g.method = m) (hsize : g.locals.size = c.maxLocals)
    (hdg : decode c.code g.pc = .ok (ig, 3)) (hW : 2 * g.monitorRoom + (g.stack.map fun v => v.category).sum ≤ 8) (hn : T.methodNamed? y = some mk) (hf : cells + 1 ≤ R.cells ∧ slots + 6 ≤ R.slots) (hPc : Pc a T) :
    ∃ (q : Addr) (T' : State) (ce : Cell), Stand p l e R s m args below meth c T' locs (cells + 1) (slots + 6) ∧ T.heap.size ≤ T'.heap.size ∧ (∀ b : Nat, b < T.heap.size → T'.heap[b]? = T.heap[b]?) ∧
      T'.heap[q]? = some ce ∧ ce.vm = .none ∧ s.vm.findClass E = some ce.cls ∧ Steps p.tables e below (doInvoke e (T.setTop g) [] mk a).1 ((T'.setTop g).pushFrame (.throwing q)) := by
  obtain ⟨hrc, hrs, hfr, hlo, hws, hcw, -, hini, -⟩ := cb
  have h1 : (headSpec ws rm).pre.before a T = true := atoms_intro fun w hw => hws w hw _ _ X.warmed
  have h2 : (Cond.code y bytes maxL ret).before a T = true := hws _ hcw _ _ X.warmed
  have h3 : (Cond.initialized y.cls).before a T = true := word_at X.warmed (Or.inl (by first | rfl | simp [Cond.onTables, Cond.keeps, Cond.steady])) hini
  obtain ⟨methY, cY, hmY, hcY, -, hlY, -, -, -, -⟩ := Cond.code_spec hn h2
  obtain ⟨kY, hkY, -⟩ := className_of_methodNamed hn
  have hinitY : kY.init = .initialized := Cond.initialized_spec (findClass_of_methodNamed hn) hkY h3
  have hA : At T g.method c below := by rw [hg]; exact X.here
  have hlo9 : 8 + (maxL + 11) + (headSpec ws rm).room.locals ≤ R.locals := hlo
  have happ : (headSpec ws rm).appliesLoose y e.platform (T.calling g mk a) = true :=
    Spec.appliesLoose_calling (g := g) hA hdg hn hkY hinitY (X.room_calling (g := g) (R' := (headSpec ws rm).room) hsize hmY hcY hfr (by rw [hlY]; omega) (by rw [show (headSpec ws rm).room.cells = 1 from hrc]; exact hf.1) (by rw [show (headSpec ws rm).room.slots = 6 from hrs]; exact hf.2)) h1
  have hfrm : (T.setTop g).frames = [.java g] ++ below := by rw [State.frames_setTop' g hA.top, X.tail]; rfl
  obtain ⟨o, s₂, hsteps, -, hend, hq⟩ := Steps.callFree hM p X.admits X.cas X.clock (acts := []) hfrm happ (hbl _ _ _ _ hPc) trivial
  obtain ⟨q, ce, rfl, hce, hcv, hcl, hW₂, hsm⟩ := (show hx_Q E a (T.calling g mk a) o s₂ from hq)
  rw [hfrm] at hend
  obtain ⟨T', X', hTW, hTs, hs₂⟩ := X.outOfThrown hg (mk := mk) (a := a) hend hW₂ hsm
  obtain ⟨f1, f2⟩ := hx_frame hTs
  rw [List.append_nil] at X'
  have hheap : s₂.heap = T'.heap := by rw [hs₂]; exact Stand.throwing_heap T' g q
  refine ⟨q, T', ce, X', f1, f2, by rw [← hheap]; exact hce, hcv, ?_, by rw [← hs₂]; exact hsteps⟩
  have hcl' : T.vm.findClass E = some ce.cls := hcl
  rw [X.warmed.alike.findClass] at hcl'
  exact hcl'
theorem hx_runV {y : MethodName} {ws : List Cond} {rm : Room} {Pc : Array Value → State → Prop} {E : String} {bytes : ByteArray} {maxL nL : Nat} {ret : Option FieldType} {n index : Nat} {own C : String} {Ts : List Cond} {b : Addr} {As : List Value} {g : JFrame}
    (S : CallFix p m c cc nL s args Ts own) (hM : hx_Met l y ws rm Pc E) (cw : CallW R s args own C index y bytes maxL ret ws rm 1 6 n) (hp : PreV s H C b Pc As) (hg : g.method = m) (hn : As.length = n) (hsize : g.locals.size = nL)
    (hstack : g.stack = As.reverse ++ .ref b :: rest) (hW : 2 * g.monitorRoom + (rest.map fun v => v.category).sum ≤ 8) (hdg : decode cc g.pc = .ok (.invokevirtual index, 3)) (hf : cells + 1 ≤ R.cells ∧ slots + 6 ≤ R.slots) :
    hx_Run p l e R s m args below meth c H locs cells slots g rest E := by
  have cb := cw.1
  obtain ⟨⟨-, -, -, -, -, -, hcode, -, hy, hlen, hl⟩, hin, hse⟩ := cw
  obtain ⟨hx, hb, hml, ho, -⟩ := S
  obtain ⟨hbl, ⟨cellB, hcB, hoB, hclB⟩, hPc⟩ := hp
  intro T hT X
  obtain ⟨mk, methM, hnamed, hmethM, hstM, habM⟩ := Cond.instanceMethod_spec hin
  obtain ⟨methM', cM, hmethM', -, -, -, -, -, -, hsigM⟩ := Cond.code_spec hnamed hcode
  cases hmethM.symm.trans hmethM'
  obtain ⟨c2, r2, m2, q1, q2, q3, q4, kP, hkP, hkPi⟩ := Cond.selects_spec hse
  cases hclB.symm.trans q1
  cases (State.methodFound?_of_named hnamed hy).symm.trans q2
  cases hnamed.symm.trans q3
  have hselP : selectMethod e.platform s.vm cellB.cls mk = .method mk := by rw [Launch.admits_selectMethod X.admits]; exact q4
  obtain ⟨vm₁, X₁, hstep₁⟩ := X.invokevirtual hx ho hl hnamed hmethM hstM hkP hkPi hy (a := b) (cell := cellB) (by rw [hT]; exact hcB)
    (fun z h => by rw [h] at hoB; cases hoB) hselP hmethM habM hkP hkPi (g := g) hg (argsL := As) (rest := rest) (hn.trans (hlen _ hsigM)) hstack (by rw [hb]; exact hdg)
  obtain ⟨q, T', ce, X', h1, h2, h3, h4, h5, hst⟩ := hx_back (g := { g with stack := rest }) (ig := .invokevirtual index) X₁ hM cb hbl hg (hsize.trans hml.symm) (by rw [hb]; exact hdg) hW (X₁.named hnamed) hf (hPc (T.setVm vm₁) hT X₁.warmed)
  refine ⟨q, T', ce, X', by rw [← hT]; exact h1, fun a ha => ?_, h3, h4, h5, hstep₁ _ fun acts => by rw [doInvoke_state]; exact hst⟩
  rw [← hT] at ha ⊢
  exact h2 a ha
/-- not caught here -/
theorem hx_out {E : String} {st0 : List Value} (hr : hx_Run p l e R s m args below meth c H [] 0 0 (F0 m pc ls st0) rest E) (hout : c.exceptionTable.isEmpty = true) (hlocks : meth.locks = false) :
    W p l e R s m args below meth c H [] 0 0 (hx_MQ below E args s) (F0 m pc ls st0) := by
  intro T hT X
  obtain ⟨q, T', ce, X', h1, h2, h3, h4, h5, hst⟩ := hr T hT X
  have hnil : c.exceptionTable.toList = [] := by rw [Array.isEmpty_iff.mp hout]
  obtain ⟨st1, hrun, hend, hW, hsm⟩ := X'.leaveThrown q (g := F0 m pc ls rest) rfl rfl rfl (fun x hx => by rw [hnil] at hx; cases hx) hlocks
  exact ⟨_, hst.trans st1, .threw q, hrun, hend, q, ce, rfl, h3, h4, h5, hW, hsm⟩
end HX
end
section
/-! The catch by a row of the method's own table, its class resolved or not yet. -/
section HXC
variable {e : Env} {f : JFrame} {a : Addr} {cell : Cell} {s₀ : State}
/-- what the search does with the rows ahead and the row that takes it, from any state whose tables are as warm -/
theorem hx_search (hcv : cell.vm = .none) (hk0 : ∃ k, s₀.vm.classes[cell.cls]? = some k) (x : ExceptionTableEntry) (rest : List ExceptionTableEntry) (hx : covers x f.pc = true) (h0 : x.catchType ≠ 0) {ct : ClassId}
    (hl : s₀.vm.ClassLinks e.platform f.method.cls x.catchType ct) (hfit : s₀.vm.assignable cell.cls ct = true) :
    ∀ (pre : List ExceptionTableEntry) (V : State), s₀.WarmedH V.vm → V.heap[a]? = some cell →
      (∀ y ∈ pre, covers y f.pc = false ∨ (y.catchType ≠ 0 ∧ ∃ c, s₀.vm.ClassLinks e.platform f.method.cls y.catchType c ∧ s₀.vm.assignable cell.cls c = false)) →
      ∃ vm', s₀.WarmedH vm' ∧ ∀ (Q : Handler → Pre) (E : CtlPost) (d : Bool) (acts : List Action), wp (findHandler.go f a (pre ++ x :: rest)) Q E e d acts V ↔ Q (.found x.handlerPc) d acts (V.setVm vm') := by
  obtain ⟨k0, hk0⟩ := hk0
  have hobj : ∀ k, cell.vm ≠ .statics k := fun k h => by rw [hcv] at h; cases h
  -- one row whose class links: resolved now if it wasn't
  have row : ∀ (V : State) (y : ExceptionTableEntry) (c : ClassId), s₀.WarmedH V.vm → V.heap[a]? = some cell → covers y f.pc = true → y.catchType ≠ 0 → s₀.vm.ClassLinks e.platform f.method.cls y.catchType c →
      ∃ vm', s₀.WarmedH vm' ∧ ∀ (t : List ExceptionTableEntry) (Q : Handler → Pre) (E : CtlPost) (d : Bool) (acts : List Action),
        wp (findHandler.go f a (y :: t)) Q E e d acts V ↔ (if s₀.vm.assignable cell.cls c = true then Q (.found y.handlerPc) d acts (V.setVm vm') else wp (findHandler.go f a t) Q E e d acts (V.setVm vm')) := by
    intro V y c hW hcell hy hy0 hlk
    have hlk' := hW.classLinks hlk
    obtain ⟨dk, _, _, kt, hd, _, _, _, _, hkt, _, hopen⟩ := hlk.here
    refine ⟨_, hW.noted hd hopen (State.rightAt_cls hlk), fun t Q E d acts => ?_⟩
    simp only [covers] at hy
    obtain ⟨ha, ht⟩ := (resolveClass_links e.toSetting hlk').op (op := VmOp.resolveClass f.method.cls y.catchType) rfl
    have hal : s₀.vm.Alike (V.vm.noted f.method.cls y.catchType (.cls c)) := hW.alike.trans ((Vm.Alike.refl V.vm).noted _ _ _)
    obtain ⟨k1', hk1', -⟩ := hal.2.2 _ _ hk0
    obtain ⟨k2', hk2', -⟩ := hal.2.2 _ _ hkt
    have hasg : (V.vm.noted f.method.cls y.catchType (.cls c)).assignable cell.cls c = s₀.vm.assignable cell.cls c := hal.assignable _ _
    by_cases hq : s₀.vm.assignable cell.cls c = true
    · rw [if_pos hq]
      rw [hq] at hasg
      simp [findHandler.go, hy, hy0, ha, ht, hcell, hobj, hk1', hk2', hasg, VmOp.dirties, VmOp.acts]
    · rw [if_neg hq]
      rw [Bool.not_eq_true] at hq
      rw [hq] at hasg
      simp [findHandler.go, hy, hy0, ha, ht, hcell, hobj, hk1', hk2', hasg, VmOp.dirties, VmOp.acts]
  intro pre
  induction pre with
  | nil =>
    intro V hW hcell _
    obtain ⟨vm', h1, h2⟩ := row V x ct hW hcell hx h0 hl
    exact ⟨vm', h1, fun Q E d acts => by rw [List.nil_append, h2, if_pos hfit]⟩
  | cons y ys ih =>
    intro V hW hcell hp
    have hp' := fun z hz => hp z (List.mem_cons_of_mem _ hz)
    rcases hp y List.mem_cons_self with hs | ⟨hy0, c, hlk, hno⟩
    · obtain ⟨vm', h1, h2⟩ := ih V hW hcell hp'
      exact ⟨vm', h1, fun Q E d acts => by rw [List.cons_append, W.findHandler_go_skip hs]; exact h2 Q E d acts⟩
    · by_cases hcov : covers y f.pc = true
      · obtain ⟨vm1, h1, h2⟩ := row V y c hW hcell hcov hy0 hlk
        obtain ⟨vm', h3, h4⟩ := ih (V.setVm vm1) h1 hcell hp'
        exact ⟨vm', h3, fun Q E d acts => by rw [List.cons_append, h2, if_neg (by rw [hno]; decide)]; exact h4 Q E d acts⟩
      · obtain ⟨vm', h1, h2⟩ := ih V hW hcell hp'
        exact ⟨vm', h1, fun Q E d acts => by rw [List.cons_append, W.findHandler_go_skip (by simpa using hcov)]; exact h2 Q E d acts⟩
end HXC
section HXD
variable {p : Program} {l : Launch} {e : Env} {R : Room} {s : State} {m : MethodId} {args : Array Value} {below : List Frame} {meth : Method} {c : Code} {H : Heap} {locs : List Loc} {cells slots : Nat} {Q : State → Prop}
variable {cc : ByteArray} {pc : Nat} {ls : Array Slot} {rest : List Value}
theorem hx_caught {T : State} (X : Stand p l e R s m args below meth c T locs cells slots) (a : Addr) {g : JFrame} (hg : g.method = m) {cell : Cell} (hcell : T.heap[a]? = some cell) (hcv : cell.vm = .none) (hk0 : ∃ k, s.vm.classes[cell.cls]? = some k)
    (pre : List ExceptionTableEntry) (x : ExceptionTableEntry) (suf : List ExceptionTableEntry) (hsplit : c.exceptionTable.toList = pre ++ x :: suf)
    (hpass : ∀ y ∈ pre, covers y g.pc = false ∨ (y.catchType ≠ 0 ∧ ∃ c', s.vm.ClassLinks e.platform m.cls y.catchType c' ∧ s.vm.assignable cell.cls c' = false)) (hx : covers x g.pc = true) (h0 : x.catchType ≠ 0) {ct : ClassId}
    (hl : s.vm.ClassLinks e.platform m.cls x.catchType ct) (hfit : s.vm.assignable cell.cls ct = true) :
    ∃ vm', Stand p l e R s m args below meth c (T.setVm vm') locs cells slots ∧
      ∀ target, Steps p.tables e below ((T.setVm vm').setTop { g with pc := x.handlerPc, stack := [.ref a] }) target → Steps p.tables e below ((T.setTop g).pushFrame (.throwing a)) target := by
  subst hg
  obtain ⟨vm', hW', hq⟩ := hx_search (e := e) (f := g) (a := a) (s₀ := s) hcv hk0 x suf hx h0 hl hfit pre ((T.setTop g).pushFrame (.throwing a)) X.warmed hcell hpass
  refine ⟨vm', X.noted hW', fun target hrest => ?_⟩
  obtain ⟨hgo, hw⟩ := X.here.throwing a
  refine Steps.head hgo hw ?_
  have hfind : ∀ (Q : Handler → Pre) (E : CtlPost) (d : Bool) (acts : List Action), wp (findHandler g a) Q E e d acts ((T.setTop g).pushFrame (.throwing a)) ↔ Q (.found x.handlerPc) d acts (((T.setTop g).pushFrame (.throwing a)).setVm vm') := fun Q E d acts => by
    rw [W.findHandler_eq (s := (T.setTop g).pushFrame (.throwing a)) (meth := meth) (code := c) X.method' X.code, hsplit]
    exact hq Q E d acts
  have hstep : ∀ r : List Frame, (stepThrowing e ((T.setTop g).pushFrame (.throwing a)) a (.java g :: r)).Is ((((T.setTop g).pushFrame (.throwing a)).setVm vm').setFrames (.java { g with pc := x.handlerPc, stack := [.ref a] } :: r)) [] := by
    intro r
    simp only [stepThrowing, searchFrame, vmDo]
    generalize hr : Sem.go _ e false [] ((T.setTop g).pushFrame (.throwing a)) = res
    obtain ⟨as, rfl, ha⟩ := Sem.eq_ok_of hr (a := Handler.found x.handlerPc) (s' := ((T.setTop g).pushFrame (.throwing a)).setVm vm') (acts' := []) (by simp [hfind _ _ _ _])
    exact ⟨rfl, ha⟩
  rw [stepThread_throwing (frames_entered X.here.top _), (hstep _).1]
  obtain ⟨g₀, hg⟩ := Option.isSome_iff_exists.mp X.here.top
  obtain ⟨r, hr⟩ := State.topJava?_eq_some.mp hg
  have hr' : (T.setVm vm').frames = .java g₀ :: r := hr
  have hre : ∀ (u : State) (F G : List Frame), ((u.setFrames F).setVm vm').setFrames G = (u.setVm vm').setFrames G := fun u F G => by
    have h1 : (u.setFrames F).setVm vm' = (u.setVm vm').setFrames F := rfl
    rw [h1, State.setFrames_setFrames]
  rw [State.setTop_of_frames _ hr'] at hrest
  rw [hr, List.tail_cons, State.pushFrame, hre, State.setTop_of_frames _ hr, hre]
  exact hrest
/-- the call throws, and this method's table takes it -/
theorem hx_catch {E own name : String} {st0 : List Value} (hr : hx_Run p l e R s m args below meth c H locs cells slots (F0 m pc ls st0) rest E) (hown : s.vm.findClass own = some m.cls)
    (pre : List ExceptionTableEntry) (x : ExceptionTableEntry) (suf : List ExceptionTableEntry) (hsplit : c.exceptionTable.toList = pre ++ x :: suf)
    (hpass : ∀ z ∈ pre, covers z pc = false ∨ (z.catchType ≠ 0 ∧ ∃ nm : String, (Cond.classLink own z.catchType nm).before args s = true ∧ va_Nc E nm s)) (hx : covers x pc = true) (h0 : x.catchType ≠ 0)
    (hlink : (Cond.classLink own x.catchType name).before args s = true) (hcast : (Cond.castable E name).before args s = true)
    (kk : ∀ (q : Nat) (H1 : Heap), H.size ≤ H1.size → (∀ a : Nat, a < H.size → H1[a]? = H[a]?) → W p l e R s m args below meth c H1 locs (cells + 1) (slots + 6) Q (F0 m x.handlerPc ls [.ref q])) : W p l e R s m args below meth c H locs cells slots Q (F0 m pc ls st0) := by
  intro T hT X
  obtain ⟨q, T', ce, X', h1, h2, h3, h4, h5, hst⟩ := hr T hT X
  have hpl : e.platform.magicAccessors = ({} : Platform).magicAccessors := by rw [X.admits.platform]
  obtain ⟨c3, c4, hc3, hc4, hasg⟩ := Cond.castable_spec hcast
  cases Option.some.inj (hc3.symm.trans h5)
  obtain ⟨c5, hc5, hcl5⟩ := Cond.classLink_spec hown hlink e.platform hpl
  cases Option.some.inj (hc4.symm.trans hc5)
  obtain ⟨vm', XV, st⟩ := hx_caught X' q (g := F0 m pc ls rest) rfl h3 h4 (by obtain ⟨k9, h9, -⟩ := Vm.findClass_spec h5; exact ⟨k9, h9⟩) pre x suf hsplit
    (fun z hz => by
      rcases hpass z hz with h | ⟨hz0, nm, hl1, hn1⟩
      · exact Or.inl h
      · obtain ⟨c6, hc6, hcl6⟩ := Cond.classLink_spec hown hl1 e.platform hpl
        obtain ⟨a8, b8, k1, k2, k3⟩ := hn1
        cases Option.some.inj (k1.symm.trans h5)
        cases Option.some.inj (k2.symm.trans hc6)
        exact Or.inr ⟨hz0, _, hcl6, k3⟩) hx h0 hcl5 hasg
  obtain ⟨t, a1, b1⟩ := kk q (T'.setVm vm').heap h1 h2 (T'.setVm vm') rfl XV
  exact ⟨t, hst.trans (st t a1), b1⟩
end HXD
end
section
-- ===== PART A: goes FIRST, ahead of the names: the tables' words, and 'selects' of the private methods out of them =====
/-- a private method of a class that the tables say can be made, by its rows of tables_1 -/
def lw_okq (q : MethodName × Nat) : Prop := (q.1.cls ≠ "java/lang/invoke/MethodHandle" ∧ q.1.cls ≠ "java/lang/invoke/VarHandle") ∧ Cond.instantiable q.1.cls q.2 ∈ tables_1 ∧ Cond.privateMethod q.1 ∈ tables_1 ∧ Cond.instanceMethod q.1 ∈ tables_1
theorem lw_p0 : lw_okq (⟨"HeapClaims", "leastFrame", "()I"⟩, 4) := ⟨⟨by decide +kernel, by decide +kernel⟩, List.mem_of_getElem? (i := 17) (by decide +kernel), List.mem_of_getElem? (i := 134) (by decide +kernel), List.mem_of_getElem? (i := 135) (by decide +kernel)⟩
theorem lw_p1 : lw_okq (⟨"HeapClaims$Heap", "takenByList", "(II)I"⟩, 6) := ⟨⟨by decide +kernel, by decide +kernel⟩, List.mem_of_getElem? (i := 65) (by decide +kernel), List.mem_of_getElem? (i := 171) (by decide +kernel), List.mem_of_getElem? (i := 172) (by decide +kernel)⟩
theorem lw_p2 : lw_okq (⟨"HeapClaims$Heap", "takenByCell", "(II)I"⟩, 6) := ⟨⟨by decide +kernel, by decide +kernel⟩, List.mem_of_getElem? (i := 65) (by decide +kernel), List.mem_of_getElem? (i := 176) (by decide +kernel), List.mem_of_getElem? (i := 177) (by decide +kernel)⟩
theorem lw_p3 : lw_okq (⟨"HeapClaims$Cases", "greatestBefore", "(I)I"⟩, 2) := ⟨⟨by decide +kernel, by decide +kernel⟩, List.mem_of_getElem? (i := 97) (by decide +kernel), List.mem_of_getElem? (i := 184) (by decide +kernel), List.mem_of_getElem? (i := 185) (by decide +kernel)⟩
theorem lw_p4 : lw_okq (⟨"HeapClaims", "claimAt", "(I)LHeapClaims$Claim;"⟩, 4) := ⟨⟨by decide +kernel, by decide +kernel⟩, List.mem_of_getElem? (i := 17) (by decide +kernel), List.mem_of_getElem? (i := 218) (by decide +kernel), List.mem_of_getElem? (i := 219) (by decide +kernel)⟩
theorem lw_p5 : lw_okq (⟨"java/lang/Throwable", "fillInStackTrace", "(I)Ljava/lang/Throwable;"⟩, 6) := ⟨⟨by decide +kernel, by decide +kernel⟩, List.mem_of_getElem? (i := 261) (by decide +kernel), List.mem_of_getElem? (i := 259) (by decide +kernel), List.mem_of_getElem? (i := 260) (by decide +kernel)⟩
theorem lw_p6 : lw_okq (⟨"HeapClaims", "checkTerm", "(I)V"⟩, 4) := ⟨⟨by decide +kernel, by decide +kernel⟩, List.mem_of_getElem? (i := 17) (by decide +kernel), List.mem_of_getElem? (i := 291) (by decide +kernel), List.mem_of_getElem? (i := 292) (by decide +kernel)⟩
theorem lw_p7 : lw_okq (⟨"HeapClaims", "isSo", "(III)Z"⟩, 4) := ⟨⟨by decide +kernel, by decide +kernel⟩, List.mem_of_getElem? (i := 17) (by decide +kernel), List.mem_of_getElem? (i := 378) (by decide +kernel), List.mem_of_getElem? (i := 379) (by decide +kernel)⟩
theorem lw_p8 : lw_okq (⟨"HeapClaims", "checkVariable", "(I)V"⟩, 4) := ⟨⟨by decide +kernel, by decide +kernel⟩, List.mem_of_getElem? (i := 17) (by decide +kernel), List.mem_of_getElem? (i := 389) (by decide +kernel), List.mem_of_getElem? (i := 390) (by decide +kernel)⟩
theorem lw_p9 : lw_okq (⟨"HeapClaims", "checkValue", "(I)V"⟩, 4) := ⟨⟨by decide +kernel, by decide +kernel⟩, List.mem_of_getElem? (i := 17) (by decide +kernel), List.mem_of_getElem? (i := 394) (by decide +kernel), List.mem_of_getElem? (i := 395) (by decide +kernel)⟩
theorem lw_p10 : lw_okq (⟨"HeapClaims", "checkCell", "(I)V"⟩, 4) := ⟨⟨by decide +kernel, by decide +kernel⟩, List.mem_of_getElem? (i := 17) (by decide +kernel), List.mem_of_getElem? (i := 433) (by decide +kernel), List.mem_of_getElem? (i := 434) (by decide +kernel)⟩
theorem lw_p11 : lw_okq (⟨"HeapClaimsModel", "some", "(I)Z"⟩, 22) := ⟨⟨by decide +kernel, by decide +kernel⟩, List.mem_of_getElem? (i := 491) (by decide +kernel), List.mem_of_getElem? (i := 598) (by decide +kernel), List.mem_of_getElem? (i := 599) (by decide +kernel)⟩
theorem lw_p12 : lw_okq (⟨"HeapClaimsModel", "pairsTrue", "(I)Z"⟩, 22) := ⟨⟨by decide +kernel, by decide +kernel⟩, List.mem_of_getElem? (i := 491) (by decide +kernel), List.mem_of_getElem? (i := 602) (by decide +kernel), List.mem_of_getElem? (i := 603) (by decide +kernel)⟩
theorem lw_p13 : lw_okq (⟨"HeapClaimsModel", "begun", "(I)Z"⟩, 22) := ⟨⟨by decide +kernel, by decide +kernel⟩, List.mem_of_getElem? (i := 491) (by decide +kernel), List.mem_of_getElem? (i := 606) (by decide +kernel), List.mem_of_getElem? (i := 607) (by decide +kernel)⟩
theorem lw_p14 : lw_okq (⟨"HeapClaimsModel", "isEmpty", "(I)Z"⟩, 22) := ⟨⟨by decide +kernel, by decide +kernel⟩, List.mem_of_getElem? (i := 491) (by decide +kernel), List.mem_of_getElem? (i := 610) (by decide +kernel), List.mem_of_getElem? (i := 611) (by decide +kernel)⟩
theorem lw_p15 : lw_okq (⟨"HeapClaimsModel", "someWay", "(I)Z"⟩, 22) := ⟨⟨by decide +kernel, by decide +kernel⟩, List.mem_of_getElem? (i := 491) (by decide +kernel), List.mem_of_getElem? (i := 614) (by decide +kernel), List.mem_of_getElem? (i := 615) (by decide +kernel)⟩
def lw_privs_1 : List (MethodName × Nat) := [(⟨"HeapClaims", "leastFrame", "()I"⟩, 4), (⟨"HeapClaims$Heap", "takenByList", "(II)I"⟩, 6), (⟨"HeapClaims$Heap", "takenByCell", "(II)I"⟩, 6), (⟨"HeapClaims$Cases", "greatestBefore", "(I)I"⟩, 2), (⟨"HeapClaims", "claimAt", "(I)LHeapClaims$Claim;"⟩, 4), (⟨"java/lang/Throwable", "fillInStackTrace", "(I)Ljava/lang/Throwable;"⟩, 6), (⟨"HeapClaims", "checkTerm", "(I)V"⟩, 4), (⟨"HeapClaims", "isSo", "(III)Z"⟩, 4), (⟨"HeapClaims", "checkVariable", "(I)V"⟩, 4), (⟨"HeapClaims", "checkValue", "(I)V"⟩, 4), (⟨"HeapClaims", "checkCell", "(I)V"⟩, 4), (⟨"HeapClaimsModel", "some", "(I)Z"⟩, 22), (⟨"HeapClaimsModel", "pairsTrue", "(I)Z"⟩, 22), (⟨"HeapClaimsModel", "begun", "(I)Z"⟩, 22), (⟨"HeapClaimsModel", "isEmpty", "(I)Z"⟩, 22), (⟨"HeapClaimsModel", "someWay", "(I)Z"⟩, 22)]
theorem lw_r1 : ∀ q ∈ lw_privs_1, lw_okq q := List.forall_mem_cons.mpr ⟨lw_p0, List.forall_mem_cons.mpr ⟨lw_p1, List.forall_mem_cons.mpr ⟨lw_p2, List.forall_mem_cons.mpr ⟨lw_p3, List.forall_mem_cons.mpr ⟨lw_p4, List.forall_mem_cons.mpr ⟨lw_p5, List.forall_mem_cons.mpr ⟨lw_p6, List.forall_mem_cons.mpr ⟨lw_p7, List.forall_mem_cons.mpr ⟨lw_p8, List.forall_mem_cons.mpr ⟨lw_p9, List.forall_mem_cons.mpr ⟨lw_p10, List.forall_mem_cons.mpr ⟨lw_p11, List.forall_mem_cons.mpr ⟨lw_p12, List.forall_mem_cons.mpr ⟨lw_p13, List.forall_mem_cons.mpr ⟨lw_p14, List.forall_mem_cons.mpr ⟨lw_p15, fun _ h => absurd h List.not_mem_nil⟩⟩⟩⟩⟩⟩⟩⟩⟩⟩⟩⟩⟩⟩⟩⟩
theorem lw_p16 : lw_okq (⟨"HeapClaimsModel", "nextList", "(II)I"⟩, 22) := ⟨⟨by decide +kernel, by decide +kernel⟩, List.mem_of_getElem? (i := 491) (by decide +kernel), List.mem_of_getElem? (i := 618) (by decide +kernel), List.mem_of_getElem? (i := 619) (by decide +kernel)⟩
theorem lw_p17 : lw_okq (⟨"HeapClaimsModel", "isLookedFor", "()Z"⟩, 22) := ⟨⟨by decide +kernel, by decide +kernel⟩, List.mem_of_getElem? (i := 491) (by decide +kernel), List.mem_of_getElem? (i := 622) (by decide +kernel), List.mem_of_getElem? (i := 623) (by decide +kernel)⟩
theorem lw_p18 : lw_okq (⟨"HeapClaimsModel", "rightTrue", "()Z"⟩, 22) := ⟨⟨by decide +kernel, by decide +kernel⟩, List.mem_of_getElem? (i := 491) (by decide +kernel), List.mem_of_getElem? (i := 626) (by decide +kernel), List.mem_of_getElem? (i := 627) (by decide +kernel)⟩
theorem lw_p19 : lw_okq (⟨"HeapClaimsModel", "takes", "(I)Z"⟩, 22) := ⟨⟨by decide +kernel, by decide +kernel⟩, List.mem_of_getElem? (i := 491) (by decide +kernel), List.mem_of_getElem? (i := 630) (by decide +kernel), List.mem_of_getElem? (i := 631) (by decide +kernel)⟩
theorem lw_p20 : lw_okq (⟨"HeapClaimsModel", "isFree", "(II)Z"⟩, 22) := ⟨⟨by decide +kernel, by decide +kernel⟩, List.mem_of_getElem? (i := 491) (by decide +kernel), List.mem_of_getElem? (i := 634) (by decide +kernel), List.mem_of_getElem? (i := 635) (by decide +kernel)⟩
theorem lw_p21 : lw_okq (⟨"HeapClaimsModel", "isGroup", "(I)Z"⟩, 22) := ⟨⟨by decide +kernel, by decide +kernel⟩, List.mem_of_getElem? (i := 491) (by decide +kernel), List.mem_of_getElem? (i := 638) (by decide +kernel), List.mem_of_getElem? (i := 639) (by decide +kernel)⟩
theorem lw_p22 : lw_okq (⟨"HeapClaimsModel", "nextGroups", "()Z"⟩, 22) := ⟨⟨by decide +kernel, by decide +kernel⟩, List.mem_of_getElem? (i := 491) (by decide +kernel), List.mem_of_getElem? (i := 642) (by decide +kernel), List.mem_of_getElem? (i := 643) (by decide +kernel)⟩
theorem lw_p23 : lw_okq (⟨"HeapClaimsModel", "valueOf", "(I)I"⟩, 22) := ⟨⟨by decide +kernel, by decide +kernel⟩, List.mem_of_getElem? (i := 491) (by decide +kernel), List.mem_of_getElem? (i := 673) (by decide +kernel), List.mem_of_getElem? (i := 674) (by decide +kernel)⟩
theorem lw_p24 : lw_okq (⟨"HeapClaimsModel", "takesAtHand", "(I)Z"⟩, 22) := ⟨⟨by decide +kernel, by decide +kernel⟩, List.mem_of_getElem? (i := 491) (by decide +kernel), List.mem_of_getElem? (i := 677) (by decide +kernel), List.mem_of_getElem? (i := 678) (by decide +kernel)⟩
def lw_privs_2 : List (MethodName × Nat) := [(⟨"HeapClaimsModel", "nextList", "(II)I"⟩, 22), (⟨"HeapClaimsModel", "isLookedFor", "()Z"⟩, 22), (⟨"HeapClaimsModel", "rightTrue", "()Z"⟩, 22), (⟨"HeapClaimsModel", "takes", "(I)Z"⟩, 22), (⟨"HeapClaimsModel", "isFree", "(II)Z"⟩, 22), (⟨"HeapClaimsModel", "isGroup", "(I)Z"⟩, 22), (⟨"HeapClaimsModel", "nextGroups", "()Z"⟩, 22), (⟨"HeapClaimsModel", "valueOf", "(I)I"⟩, 22), (⟨"HeapClaimsModel", "takesAtHand", "(I)Z"⟩, 22)]
theorem lw_r2 : ∀ q ∈ lw_privs_2, lw_okq q := List.forall_mem_cons.mpr ⟨lw_p16, List.forall_mem_cons.mpr ⟨lw_p17, List.forall_mem_cons.mpr ⟨lw_p18, List.forall_mem_cons.mpr ⟨lw_p19, List.forall_mem_cons.mpr ⟨lw_p20, List.forall_mem_cons.mpr ⟨lw_p21, List.forall_mem_cons.mpr ⟨lw_p22, List.forall_mem_cons.mpr ⟨lw_p23, List.forall_mem_cons.mpr ⟨lw_p24, fun _ h => absurd h List.not_mem_nil⟩⟩⟩⟩⟩⟩⟩⟩⟩
def lw_privs : List (MethodName × Nat) := lw_privs_1 ++ (lw_privs_2)
def lw_tbl : List Cond := k2_sels lw_privs ++ tables_1
theorem lw_privs_ok : ∀ q ∈ lw_privs, lw_okq q := by
  show ∀ q ∈ lw_privs_1 ++ (lw_privs_2), lw_okq q
  exact List.forall_mem_append.mpr ⟨lw_r1, lw_r2⟩
end
section
/-! names of classes, fields, methods (by program out of the claim) -/
def RX0 : String := "HeapClaims$Cases"
def TX0 : u_T := fun k => match k with
  | 0 => ("HeapClaims$Cases", "heap", "LHeapClaims$Heap;", true)
  | _ => ("HeapClaims$Cases", "named", "I", false)
def tyX0 : Nat → FieldType := fun k => match k with
  | 0 => .object "HeapClaims$Heap"
  | _ => .int
theorem nmX0 : ∀ a, a < 2 → ∀ b, b < 2 → a ≠ b → (TX0 a).2.1 ≠ (TX0 b).2.1 := by decide +kernel
theorem tyX0_ok : ∀ k, k < 2 → parseFieldDescriptor (TX0 k).2.2.1 = some (tyX0 k) := by decide +kernel
def RX1 : String := "HeapClaims$Claim"
def TX1 : u_T := fun k => match k with
  | 0 => ("HeapClaims$Claim", "same", "[I", true)
  | 1 => ("HeapClaims$Claim", "other", "[I", true)
  | 2 => ("HeapClaims$Claim", "from", "[I", true)
  | 3 => ("HeapClaims$Claim", "to", "[I", true)
  | 4 => ("HeapClaims$Claim", "list", "[Z", true)
  | 5 => ("HeapClaims$Claim", "size", "I", false)
  | _ => ("HeapClaims$Claim", "named", "I", false)
def tyX1 : Nat → FieldType := fun k => match k with
  | 0 => .array .int
  | 1 => .array .int
  | 2 => .array .int
  | 3 => .array .int
  | 4 => .array .boolean
  | 5 => .int
  | _ => .int
theorem nmX1 : ∀ a, a < 7 → ∀ b, b < 7 → a ≠ b → (TX1 a).2.1 ≠ (TX1 b).2.1 := by decide +kernel
theorem tyX1_ok : ∀ k, k < 7 → parseFieldDescriptor (TX1 k).2.2.1 = some (tyX1 k) := by decide +kernel
def RX2 : String := "HeapClaims$Heap"
def TX2 : u_T := fun k => match k with
  | 0 => ("HeapClaims$Heap", "values", "[I", true)
  | 1 => ("HeapClaims$Heap", "greatest", "I", true)
  | 2 => ("HeapClaims$Heap", "ends", "[I", true)
  | 3 => ("HeapClaims$Heap", "isLong", "[Z", true)
  | 4 => ("HeapClaims$Heap", "bits", "[I", true)
  | _ => ("HeapClaims$Heap", "filled", "I", false)
def tyX2 : Nat → FieldType := fun k => match k with
  | 0 => .array .int
  | 1 => .int
  | 2 => .array .int
  | 3 => .array .boolean
  | 4 => .array .int
  | _ => .int
theorem nmX2 : ∀ a, a < 6 → ∀ b, b < 6 → a ≠ b → (TX2 a).2.1 ≠ (TX2 b).2.1 := by decide +kernel
theorem tyX2_ok : ∀ k, k < 6 → parseFieldDescriptor (TX2 k).2.2.1 = some (tyX2 k) := by decide +kernel
def RX3 : String := "HeapClaims"
def TX3 : u_T := fun k => match k with
  | 0 => ("HeapClaims", "left", "LHeapClaims$Claim;", false)
  | 1 => ("HeapClaims", "right", "LHeapClaims$Claim;", false)
  | 2 => ("HeapClaims", "state", "LHeapClaims$Heap;", true)
  | _ => ("HeapClaims", "cases", "LHeapClaims$Cases;", true)
def tyX3 : Nat → FieldType := fun k => match k with
  | 0 => .object "HeapClaims$Claim"
  | 1 => .object "HeapClaims$Claim"
  | 2 => .object "HeapClaims$Heap"
  | _ => .object "HeapClaims$Cases"
theorem nmX3 : ∀ a, a < 4 → ∀ b, b < 4 → a ≠ b → (TX3 a).2.1 ≠ (TX3 b).2.1 := by decide +kernel
theorem tyX3_ok : ∀ k, k < 4 → parseFieldDescriptor (TX3 k).2.2.1 = some (tyX3 k) := by decide +kernel
def RX4 : String := "HeapClaimsModel"
def TX4 : u_T := fun k => match k with
  | 0 => ("HeapClaimsModel", "code", "I", false)
  | 1 => ("HeapClaimsModel", "same", "[Z", true)
  | 2 => ("HeapClaimsModel", "other", "[Z", true)
  | 3 => ("HeapClaimsModel", "many", "[I", true)
  | 4 => ("HeapClaimsModel", "from", "[I", true)
  | 5 => ("HeapClaimsModel", "to", "[I", true)
  | 6 => ("HeapClaimsModel", "list", "[Z", true)
  | 7 => ("HeapClaimsModel", "group", "[I", true)
  | 8 => ("HeapClaimsModel", "cell", "[Z", true)
  | 9 => ("HeapClaimsModel", "next", "[I", true)
  | 10 => ("HeapClaimsModel", "far", "[Z", true)
  | 11 => ("HeapClaimsModel", "taken", "[Z", true)
  | 12 => ("HeapClaimsModel", "chosen", "[I", true)
  | 13 => ("HeapClaimsModel", "ofPiece", "[I", true)
  | 14 => ("HeapClaimsModel", "at", "[I", true)
  | 15 => ("HeapClaimsModel", "mode", "I", false)
  | 16 => ("HeapClaimsModel", "one", "I", false)
  | 17 => ("HeapClaimsModel", "two", "I", false)
  | 18 => ("HeapClaimsModel", "more", "I", false)
  | 19 => ("HeapClaimsModel", "values", "[I", true)
  | 20 => ("HeapClaimsModel", "heap", "[I", true)
  | _ => ("HeapClaimsModel", "used", "[Z", true)
def tyX4 : Nat → FieldType := fun k => match k with
  | 0 => .int
  | 1 => .array .boolean
  | 2 => .array .boolean
  | 3 => .array .int
  | 4 => .array .int
  | 5 => .array .int
  | 6 => .array .boolean
  | 7 => .array .int
  | 8 => .array .boolean
  | 9 => .array .int
  | 10 => .array .boolean
  | 11 => .array .boolean
  | 12 => .array .int
  | 13 => .array .int
  | 14 => .array .int
  | 15 => .int
  | 16 => .int
  | 17 => .int
  | 18 => .int
  | 19 => .array .int
  | 20 => .array .int
  | _ => .array .boolean
theorem nmX4 : ∀ a, a < 22 → ∀ b, b < 22 → a ≠ b → (TX4 a).2.1 ≠ (TX4 b).2.1 := by decide +kernel
theorem tyX4_ok : ∀ k, k < 22 → parseFieldDescriptor (TX4 k).2.2.1 = some (tyX4 k) := by decide +kernel
def RL : String := "HeapClaimsLaw"
def RJ6 : String := "java/lang/Integer"
def RJ7 : String := "java/util/Arrays"
abbrev cX3_init : ByteArray := prog_1_method_1_code
def yX3_init : MethodName := ⟨RX3, "<init>", "()V"⟩
abbrev cX1_init : ByteArray := prog_3_method_1_code
def yX1_init : MethodName := ⟨RX1, "<init>", "()V"⟩
abbrev cX2_init : ByteArray := prog_4_method_1_code
def yX2_init : MethodName := ⟨RX2, "<init>", "(I)V"⟩
abbrev cJ7_fill : ByteArray := prog_17_method_103_code
def yJ7_fill : MethodName := ⟨RJ7, "fill", "([II)V"⟩
abbrev cX0_init : ByteArray := prog_2_method_1_code
def yX0_init : MethodName := ⟨RX0, "<init>", "()V"⟩
abbrev cX3_swap : ByteArray := prog_1_method_5_code
def yX3_swap : MethodName := ⟨RX3, "swap", "()V"⟩
abbrev cX3_implies : ByteArray := prog_1_method_8_code
def yX3_implies : MethodName := ⟨RX3, "implies", "()Z"⟩
abbrev cX3_leastFrame : ByteArray := prog_1_method_28_code
def yX3_leastFrame : MethodName := ⟨RX3, "leastFrame", "()I"⟩
abbrev cX0_begin : ByteArray := prog_2_method_2_code
def yX0_begin : MethodName := ⟨RX0, "begin", "(I)V"⟩
abbrev cX0_draw : ByteArray := prog_2_method_5_code
def yX0_draw : MethodName := ⟨RX0, "draw", "(LHeapClaims$Claim;)Z"⟩
abbrev cX1_pairsFit : ByteArray := prog_3_method_5_code
def yX1_pairsFit : MethodName := ⟨RX1, "pairsFit", "([I)Z"⟩
abbrev cX1_termsEqualTo : ByteArray := prog_3_method_6_code
def yX1_termsEqualTo : MethodName := ⟨RX1, "termsEqualTo", "(I[I)I"⟩
abbrev cX2_removeAll : ByteArray := prog_4_method_6_code
def yX2_removeAll : MethodName := ⟨RX2, "removeAll", "()V"⟩
abbrev cX2_hasCell : ByteArray := prog_4_method_2_code
def yX2_hasCell : MethodName := ⟨RX2, "hasCell", "(I)Z"⟩
abbrev cX2_setStretch : ByteArray := prog_4_method_4_code
def yX2_setStretch : MethodName := ⟨RX2, "setStretch", "(IIZI)V"⟩
abbrev cX2_takenBy : ByteArray := prog_4_method_8_code
def yX2_takenBy : MethodName := ⟨RX2, "takenBy", "(LHeapClaims$Claim;)I"⟩
abbrev cX2_takenByList : ByteArray := prog_4_method_10_code
def yX2_takenByList : MethodName := ⟨RX2, "takenByList", "(II)I"⟩
abbrev cX2_takenByCell : ByteArray := prog_4_method_9_code
def yX2_takenByCell : MethodName := ⟨RX2, "takenByCell", "(II)I"⟩
abbrev cX0_advance : ByteArray := prog_2_method_3_code
def yX0_advance : MethodName := ⟨RX0, "advance", "()Z"⟩
abbrev cX0_greatestBefore : ByteArray := prog_2_method_4_code
def yX0_greatestBefore : MethodName := ⟨RX0, "greatestBefore", "(I)I"⟩
abbrev cX3_frame : ByteArray := prog_1_method_10_code
def yX3_frame : MethodName := ⟨RX3, "frame", "()I"⟩
abbrev cX3_next : ByteArray := prog_1_method_20_code
def yX3_next : MethodName := ⟨RX3, "next", "(I)I"⟩
abbrev cX3_count : ByteArray := prog_1_method_21_code
def yX3_count : MethodName := ⟨RX3, "count", "()I"⟩
abbrev cJ6_bitCount : ByteArray := prog_11_method_49_code
def yJ6_bitCount : MethodName := ⟨RJ6, "bitCount", "(I)I"⟩
abbrev cL_pair : ByteArray := method_3_code
def yL_pair : MethodName := ⟨RL, "pair", "(LHeapClaims;IIIZ)I"⟩
abbrev cX3_pair : ByteArray := prog_1_method_2_code
def yX3_pair : MethodName := ⟨RX3, "pair", "(IIIZ)V"⟩
abbrev cX3_claimAt : ByteArray := prog_1_method_22_code
def yX3_claimAt : MethodName := ⟨RX3, "claimAt", "(I)LHeapClaims$Claim;"⟩
abbrev cX3_checkTerm : ByteArray := prog_1_method_23_code
def yX3_checkTerm : MethodName := ⟨RX3, "checkTerm", "(I)V"⟩
abbrev cX1_addPair : ByteArray := prog_3_method_2_code
def yX1_addPair : MethodName := ⟨RX1, "addPair", "(IIZ)V"⟩
abbrev cL_piece : ByteArray := method_4_code
def yL_piece : MethodName := ⟨RL, "piece", "(LHeapClaims;IIIZ[J)I"⟩
abbrev cX3_piece : ByteArray := prog_1_method_3_code
def yX3_piece : MethodName := ⟨RX3, "piece", "(IIIZ)I"⟩
abbrev cX1_addPiece : ByteArray := prog_3_method_3_code
def yX1_addPiece : MethodName := ⟨RX1, "addPiece", "(IIZ)V"⟩
abbrev cL_clear : ByteArray := method_5_code
def yL_clear : MethodName := ⟨RL, "clear", "(LHeapClaims;I)I"⟩
abbrev cX3_clear : ByteArray := prog_1_method_4_code
def yX3_clear : MethodName := ⟨RX3, "clear", "(I)V"⟩
abbrev cX1_forgetAll : ByteArray := prog_3_method_4_code
def yX1_forgetAll : MethodName := ⟨RX1, "forgetAll", "()V"⟩
abbrev cL_pieces : ByteArray := method_6_code
def yL_pieces : MethodName := ⟨RL, "pieces", "(LHeapClaims;I[J)I"⟩
abbrev cX3_pieces : ByteArray := prog_1_method_6_code
def yX3_pieces : MethodName := ⟨RX3, "pieces", "(I)I"⟩
abbrev cL_possible : ByteArray := method_7_code
def yL_possible : MethodName := ⟨RL, "possible", "(LHeapClaims;I[J)I"⟩
abbrev cX3_possible : ByteArray := prog_1_method_7_code
def yX3_possible : MethodName := ⟨RX3, "possible", "(I)Z"⟩
abbrev cL_sure : ByteArray := method_8_code
def yL_sure : MethodName := ⟨RL, "sure", "(LHeapClaims;III[J)I"⟩
abbrev cX3_sure : ByteArray := prog_1_method_9_code
def yX3_sure : MethodName := ⟨RX3, "sure", "(III)Z"⟩
abbrev cX3_isSo : ByteArray := prog_1_method_27_code
def yX3_isSo : MethodName := ⟨RX3, "isSo", "(III)Z"⟩
abbrev cL_give : ByteArray := method_9_code
def yL_give : MethodName := ⟨RL, "give", "(LHeapClaims;II)I"⟩
abbrev cX3_give : ByteArray := prog_1_method_11_code
def yX3_give : MethodName := ⟨RX3, "give", "(II)V"⟩
abbrev cX3_checkVariable : ByteArray := prog_1_method_24_code
def yX3_checkVariable : MethodName := ⟨RX3, "checkVariable", "(I)V"⟩
abbrev cX3_checkValue : ByteArray := prog_1_method_25_code
def yX3_checkValue : MethodName := ⟨RX3, "checkValue", "(I)V"⟩
abbrev cL_put : ByteArray := method_10_code
def yL_put : MethodName := ⟨RL, "put", "(LHeapClaims;II)I"⟩
abbrev cX3_put : ByteArray := prog_1_method_12_code
def yX3_put : MethodName := ⟨RX3, "put", "(II)V"⟩
abbrev cX2_setCell : ByteArray := prog_4_method_3_code
def yX2_setCell : MethodName := ⟨RX2, "setCell", "(II)V"⟩
abbrev cL_holds : ByteArray := method_11_code
def yL_holds : MethodName := ⟨RL, "holds", "(LHeapClaims;I[J)I"⟩
abbrev cX3_holds : ByteArray := prog_1_method_13_code
def yX3_holds : MethodName := ⟨RX3, "holds", "(I)Z"⟩
abbrev cL_copy : ByteArray := method_12_code
def yL_copy : MethodName := ⟨RL, "copy", "(LHeapClaims;II)I"⟩
abbrev cX3_copy : ByteArray := prog_1_method_14_code
def yX3_copy : MethodName := ⟨RX3, "copy", "(II)V"⟩
abbrev cL_load : ByteArray := method_13_code
def yL_load : MethodName := ⟨RL, "load", "(LHeapClaims;II)I"⟩
abbrev cX3_load : ByteArray := prog_1_method_15_code
def yX3_load : MethodName := ⟨RX3, "load", "(II)V"⟩
abbrev cX3_checkCell : ByteArray := prog_1_method_26_code
def yX3_checkCell : MethodName := ⟨RX3, "checkCell", "(I)V"⟩
abbrev cL_store : ByteArray := method_14_code
def yL_store : MethodName := ⟨RL, "store", "(LHeapClaims;II)I"⟩
abbrev cX3_store : ByteArray := prog_1_method_16_code
def yX3_store : MethodName := ⟨RX3, "store", "(II)V"⟩
abbrev cL_make : ByteArray := method_15_code
def yL_make : MethodName := ⟨RL, "make", "(LHeapClaims;I)I"⟩
abbrev cX3_make : ByteArray := prog_1_method_17_code
def yX3_make : MethodName := ⟨RX3, "make", "(I)V"⟩
abbrev cX2_leastFreeAddress : ByteArray := prog_4_method_7_code
def yX2_leastFreeAddress : MethodName := ⟨RX2, "leastFreeAddress", "()I"⟩
abbrev cL_drop : ByteArray := method_16_code
def yL_drop : MethodName := ⟨RL, "drop", "(LHeapClaims;I)I"⟩
abbrev cX3_drop : ByteArray := prog_1_method_18_code
def yX3_drop : MethodName := ⟨RX3, "drop", "(I)V"⟩
abbrev cX2_removeCell : ByteArray := prog_4_method_5_code
def yX2_removeCell : MethodName := ⟨RX2, "removeCell", "(I)V"⟩
abbrev cL_value : ByteArray := method_17_code
def yL_value : MethodName := ⟨RL, "value", "(LHeapClaims;I[J)I"⟩
abbrev cX3_value : ByteArray := prog_1_method_19_code
def yX3_value : MethodName := ⟨RX3, "value", "(I)I"⟩
abbrev cX4_init : ByteArray := prog_6_method_1_code
def yX4_init : MethodName := ⟨RX4, "<init>", "()V"⟩
abbrev cX4_thrown : ByteArray := prog_6_method_2_code
def yX4_thrown : MethodName := ⟨RX4, "thrown", "()I"⟩
abbrev cX4_pair : ByteArray := prog_6_method_6_code
def yX4_pair : MethodName := ⟨RX4, "pair", "(IIIZ)V"⟩
abbrev cX4_noClaim : ByteArray := prog_6_method_3_code
def yX4_noClaim : MethodName := ⟨RX4, "noClaim", "(I)Z"⟩
abbrev cX4_noTerm : ByteArray := prog_6_method_4_code
def yX4_noTerm : MethodName := ⟨RX4, "noTerm", "(I)Z"⟩
abbrev cX4_piece : ByteArray := prog_6_method_7_code
def yX4_piece : MethodName := ⟨RX4, "piece", "(IIIZ)I"⟩
abbrev cX4_clear : ByteArray := prog_6_method_8_code
def yX4_clear : MethodName := ⟨RX4, "clear", "(I)V"⟩
abbrev cX4_swap : ByteArray := prog_6_method_9_code
def yX4_swap : MethodName := ⟨RX4, "swap", "()V"⟩
abbrev cX4_pieces : ByteArray := prog_6_method_10_code
def yX4_pieces : MethodName := ⟨RX4, "pieces", "(I)I"⟩
abbrev cX4_possible : ByteArray := prog_6_method_23_code
def yX4_possible : MethodName := ⟨RX4, "possible", "(I)Z"⟩
abbrev cX4_some : ByteArray := prog_6_method_19_code
def yX4_some : MethodName := ⟨RX4, "some", "(I)Z"⟩
abbrev cX4_pairsTrue : ByteArray := prog_6_method_11_code
def yX4_pairsTrue : MethodName := ⟨RX4, "pairsTrue", "(I)Z"⟩
abbrev cX4_begun : ByteArray := prog_6_method_14_code
def yX4_begun : MethodName := ⟨RX4, "begun", "(I)Z"⟩
abbrev cX4_isEmpty : ByteArray := prog_6_method_13_code
def yX4_isEmpty : MethodName := ⟨RX4, "isEmpty", "(I)Z"⟩
abbrev cX4_someWay : ByteArray := prog_6_method_17_code
def yX4_someWay : MethodName := ⟨RX4, "someWay", "(I)Z"⟩
abbrev cX4_nextList : ByteArray := prog_6_method_15_code
def yX4_nextList : MethodName := ⟨RX4, "nextList", "(II)I"⟩
abbrev cX4_isLookedFor : ByteArray := prog_6_method_22_code
def yX4_isLookedFor : MethodName := ⟨RX4, "isLookedFor", "()Z"⟩
abbrev cX4_rightTrue : ByteArray := prog_6_method_21_code
def yX4_rightTrue : MethodName := ⟨RX4, "rightTrue", "()Z"⟩
abbrev cX4_takes : ByteArray := prog_6_method_20_code
def yX4_takes : MethodName := ⟨RX4, "takes", "(I)Z"⟩
abbrev cX4_isFree : ByteArray := prog_6_method_18_code
def yX4_isFree : MethodName := ⟨RX4, "isFree", "(II)Z"⟩
abbrev cX4_isGroup : ByteArray := prog_6_method_16_code
def yX4_isGroup : MethodName := ⟨RX4, "isGroup", "(I)Z"⟩
abbrev cX4_nextGroups : ByteArray := prog_6_method_12_code
def yX4_nextGroups : MethodName := ⟨RX4, "nextGroups", "()Z"⟩
abbrev cX4_implies : ByteArray := prog_6_method_24_code
def yX4_implies : MethodName := ⟨RX4, "implies", "()Z"⟩
abbrev cX4_sure : ByteArray := prog_6_method_25_code
def yX4_sure : MethodName := ⟨RX4, "sure", "(III)Z"⟩
abbrev cX4_frame : ByteArray := prog_6_method_26_code
def yX4_frame : MethodName := ⟨RX4, "frame", "()I"⟩
abbrev cX4_give : ByteArray := prog_6_method_27_code
def yX4_give : MethodName := ⟨RX4, "give", "(II)V"⟩
abbrev cX4_noVariable : ByteArray := prog_6_method_5_code
def yX4_noVariable : MethodName := ⟨RX4, "noVariable", "(I)Z"⟩
abbrev cX4_put : ByteArray := prog_6_method_28_code
def yX4_put : MethodName := ⟨RX4, "put", "(II)V"⟩
abbrev cX4_holds : ByteArray := prog_6_method_31_code
def yX4_holds : MethodName := ⟨RX4, "holds", "(I)Z"⟩
abbrev cX4_valueOf : ByteArray := prog_6_method_29_code
def yX4_valueOf : MethodName := ⟨RX4, "valueOf", "(I)I"⟩
abbrev cX4_takesAtHand : ByteArray := prog_6_method_30_code
def yX4_takesAtHand : MethodName := ⟨RX4, "takesAtHand", "(I)Z"⟩
abbrev cX4_copy : ByteArray := prog_6_method_32_code
def yX4_copy : MethodName := ⟨RX4, "copy", "(II)V"⟩
abbrev cX4_load : ByteArray := prog_6_method_33_code
def yX4_load : MethodName := ⟨RX4, "load", "(II)V"⟩
abbrev cX4_store : ByteArray := prog_6_method_34_code
def yX4_store : MethodName := ⟨RX4, "store", "(II)V"⟩
abbrev cX4_make : ByteArray := prog_6_method_35_code
def yX4_make : MethodName := ⟨RX4, "make", "(I)V"⟩
abbrev cX4_drop : ByteArray := prog_6_method_36_code
def yX4_drop : MethodName := ⟨RX4, "drop", "(I)V"⟩
abbrev cX4_value : ByteArray := prog_6_method_37_code
def yX4_value : MethodName := ⟨RX4, "value", "(I)I"⟩
abbrev cX4_next : ByteArray := prog_6_method_38_code
def yX4_next : MethodName := ⟨RX4, "next", "(I)I"⟩
abbrev cX4_count : ByteArray := prog_6_method_39_code
def yX4_count : MethodName := ⟨RX4, "count", "()I"⟩
abbrev cL_law : ByteArray := code
def yL_law : MethodName := ⟨RL, "law", "([I)Z"⟩
abbrev vwCl : List vw_C := [(RX0, TX0, 2), (RX1, TX1, 7), (RX2, TX2, 6), (RX3, TX3, 4), (RX4, TX4, 22)]
/-- all words that a call keeps -/
def hwG : List Cond := lw_tbl.filter goodWord
theorem hwG_of {w : Cond} (h : w ∈ tables_1) (hg : goodWord w = true) : w ∈ hwG := List.mem_filter.mpr ⟨List.mem_append_right _ h, hg⟩
theorem hwG_sel {q : MethodName × Nat} (h : q ∈ lw_privs) (hg : goodWord (.selects q.1.cls q.1 q.1) = true) : Cond.selects q.1.cls q.1 q.1 ∈ hwG := List.mem_filter.mpr ⟨List.mem_append_left _ (List.mem_map.mpr ⟨q, h, rfl⟩), hg⟩
theorem hwG_good : ∀ w ∈ hwG, (w.onTables && w.keeps) = true ∨ ∃ ty, w = .arrayClass ty := fun w h => good_of_word (List.mem_filter.mp h).2
end
