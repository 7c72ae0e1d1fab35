/-! The class's walk along a list, step by step; the reference's choices. -/
def hc_b (b : Bool) : Int32 := if b = true then 1 else 0
section WALK
variable {nx : Nat → Option Nat} {lg : Nat → Bool} {nil s e x G : Nat}
theorem hc_PP_ext : ∀ (pre l : List Nat) (g : Nat), hc_PP nx e x pre g → hc_P nx e l g → ∃ l2, l = pre ++ l2 ∧ hc_P nx e l2 x := by
  intro pre
  induction pre with
  | nil => intro l g h hp; exact ⟨l, rfl, by rw [← show g = x from h]; exact hp⟩
  | cons a pre ih =>
    intro l g h hp
    obtain ⟨h1, h2, y, hy, hq⟩ := h
    cases l with
    | nil => exact absurd (hc_P_nil.mp hp) h2
    | cons b l =>
      obtain ⟨k1, k2, z, hz, hr⟩ := hc_P_cons.mp hp
      rw [hy] at hz
      injection hz with hz
      rw [← hz] at hr
      obtain ⟨l2, q1, q2⟩ := ih l y hq hr
      exact ⟨l2, by rw [q1, h1, k1]; rfl, q2⟩
theorem hc_PP_snoc {z : Nat} (hx : x ≠ e) (hz : nx x = some z) (pre : List Nat) (g : Nat) (h : hc_PP nx e x pre g) : hc_PP nx e z (pre ++ [x]) g := hc_PP_app hx hz pre g h
/-- no cell there: no path goes on -/
theorem hc_walk_none {pre : List Nat} (hp : hc_PP nx e x pre s) (hx : x ≠ e) (hn : nx x = none) : ¬ ∃ l, hc_cp nx lg nil s e true l := by
  rintro ⟨l, h, -⟩
  obtain ⟨l2, h1, h2⟩ := hc_PP_ext pre l s hp (h.1 rfl)
  have h3 := hc_P_head h2 hx
  exact (hc_P_ne _ _ h2 x h3).2 hn
/-- a loose end that may lie inside -/
theorem hc_walk_loose {pre : List Nat} (hp : hc_PP nx e x pre s) (hx : x ≠ e) (hlo : hc_lo nx nil e) (hlg : lg x = true) (hn : nx x ≠ some e) : ¬ ∃ l, hc_cp nx lg nil s e true l := by
  rintro ⟨l, h, hc⟩
  obtain ⟨l2, h1, h2⟩ := hc_PP_ext pre l s hp (h.1 rfl)
  exact hn (hc rfl hlo x (by rw [h1]; exact List.mem_append.mpr (Or.inr (hc_P_head h2 hx))) hlg)
/-- as many steps as there are addresses, and not there: a circle -/
theorem hc_walk_long {pre : List Nat} (hG : ∀ a, nx a ≠ none → 1 ≤ a ∧ a ≤ G) (hp : hc_PP nx e x pre s) (hx : x ≠ e) (hlen : G ≤ pre.length) : ¬ ∃ l, hc_cp nx lg nil s e true l := by
  rintro ⟨l, h, -⟩
  have hl := h.1 rfl
  obtain ⟨l2, h1, h2⟩ := hc_PP_ext pre l s hp hl
  have h3 := List.length_pos_of_mem (hc_P_head h2 hx)
  have h4 := hc_pigeon l ((List.range G).map (fun a => a + 1)) (hc_P_nodup l s hl) (fun a ha => by
    obtain ⟨k1, k2⟩ := hG a (hc_P_ne _ _ hl a ha).2
    exact List.mem_map.mpr ⟨a - 1, List.mem_range.mpr (by omega), by omega⟩)
  rw [List.length_map, List.length_range, h1, List.length_append] at h4
  omega
theorem hc_walk_done {l : List Nat} (hp : hc_PP nx e e l s) (hc : hc_lo nx nil e → ∀ a, a ∈ l → lg a = true → nx a = some e) : hc_cp nx lg nil s e true l := ⟨⟨fun _ => hp, fun h => by cases h⟩, fun _ => hc⟩
end WALK
section CHOICE
variable {fr : Nat → Prop} {L : List (Nat × Nat × Bool) → Prop} {k x e : Nat} {rs : List (Nat × Nat)} {as : List (Nat × Nat × Bool)}
/-- the reference's choice c -/
def hc_Ch (fr : Nat → Prop) (L : List (Nat × Nat × Bool) → Prop) (k x e : Nat) (rs : List (Nat × Nat)) (as : List (Nat × Nat × Bool)) (c : Nat) : Prop :=
  if c < 2 then hc_Ex fr L k rs ((x, e, decide (c % 2 = 1)) :: as) else
    fr (c / 2 - 1) ∧ c / 2 - 1 ≠ e ∧ c / 2 - 1 ≠ x ∧ hc_nx as (c / 2 - 1) = none ∧ hc_Ex fr L k ((c / 2 - 1, e) :: rs) ((x, c / 2 - 1, decide (c % 2 = 1)) :: as)
theorem hc_Ex_Ch (hfr : ∀ g, fr g → g < 6) : hc_Ex fr L (k + 1) ((x, e) :: rs) as ↔ ∃ c, c < 14 ∧ hc_Ch fr L k x e rs as c := by
  rw [hc_Ex_cons]
  constructor
  · rintro ⟨b, h | ⟨g, g1, g2, g3, g4, h⟩⟩
    · cases b with
      | false => exact ⟨0, by omega, by unfold hc_Ch; rw [if_pos (by omega)]; exact h⟩
      | true => exact ⟨1, by omega, by unfold hc_Ch; rw [if_pos (by omega)]; exact h⟩
    · have hg := hfr g g1
      cases b with
      | false =>
        refine ⟨2 * g + 2, by omega, ?_⟩
        unfold hc_Ch
        rw [if_neg (by omega), show (2 * g + 2) / 2 - 1 = g by omega, show decide ((2 * g + 2) % 2 = 1) = false from decide_eq_false (by omega)]
        exact ⟨g1, g2, g3, g4, h⟩
      | true =>
        refine ⟨2 * g + 3, by omega, ?_⟩
        unfold hc_Ch
        rw [if_neg (by omega), show (2 * g + 3) / 2 - 1 = g by omega, show decide ((2 * g + 3) % 2 = 1) = true from decide_eq_true (by omega)]
        exact ⟨g1, g2, g3, g4, h⟩
  · rintro ⟨c, hc, h⟩
    unfold hc_Ch at h
    by_cases hc2 : c < 2
    · rw [if_pos hc2] at h
      exact ⟨_, Or.inl h⟩
    · rw [if_neg hc2] at h
      obtain ⟨g1, g2, g3, g4, h⟩ := h
      exact ⟨_, Or.inr ⟨c / 2 - 1, g1, g2, g3, g4, h⟩⟩
end CHOICE
