/-! What the throws of the class take as given. -/
def hxI : String := "java/lang/IndexOutOfBoundsException"
def hxG : String := "java/lang/IllegalStateException"
def hxA : String := "java/lang/IllegalArgumentException"
def hxU : String := "java/lang/UnsupportedOperationException"
def hxN : List String := ["java/lang/RuntimeException", "java/lang/Exception"]
/-- words that writing could change, or that the kit's lists of words that stay lack -/
def hxB : List Cond := [.castable hxI hxI, .castable hxG hxG, .castable hxA hxA, .castable hxU hxU, .declares (Bundle.initS "java/lang/RuntimeException"), .declares (Bundle.initS "java/lang/Exception"), .declares (Bundle.initS "java/lang/Throwable"),
  .laysStatic "java/lang/Throwable" "UNASSIGNED_STACK" "[Ljava/lang/StackTraceElement;", .laysStatic "java/lang/Throwable" "SUPPRESSED_SENTINEL" "Ljava/util/List;",
  .isRef (.static "java/lang/Throwable" "UNASSIGNED_STACK" "[Ljava/lang/StackTraceElement;"), .isRef (.static "java/lang/Throwable" "SUPPRESSED_SENTINEL" "Ljava/util/List;")]
def hx_B (U : State) : Prop := (∀ a, (Cond.initialized "java/lang/Throwable").before a U = true) ∧ ∀ w, w ∈ hxB → ∀ a, w.before a U = true
theorem hx_cast {C T : String} {a a' : Array Value} {s U : State} (hW : s.WarmedH U.vm) (h : (Cond.castable C T).before a s = true) : (Cond.castable C T).before a' U = true := by
  obtain ⟨c, t, h1, h2, h3⟩ := Cond.castable_spec h
  have e1 : U.vm.findClass C = some c := by rw [hW.alike.findClass]; exact h1
  have e2 : U.vm.findClass T = some t := by rw [hW.alike.findClass]; exact h2
  have e3 : U.vm.assignable c t = true := by rw [hW.alike.assignable]; exact h3
  simp [Cond.before, Cond.holds, Cond.value, e1, e2, e3]
theorem hx_decl {x : MethodName} {a a' : Array Value} {s U : State} (hW : s.WarmedH U.vm) (h : (Cond.declares x).before a s = true) : (Cond.declares x).before a' U = true := by
  obtain ⟨m, meth, h1, h2, h3, h4⟩ := Cond.declares_spec h
  have e1 : U.methodNamed? x = some m := by
    have := State.methodNamed?_setVm hW.alike x
    rw [h1] at this
    exact this
  have e2 : U.vm.method? m = some meth := by rw [hW.alike.method?]; exact h2
  simp [Cond.before, Cond.holds, Cond.value, e1, e2, h3, h4]
theorem hx_B_old {s0 U : State} (hO : hx_Old s0 U) (h : hx_B s0) : hx_B U := by
  obtain ⟨hi, h⟩ := h
  refine ⟨fun a => word_at hO.1 (Or.inl (by first | rfl | simp [Cond.onTables, Cond.keeps, Cond.steady])) (hi a), fun w hw a => ?_⟩
  have h0 := h w hw
  simp only [hxB, List.mem_cons, List.not_mem_nil, or_false] at hw
  rcases hw with rfl | rfl | rfl | rfl | rfl | rfl | rfl | rfl | rfl | rfl | rfl
  · exact hx_cast hO.1 (h0 a)
  · exact hx_cast hO.1 (h0 a)
  · exact hx_cast hO.1 (h0 a)
  · exact hx_cast hO.1 (h0 a)
  · exact hx_decl hO.1 (h0 a)
  · exact hx_decl hO.1 (h0 a)
  · exact hx_decl hO.1 (h0 a)
  · exact hx_lays hO (h0 a)
  · exact hx_lays hO (h0 a)
  · exact hx_ref hO (h _ (by simp [hxB]) a) (hi a) (h0 a)
  · exact hx_ref hO (h _ (by simp [hxB]) a) (hi a) (h0 a)
/-- the texts of the nine throws -/
def hxT : List (Nat × String) := [(142, "claims are 0 and 1"), (145, "terms are 0 .. 5"), (147, "variables are 0 .. 4"), (149, "values are 0 .. 9"), (151, "there is no such cell"), (52, "the claim has 5 pieces"), (83, "what is 0, 1 or 2"), (100, "0 is no address"), (124, "all addresses have a cell")]
def hx_E (sa : Nat → Nat) (U : State) : Prop := hx_B U ∧ ∀ x, x ∈ hxT → vk_R RX3 x.1 x.2 (sa x.1) U
theorem hx_E_old {sa : Nat → Nat} {s0 U : State} (hO : hx_Old s0 U) (h : hx_E sa s0) : hx_E sa U := ⟨hx_B_old hO h.1, fun x hx => (h.2 x hx).warm hO.1⟩
/-- a method that may throw: it is given the cells ws -/
def hp_X (av : List Value) (D : va_G) (cI cZ cJ : ClassId) (ws : va_W) (sa : Nat → Nat) : Array Value → State → Prop := va_Pc av (fun U => va_P D vwCl ws U.heap ∧ hz_K D cI cZ cJ U ∧ hx_E sa U)
theorem hx_call {s0 U : State} {g : JFrame} {mk : MethodId} {a : Array Value} (h : hx_Old s0 U) : hx_Old s0 (U.calling g mk a) := h
theorem hp_X_blind {av : List Value} {D : va_G} {cI cZ cJ : ClassId} {ws : va_W} {sa : Nat → Nat} : FrameBlind (hp_X av D cI cZ cJ ws sa) := fun a U g mk q =>
  ⟨q.1, q.2.1, hz_K.warm (U := U.calling g mk a) (State.WarmedH.refl U) q.2.2.1, hx_E_old (U := U.calling g mk a) (s0 := U) ⟨State.WarmedH.refl U, Nat.le_refl _, fun _ _ => rfl⟩ q.2.2.2⟩
theorem hp_X_pre {av : List Value} {D : va_G} {cI cZ cJ : ClassId} {ws : va_W} {sa : Nat → Nat} {s : State} (hP : va_P D vwCl ws s.heap) (hz : hz_K D cI cZ cJ s) (hE : hx_E sa s) : ∀ U : State, U.heap = s.heap → s.WarmedH U.vm → hp_X av D cI cZ cJ ws sa av.toArray U :=
  fun U hU hW => ⟨rfl, by rw [hU]; exact hP, hz.warm hW, hx_E_old ⟨hW, by rw [hU]; exact Nat.le_refl _, fun q _ => by rw [hU]⟩ hE⟩
set_option maxRecDepth 100000 in
theorem hx_oI : ∀ w, w ∈ Bundle.ownAtoms RX3 144 hxI hxN → w ∈ hwG ∨ w ∈ hxB := by decide +kernel
set_option maxRecDepth 100000 in
theorem hx_oG : ∀ w, w ∈ Bundle.ownAtoms RX3 54 hxG hxN → w ∈ hwG ∨ w ∈ hxB := by decide +kernel
set_option maxRecDepth 100000 in
theorem hx_oA : ∀ w, w ∈ Bundle.ownAtoms RX3 85 hxA hxN → w ∈ hwG ∨ w ∈ hxB := by decide +kernel
set_option maxRecDepth 100000 in
theorem hx_oU : ∀ w, w ∈ Bundle.ownAtoms RX3 126 hxU hxN → w ∈ hwG ∨ w ∈ hxB := by decide +kernel
theorem hx_own {s : State} {args : Array Value} {l : List Cond} (ho : ∀ w, w ∈ l → w ∈ hwG ∨ w ∈ hxB) (htg : ∀ w, w ∈ hwG → w.before args s = true) (hB : hx_B s) : ∀ w ∈ l, w.before args s = true := fun w hw => (ho w hw).elim (htg w) (fun h => hB.2 w h args)
