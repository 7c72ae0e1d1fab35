/-! What every contract of this claim takes as given of a state; calls over the one list of words hwG. -/
def hz_isN : Cond → Bool
  | .fieldLinkNest .. => true
  | .methodLinkNest .. => true
  | _ => false
/-- the words on private members of the nest -/
def hzN : List Cond := tables_1.filter hz_isN
def hz_K (D : va_G) (cI cZ cJ : ClassId) (U : State) : Prop := va_K D vwCl [(cI, .int), (cZ, .boolean), (cJ, .long)] U ∧ ∀ w ∈ hzN, va_Nw w U
theorem hz_K.warm {D : va_G} {cI cZ cJ : ClassId} {s U : State} (hW : s.WarmedH U.vm) (h : hz_K D cI cZ cJ s) : hz_K D cI cZ cJ U := by
  refine ⟨va_K.moved hW.alike h.1, fun w hw => ?_⟩
  have h1 := h.2 w hw
  have h2 := (List.mem_filter.mp hw).2
  cases w <;> first | exact va_Nw.warmF hW h1 | exact va_Nw.warmM hW h1 | exact (Bool.noConfusion h2)
theorem hz_nest {w : Cond} (h : w ∈ tables_1) (hg : hz_isN w = true) : w ∈ hzN := List.mem_filter.mpr ⟨h, hg⟩
theorem hz_useF {a : String} {i : Nat} {b n d h : String} {A : Array Value} {D : va_G} {cI cZ cJ : ClassId} {s : State} (hz : hz_K D cI cZ cJ s) (hw : Cond.fieldLinkNest a i b n d h ∈ hzN) : (Cond.fieldLinkNest a i b n d h).before A s = true := va_Nw.use rfl (hz.2 _ hw)
theorem hz_useM {a : String} {i : Nat} {x : MethodName} {h : String} {A : Array Value} {D : va_G} {cI cZ cJ : ClassId} {s : State} (hz : hz_K D cI cZ cJ s) (hw : Cond.methodLinkNest a i x h ∈ hzN) : (Cond.methodLinkNest a i x h).before A s = true := va_Nw.use rfl (hz.2 _ hw)
/-- a method that only reads: the cells ws -/
def hp_R (av : List Value) (D : va_G) (cI cZ cJ : ClassId) (ws : va_W) : Array Value → State → Prop := va_Pc av (fun U => va_P D vwCl ws U.heap ∧ hz_K D cI cZ cJ U)
theorem hp_R_blind {av : List Value} {D : va_G} {cI cZ cJ : ClassId} {ws : va_W} : FrameBlind (hp_R av D cI cZ cJ ws) := fun a U g mk q => ⟨q.1, q.2.1, hz_K.warm (U := U.calling g mk a) (State.WarmedH.refl U) q.2.2⟩
theorem hp_R_pre {av : List Value} {D : va_G} {cI cZ cJ : ClassId} {ws : va_W} {H : Heap} {s : State} (hP : va_P D vwCl ws H) (hz : hz_K D cI cZ cJ s) : ∀ U : State, U.heap = H → s.WarmedH U.vm → hp_R av D cI cZ cJ ws av.toArray U := fun U hU hW => ⟨rfl, by rw [hU]; exact hP, hz.warm hW⟩
/-- a method that writes the cells ws -/
def hp_M (av : List Value) (D : va_G) (cI cZ cJ : ClassId) (ws : va_W) (sz : Nat) : Array Value → State → Prop := va_Pc av (fun U => U.heap.size = sz ∧ va_P D vwCl ws U.heap ∧ hz_K D cI cZ cJ U ∧ va_D (fun _ => True) ws)
theorem hp_M_blind {av : List Value} {D : va_G} {cI cZ cJ : ClassId} {ws : va_W} {sz : Nat} : FrameBlind (hp_M av D cI cZ cJ ws sz) := fun a U g mk q => ⟨q.1, q.2.1, q.2.2.1, hz_K.warm (U := U.calling g mk a) (State.WarmedH.refl U) q.2.2.2.1, q.2.2.2.2⟩
theorem hp_M_pre {av : List Value} {D : va_G} {cI cZ cJ : ClassId} {ws : va_W} {H : Heap} {s : State} {A : Nat → Prop} (hP : va_P D vwCl ws H) (hD : va_D A ws) (hz : hz_K D cI cZ cJ s) : ∀ U : State, U.heap = H → s.WarmedH U.vm → hp_M av D cI cZ cJ ws H.size av.toArray U :=
  fun U hU hW => ⟨rfl, by rw [hU], by rw [hU]; exact hP, hz.warm hW, hD.weaken (fun _ _ _ _ => trivial)⟩
/-- ws with w1 laid at the places is -/
def hp_putA : List Nat → va_W → va_W → va_W
  | [], ws, _ => ws
  | _ :: _, ws, [] => ws
  | i :: is, ws, x :: w1 => hp_putA is (ws.set i x) w1
abbrev hp_put (ws : va_W) (is : List Nat) (w1 : va_W) : va_W := hp_putA is ws w1
theorem hp_put_fst : ∀ (is : List Nat) (w1 ws : va_W), is.map (fun i => (ws[i]?).map (fun x => x.1)) = w1.map (fun x => some x.1) → (hp_put ws is w1).map (fun x => x.1) = ws.map (fun x => x.1) := by
  intro is
  induction is with
  | nil => intro w1 ws _; rfl
  | cons i is ih =>
    intro w1 ws h
    cases w1 with
    | nil => rfl
    | cons x w1 =>
      simp only [List.map_cons, List.cons.injEq] at h
      have hset : (ws.set i x).map (fun x => x.1) = ws.map (fun x => x.1) := by
        apply List.ext_getElem?
        intro k
        rw [List.getElem?_map, List.getElem?_map, List.getElem?_set]
        by_cases hik : i = k
        · rw [if_pos hik]
          by_cases hl : i < ws.length
          · rw [if_pos hl, ← hik, h.1]; rfl
          · rw [if_neg hl, ← hik, List.getElem?_eq_none (by omega)]
        · rw [if_neg hik]
      show (hp_put (ws.set i x) is w1).map (fun x => x.1) = _
      rw [ih w1 (ws.set i x) ?_, hset]
      rw [← h.2]
      apply List.map_congr_left
      intro j _
      rw [← List.getElem?_map, ← List.getElem?_map, hset]
theorem hp_put_in : ∀ (is : List Nat) (w1 ws : va_W), is.map (fun i => (ws[i]?).map (fun x => x.1)) = w1.map (fun x => some x.1) → ∀ (k : Nat) (q : Nat × va_E), (hp_put ws is w1)[k]? = some q → q ∈ w1 ∨ (ws[k]? = some q ∧ k ∉ is) := by
  intro is
  induction is with
  | nil => intro w1 ws _ k q h; exact Or.inr ⟨h, List.not_mem_nil⟩
  | cons i is ih =>
    intro w1 ws h k q hk
    cases w1 with
    | nil => simp at h
    | cons x w1 =>
      simp only [List.map_cons, List.cons.injEq] at h
      have hset : (ws.set i x).map (fun x => x.1) = ws.map (fun x => x.1) := by
        apply List.ext_getElem?
        intro k
        rw [List.getElem?_map, List.getElem?_map, List.getElem?_set]
        by_cases hik : i = k
        · rw [if_pos hik]
          by_cases hl : i < ws.length
          · rw [if_pos hl, ← hik, h.1]; rfl
          · rw [if_neg hl, ← hik, List.getElem?_eq_none (by omega)]
        · rw [if_neg hik]
      have h9 : is.map (fun i => ((ws.set i x)[i]?).map (fun x => x.1)) = is.map (fun i => ((ws.set i x)[i]?).map (fun x => x.1)) := rfl
      have h2 : is.map (fun j => ((ws.set i x)[j]?).map (fun x => x.1)) = w1.map (fun x => some x.1) := by
        rw [← h.2]
        apply List.map_congr_left
        intro j _
        rw [← List.getElem?_map, ← List.getElem?_map, hset]
      rcases ih w1 (ws.set i x) h2 k q hk with hq | ⟨hq, hn⟩
      · exact Or.inl (List.mem_cons_of_mem _ hq)
      · rw [List.getElem?_set] at hq
        by_cases hik : i = k
        · rw [if_pos hik] at hq
          by_cases hl : i < ws.length
          · rw [if_pos hl] at hq
            injection hq with hq
            exact Or.inl (by rw [← hq]; exact List.mem_cons_self)
          · rw [if_neg hl] at hq; cases hq
        · rw [if_neg hik] at hq
          exact Or.inr ⟨hq, fun hm => by
            rcases List.mem_cons.mp hm with hm | hm
            · exact hik hm.symm
            · exact hn hm⟩
/-- a callee has written its cells wc, which lie at the places is: they hold w1 now, the rest is as it was -/
theorem hp_join {A0 : Nat → Prop} {D : va_G} {cl : List vw_C} {ws wc w1 : va_W} {H H1 : Heap} (hP : va_P D cl ws H) (hD : va_D A0 ws) (is : List Nat) (hC : is.map (fun i => ws[i]?) = wc.map some) (h1 : w1.map (fun x => x.1) = wc.map (fun x => x.1))
    (hk : ∀ q : Nat, q < H.size → ¬ va_A wc H.size q → H1[q]? = H[q]?) (hP1 : va_P D cl w1 H1) : va_P D cl (hp_put ws is w1) H1 ∧ va_D A0 (hp_put ws is w1) := by
  have hA : is.map (fun i => (ws[i]?).map (fun x => x.1)) = w1.map (fun x => some x.1) := by
    have h2 : (is.map (fun i => ws[i]?)).map (fun o => o.map (fun x => x.1)) = (wc.map some).map (fun o => o.map (fun x => x.1)) := by rw [hC]
    rw [List.map_map, List.map_map] at h2
    have h3 : wc.map ((fun o : Option (Nat × va_E) => o.map (fun x => x.1)) ∘ some) = w1.map (fun x => some x.1) := by
      have h4 : wc.map ((fun o : Option (Nat × va_E) => o.map (fun x => x.1)) ∘ some) = (wc.map (fun x => x.1)).map some := by rw [List.map_map]; rfl
      rw [h4, ← h1, List.map_map]; rfl
    rw [← h3]; exact h2
  refine ⟨fun k q hq => ?_, ?_, ?_⟩
  · rcases hp_put_in is w1 ws hA k q hq with hm | ⟨hw, hn⟩
    · obtain ⟨j, hj⟩ := List.getElem?_of_mem hm
      exact hP1 j q hj
    · refine (hP k q hw).kept (hk q.1 (hP k q hw).lt ?_)
      rintro (⟨j, e, hj⟩ | hge)
      · have h5 : (is.map (fun i => ws[i]?))[j]? = some (some (q.1, e)) := by rw [hC, List.getElem?_map, hj]; rfl
        rw [List.getElem?_map] at h5
        cases hij : is[j]? with
        | none => rw [hij] at h5; cases h5
        | some i =>
          rw [hij] at h5
          injection h5 with h5
          have := hD.1 k i q (q.1, e) hw h5 rfl
          exact hn (by rw [this]; exact List.mem_of_getElem? hij)
      · exact absurd (hP k q hw).lt (Nat.not_lt.mpr hge)
  · intro i j p q hi hj hpq
    have hf := hp_put_fst is w1 ws hA
    have h5 : ((hp_put ws is w1).map (fun x => x.1))[i]? = some p.1 := by rw [List.getElem?_map, hi]; rfl
    have h6 : ((hp_put ws is w1).map (fun x => x.1))[j]? = some q.1 := by rw [List.getElem?_map, hj]; rfl
    rw [hf, List.getElem?_map] at h5 h6
    cases h7 : ws[i]? with
    | none => rw [h7] at h5; cases h5
    | some p' =>
      cases h8 : ws[j]? with
      | none => rw [h8] at h6; cases h6
      | some q' =>
        rw [h7] at h5; rw [h8] at h6
        injection h5 with h5; injection h6 with h6
        exact hD.1 i j p' q' h7 h8 (Eq.trans h5 (hpq.trans (Eq.symm h6)))
  · intro k q hq
    have hf := hp_put_fst is w1 ws hA
    have h5 : ((hp_put ws is w1).map (fun x => x.1))[k]? = some q.1 := by rw [List.getElem?_map, hq]; rfl
    rw [hf, List.getElem?_map] at h5
    cases h7 : ws[k]? with
    | none => rw [h7] at h5; cases h5
    | some p' =>
      rw [h7] at h5
      injection h5 with h5
      rw [← h5]
      exact hD.2 k p' h7
section HV
variable {p : Program} {l : Launch} {e : Env} {R : Room} {s : State} {m : MethodId} {args : Array Value} {below : List Frame} {meth : Method} {c : Code} {H : Heap} {locs : List Loc} {cells slots : Nat} {Q : State → Prop}
variable {cc : ByteArray} {pc : Nat} {ls : Array Slot} {rest st0 : List Value} {D : va_G} {A : Nat → Prop} {ws wc : va_W} {H0 : Heap} {nL mc ms n index maxL : Nat} {own C : String} {y : MethodName} {bytes : ByteArray} {ret : Option FieldType} {rm : Room} {Pc : Array Value → State → Prop} {Qc : Array Value → State → Outcome → State → Prop} {free : Addr → Prop} {b : Addr} {As : List Value} {a : Array Value}
theorem hg_V (w1 : Cond.methodLink own index y ∈ hwG) (w2 : Cond.instanceMethod y ∈ hwG) (w3 : Cond.selects C y y ∈ hwG) (w4 : Cond.initialized C ∈ hwG) (w5 : Cond.code y bytes maxL ret ∈ hwG) : GoodIn hwG (wsV own index C y (Cond.code y bytes maxL ret :: hwG)) := by
  intro w hw
  have h : w ∈ hwG := by
    rcases List.mem_append.mp hw with h | h
    · simp only [List.mem_cons, List.not_mem_nil, or_false] at h
      rcases h with h | h | h | h <;> rw [h] <;> assumption
    · rcases List.mem_cons.mp h with h | h
      · rw [h]; exact w5
      · exact h
  exact ⟨h, hwG_good w h⟩
theorem hg_S (w1 : Cond.methodLink own index y ∈ hwG) (w2 : Cond.static y ∈ hwG) (w4 : Cond.initialized y.cls ∈ hwG) (w5 : Cond.code y bytes maxL ret ∈ hwG) : GoodIn hwG (va_wsS own index y (Cond.code y bytes maxL ret :: hwG)) := by
  intro w hw
  have h : w ∈ hwG := by
    rcases List.mem_append.mp hw with h | h
    · simp only [List.mem_cons, List.not_mem_nil, or_false] at h
      rcases h with h | h | h <;> rw [h] <;> assumption
    · rcases List.mem_cons.mp h with h | h
      · rw [h]; exact w5
      · exact h
  exact ⟨h, hwG_good w h⟩
theorem hg_C (w5 : Cond.code y bytes maxL ret ∈ hwG) : GoodIn hwG (Cond.code y bytes maxL ret :: hwG) := by
  intro w hw
  have h : w ∈ hwG := by
    rcases List.mem_cons.mp hw with h | h
    · rw [h]; exact w5
    · exact h
  exact ⟨h, hwG_good w h⟩
/-- a call that writes the cells at the places is -/
theorem hv_callv {S : Type} {post : S → Prop} {w1 : S → va_W} (hr : va_Run p l e R s m args below meth c H locs cells slots mc ms (F0 m pc ls st0) rest (va_Qv post (fun u t => va_P D vwCl (w1 u) t.heap) (va_A wc H.size) a) (va_A wc H.size))
    (hP : va_P D vwCl ws H) (hD : va_D A ws) (hS : va_S A H0 H locs) (hA : ∀ q, H0.size ≤ q → A q) (is : List Nat) (hC : is.map (fun i => ws[i]?) = wc.map some) (h1 : ∀ u, (w1 u).map (fun x => x.1) = wc.map (fun x => x.1))
    (kk : ∀ (u : S) (H1 : Heap) (locs1 : List Loc), post u → va_P D vwCl (hp_put ws is (w1 u)) H1 → va_D A (hp_put ws is (w1 u)) → va_S A H0 H1 locs1 → W p l e R s m args below meth c H1 locs1 (cells + mc) (slots + ms) Q (F0 m (pc + 3) ls rest)) :
    W p l e R s m args below meth c H locs cells slots Q (F0 m pc ls st0) := by
  have hFc := va_free (wc := wc) hD hS hA is hC
  refine va_callv hr hS (fun q _ h => hFc q h) hFc (fun u t H1 locs1 ht hvm hp hB hz hk hS1 => ?_)
  rw [ht] at hB
  obtain ⟨hP1, hD1⟩ := hp_join hP hD is hC (h1 u) hk hB
  exact kk u H1 locs1 hp hP1 hD1 hS1
theorem hv_calli {S : Type} {post : Int32 → S → Prop} {w1 : S → va_W} (hr : va_Run p l e R s m args below meth c H locs cells slots mc ms (F0 m pc ls st0) rest (va_Qi post (fun u t => va_P D vwCl (w1 u) t.heap) (va_A wc H.size) a) (va_A wc H.size))
    (hP : va_P D vwCl ws H) (hD : va_D A ws) (hS : va_S A H0 H locs) (hA : ∀ q, H0.size ≤ q → A q) (is : List Nat) (hC : is.map (fun i => ws[i]?) = wc.map some) (h1 : ∀ u, (w1 u).map (fun x => x.1) = wc.map (fun x => x.1))
    (kk : ∀ (r : Int32) (u : S) (H1 : Heap) (locs1 : List Loc), post r u → va_P D vwCl (hp_put ws is (w1 u)) H1 → va_D A (hp_put ws is (w1 u)) → va_S A H0 H1 locs1 → W p l e R s m args below meth c H1 locs1 (cells + mc) (slots + ms) Q (F0 m (pc + 3) ls (.int r :: rest))) :
    W p l e R s m args below meth c H locs cells slots Q (F0 m pc ls st0) := by
  have hFc := va_free (wc := wc) hD hS hA is hC
  refine va_calli hr hS (fun q _ h => hFc q h) hFc (fun r u t H1 locs1 ht hvm hp hB hz hk hS1 => ?_)
  rw [ht] at hB
  obtain ⟨hP1, hD1⟩ := hp_join hP hD is hC (h1 u) hk hB
  exact kk r u H1 locs1 hp hP1 hD1 hS1
end HV
