/-! A callee's cells come back into a world that is written out. -/
theorem hp_join2 {A0 : Nat → Prop} {D : va_G} {cl : List vw_C} {ws wc w1 wN : va_W} {H H1 : Heap} (hP : va_P D cl ws H) (hD : va_D A0 ws) (is : List Nat) (hC : is.map (fun i => ws[i]?) = wc.map some)
    (hk : ∀ q : Nat, q < H.size → ¬ va_A wc H.size q → H1[q]? = H[q]?) (hP1 : va_P D cl w1 H1) (src : List (Bool × Nat)) (hN : wN.map some = src.map (fun x => cond x.1 (w1[x.2]?) (ws[x.2]?))) (hno : src.all (fun x => x.1 || !(is.contains x.2)) = true) (hf : wN.map (fun x => x.1) = ws.map (fun x => x.1)) :
    va_P D cl wN H1 ∧ va_D A0 wN := by
  refine ⟨fun k q hq => ?_, ?_, ?_⟩
  · have h5 : (wN.map some)[k]? = some (some q) := by rw [List.getElem?_map, hq]; rfl
    rw [hN, List.getElem?_map] at h5
    cases hs : src[k]? with
    | none => rw [hs] at h5; cases h5
    | some x =>
      rw [hs] at h5
      obtain ⟨bx, j⟩ := x
      have h6 : (cond bx (w1[j]?) (ws[j]?)) = some q := Option.some.inj h5
      cases bx with
      | true => exact hP1 j q h6
      | false =>
        have hw : ws[j]? = some q := h6
        have hno' : (false || !(is.contains j)) = true := List.all_eq_true.mp hno (false, j) (List.mem_of_getElem? hs)
        have hn : j ∉ is := fun hm => by
          rw [List.contains_iff_mem.mpr hm] at hno'
          cases hno'
        refine (hP j q hw).kept (hk q.1 (hP j q hw).lt ?_)
        rintro (⟨j', e, hj⟩ | hge)
        · have h7 : (is.map (fun i => ws[i]?))[j']? = some (some (q.1, e)) := by rw [hC, List.getElem?_map, hj]; rfl
          rw [List.getElem?_map] at h7
          cases hij : is[j']? with
          | none => rw [hij] at h7; cases h7
          | some i =>
            rw [hij] at h7
            injection h7 with h7
            have h8 := hD.1 j i q (q.1, e) hw h7 rfl
            exact hn (by rw [h8]; exact List.mem_of_getElem? hij)
        · exact absurd (hP j q hw).lt (Nat.not_lt.mpr hge)
  · intro i j p q hi hj hpq
    have h5 : (wN.map (fun x => x.1))[i]? = some p.1 := by rw [List.getElem?_map, hi]; rfl
    have h6 : (wN.map (fun x => x.1))[j]? = some q.1 := by rw [List.getElem?_map, hj]; rfl
    rw [hf, List.getElem?_map] at h5 h6
    cases h7 : ws[i]? with
    | none => rw [h7] at h5; cases h5
    | some p' =>
      cases h8 : ws[j]? with
      | none => rw [h8] at h6; cases h6
      | some q' =>
        rw [h7] at h5; rw [h8] at h6
        injection h5 with h5; injection h6 with h6
        exact hD.1 i j p' q' h7 h8 (Eq.trans h5 (hpq.trans (Eq.symm h6)))
  · intro k q hq
    have h5 : (wN.map (fun x => x.1))[k]? = some q.1 := by rw [List.getElem?_map, hq]; rfl
    rw [hf, List.getElem?_map] at h5
    cases h7 : ws[k]? with
    | none => rw [h7] at h5; cases h5
    | some p' =>
      rw [h7] at h5
      injection h5 with h5
      rw [← h5]
      exact hD.2 k p' h7
section HV2
variable {p : Program} {l : Launch} {e : Env} {R : Room} {s : State} {m : MethodId} {args : Array Value} {below : List Frame} {meth : Method} {c : Code} {H : Heap} {locs : List Loc} {cells slots : Nat} {Q : State → Prop}
variable {pc : Nat} {ls : Array Slot} {rest st0 : List Value} {D : va_G} {A : Nat → Prop} {ws wc : va_W} {H0 : Heap} {mc ms : Nat} {a : Array Value}
theorem hv_callv2 {S : Type} {post : S → Prop} {w1 wN : S → va_W} (hr : va_Run p l e R s m args below meth c H locs cells slots mc ms (F0 m pc ls st0) rest (va_Qv post (fun u t => va_P D vwCl (w1 u) t.heap) (va_A wc H.size) a) (va_A wc H.size))
    (hP : va_P D vwCl ws H) (hD : va_D A ws) (hS : va_S A H0 H locs) (hA : ∀ q, H0.size ≤ q → A q) (is : List Nat) (hC : is.map (fun i => ws[i]?) = wc.map some) (src : List (Bool × Nat)) (hN : ∀ u, (wN u).map some = src.map (fun x => cond x.1 ((w1 u)[x.2]?) (ws[x.2]?))) (hno : src.all (fun x => x.1 || !(is.contains x.2)) = true) (hf : ∀ u, (wN u).map (fun x => x.1) = ws.map (fun x => x.1))
    (kk : ∀ (u : S) (H1 : Heap) (locs1 : List Loc), post u → va_P D vwCl (wN u) H1 → va_D A (wN u) → va_S A H0 H1 locs1 → W p l e R s m args below meth c H1 locs1 (cells + mc) (slots + ms) Q (F0 m (pc + 3) ls rest)) :
    W p l e R s m args below meth c H locs cells slots Q (F0 m pc ls st0) := by
  have hFc := va_free (wc := wc) hD hS hA is hC
  refine va_callv hr hS (fun q _ h => hFc q h) hFc (fun u t H1 locs1 ht hvm hp hB hz hk hS1 => ?_)
  rw [ht] at hB
  obtain ⟨hP1, hD1⟩ := hp_join2 hP hD is hC hk hB src (hN u) hno (hf u)
  exact kk u H1 locs1 hp hP1 hD1 hS1
theorem hv_calli2 {S : Type} {post : Int32 → S → Prop} {w1 wN : S → va_W} (hr : va_Run p l e R s m args below meth c H locs cells slots mc ms (F0 m pc ls st0) rest (va_Qi post (fun u t => va_P D vwCl (w1 u) t.heap) (va_A wc H.size) a) (va_A wc H.size))
    (hP : va_P D vwCl ws H) (hD : va_D A ws) (hS : va_S A H0 H locs) (hA : ∀ q, H0.size ≤ q → A q) (is : List Nat) (hC : is.map (fun i => ws[i]?) = wc.map some) (src : List (Bool × Nat)) (hN : ∀ u, (wN u).map some = src.map (fun x => cond x.1 ((w1 u)[x.2]?) (ws[x.2]?))) (hno : src.all (fun x => x.1 || !(is.contains x.2)) = true) (hf : ∀ u, (wN u).map (fun x => x.1) = ws.map (fun x => x.1))
    (kk : ∀ (r : Int32) (u : S) (H1 : Heap) (locs1 : List Loc), post r u → va_P D vwCl (wN u) H1 → va_D A (wN u) → va_S A H0 H1 locs1 → W p l e R s m args below meth c H1 locs1 (cells + mc) (slots + ms) Q (F0 m (pc + 3) ls (.int r :: rest))) :
    W p l e R s m args below meth c H locs cells slots Q (F0 m pc ls st0) := by
  have hFc := va_free (wc := wc) hD hS hA is hC
  refine va_calli hr hS (fun q _ h => hFc q h) hFc (fun r u t H1 locs1 ht hvm hp hB hz hk hS1 => ?_)
  rw [ht] at hB
  obtain ⟨hP1, hD1⟩ := hp_join2 hP hD is hC hk hB src (hN u) hno (hf u)
  exact kk r u H1 locs1 hp hP1 hD1 hS1
end HV2
