/-! All cells of class and reference in one world; what a round of the law keeps. -/
structure lzA where
  (h a1 a2 a3 a4 a5 hh b1 b2 b3 b4 b5 w w0 w1 w2 w3 k0 g q0 q1 q2 q3 y1 y2 y3 y4 y5 y6 y7 y8 y9 ya yb yc yd ye yf yg yh : Nat)
structure lzV where
  (n n2 dm oa ob : Nat)
  (nm nm2 flw nmC fl cd mo : Int32)
  (S O Fr To Li S2 O2 Fr2 To2 Li2 VW EW LW BW VQ EN LG BI Sa Oa My Fa Ta La Ga Ca Na Ra Ka Ch Op Aa Va Ha Ua : Nat → Int32)
  (OU : Nat → Int64)
structure lzP where
  (SA OA : Nat → Bool)
  (MA FA TA : Nat → Nat)
  (LA : Nat → Bool)
  (VA : Nat → Nat)
  (HA : Nat → Option Nat)
def lz_ws (cI cZ cJ : ClassId) (x0 y0 ou : Nat) (a : lzA) (v : lzV) : va_W := [(x0, .inr (3, [.ref a.h, .ref a.hh, .ref a.w, .ref a.k0])), (a.h, .inr (1, [.ref a.a1, .ref a.a2, .ref a.a3, .ref a.a4, .ref a.a5, .int (nI v.n), .int v.nm])), (a.a1, .inl (cI, 6, .inl v.S)), (a.a2, .inl (cI, 6, .inl v.O)), (a.a3, .inl (cI, 5, .inl v.Fr)), (a.a4, .inl (cI, 5, .inl v.To)), (a.a5, .inl (cZ, 5, .inl v.Li)), (a.hh, .inr (1, [.ref a.b1, .ref a.b2, .ref a.b3, .ref a.b4, .ref a.b5, .int (nI v.n2), .int v.nm2])), (a.b1, .inl (cI, 6, .inl v.S2)), (a.b2, .inl (cI, 6, .inl v.O2)), (a.b3, .inl (cI, 5, .inl v.Fr2)), (a.b4, .inl (cI, 5, .inl v.To2)), (a.b5, .inl (cZ, 5, .inl v.Li2)), (a.w, .inr (2, [.ref a.w0, .int (nI 9), .ref a.w1, .ref a.w2, .ref a.w3, .int v.flw])), (a.w0, .inl (cI, 6, .inl v.VW)), (a.w1, .inl (cI, 9 + 1, .inl v.EW)), (a.w2, .inl (cZ, 9 + 1, .inl v.LW)), (a.w3, .inl (cI, 9 + 1, .inl v.BW)), (a.k0, .inr (0, [.ref a.g, .int v.nmC])), (a.g, .inr (2, [.ref a.q0, .int (nI 5), .ref a.q1, .ref a.q2, .ref a.q3, .int v.fl])), (a.q0, .inl (cI, 6, .inl v.VQ)), (a.q1, .inl (cI, 5 + 1, .inl v.EN)), (a.q2, .inl (cZ, 5 + 1, .inl v.LG)), (a.q3, .inl (cI, 5 + 1, .inl v.BI)), (ou, .inl (cJ, 1, .inr (.inl v.OU))), (y0, .inr (4, [.int v.cd, .ref a.y1, .ref a.y2, .ref a.y3, .ref a.y4, .ref a.y5, .ref a.y6, .ref a.y7, .ref a.y8, .ref a.y9, .ref a.ya, .ref a.yb, .ref a.yc, .ref a.yd, .ref a.ye, .int (nI v.dm), .int (nI v.oa), .int (nI v.ob), .int v.mo, .ref a.yf, .ref a.yg, .ref a.yh])), (a.y1, .inl (cZ, 72, .inl v.Sa)), (a.y2, .inl (cZ, 72, .inl v.Oa)), (a.y3, .inl (cI, 2, .inl v.My)), (a.y4, .inl (cI, 10, .inl v.Fa)), (a.y5, .inl (cI, 10, .inl v.Ta)), (a.y6, .inl (cZ, 10, .inl v.La)), (a.y7, .inl (cI, 6, .inl v.Ga)), (a.y8, .inl (cZ, 6, .inl v.Ca)), (a.y9, .inl (cI, 6, .inl v.Na)), (a.ya, .inl (cZ, 6, .inl v.Ra)), (a.yb, .inl (cZ, 6, .inl v.Ka)), (a.yc, .inl (cI, 12, .inl v.Ch)), (a.yd, .inl (cI, 12, .inl v.Op)), (a.ye, .inl (cI, 12, .inl v.Aa)), (a.yf, .inl (cI, 5, .inl v.Va)), (a.yg, .inl (cI, 10, .inl v.Ha)), (a.yh, .inl (cZ, 10, .inl v.Ua))]
def lz_I (D : va_G) (cI cZ cJ : ClassId) (A : Nat → Prop) (H0 : Heap) (x0 y0 ou : Nat) (H : Heap) (locs : List Loc) : Prop :=
  ∃ (a : lzA) (v : lzV) (q : lzP), va_P D vwCl (lz_ws cI cZ cJ x0 y0 ou a v) H ∧ va_D A (lz_ws cI cZ cJ x0 y0 ou a v) ∧ va_S A H0 H locs ∧ v.n = q.MA 0 ∧ v.n2 = q.MA 1 ∧ v.dm ≤ 4 ∧ v.oa < 6 ∧ v.ob < 6 ∧ hr_m v.Sa v.Oa v.My v.Fa v.Ta v.La q.SA q.OA q.MA q.FA q.TA q.LA ∧ hr_h v.Va v.Ha q.VA q.HA ∧
    rl_cl v.S v.O v.Fr v.To v.Li v.nm (hr_s q.SA 0) (hr_s q.OA 0) v.n q.FA q.TA q.LA ∧ rl_cl v.S2 v.O2 v.Fr2 v.To2 v.Li2 v.nm2 (hr_s q.SA 1) (hr_s q.OA 1) v.n2 (fun p => q.FA (5 + p)) (fun p => q.TA (5 + p)) (fun p => q.LA (5 + p)) ∧ rl_st v.VW v.EW v.LW v.BW v.flw q.VA q.HA
/-- what the law is given -/
structure lz_G (p : Program) (l : Launch) (s : State) (m : MethodId) (args : Array Value) (c : Code) (D : va_G) (cI cZ cJ : ClassId) (A : Nat → Prop) (sa : Nat → Nat) (b L : Nat) (xs : Nat → Int32) : Prop where
  hx : p.tables.exec = Jvm.exec
  hb : c.code = cL_law
  hml : c.maxLocals = 7
  hown : s.vm.findClass RL = some m.cls
  htg : ∀ w ∈ hwG, w.before args s = true
  hz : hz_K D cI cZ cJ s
  hE : hx_E sa s
  hNc : hx_Nc s
  hX : va_X b L xs s s.heap
  hbl : b < s.heap.size
  hA : ∀ q : Nat, s.heap.size ≤ q → A q
  hAo : ∀ q : Nat, A q → s.heap.size ≤ q
  hL : L ≤ 2560
  hst : l.stackTraces = false
/-- behind a round -/
def lz_K (p : Program) (l : Launch) (e : Env) (s : State) (m : MethodId) (args : Array Value) (below : List Frame) (meth : Method) (c : Code) (Q : State → Prop) (cells slots : Nat) (D : va_G) (cI cZ cJ : ClassId) (A : Nat → Prop) (x0 y0 ou b i : Nat) : Prop :=
  ∀ (ls : Array Slot) (H : Heap) (locs : List Loc), lz_I D cI cZ cJ A s.heap x0 y0 ou H locs → lv_has ls 7 [(4, .int (nI i)), (3, .ref ou), (2, .ref y0), (1, .ref x0), (0, .ref b)] → W p l e room_1 s m args below meth c H locs (cells + 1) (slots + 6) Q (F0 m 1076 ls [])
theorem hg_CW {y : MethodName} {bytes : ByteArray} {maxL : Nat} {ret : Option FieldType} {hh : List (Nat × Nat × Nat × Nat)} (w5 : Cond.codeWith y bytes maxL ret hh ∈ hwG) : GoodIn hwG (Cond.codeWith y bytes maxL ret hh :: hwG) := by
  intro w hw
  have h : w ∈ hwG := by
    rcases List.mem_cons.mp hw with h | h
    · rw [h]; exact w5
    · exact h
  exact ⟨h, hwG_good w h⟩
theorem lz_old {A : Nat → Prop} {s : State} {H : Heap} {locs : List Loc} (hAo : ∀ q : Nat, A q → s.heap.size ≤ q) (hS : va_S A s.heap H locs) : s.heap.size ≤ H.size ∧ ∀ q : Nat, q < s.heap.size → H[q]? = s.heap[q]? := ⟨hS.1, fun q hq => hS.2.1 q hq (fun h9 => absurd (hAo q h9) (Nat.not_le.mpr hq))⟩
theorem lz_in {j n : Nat} (h : j < n) (hn : n < 2 ^ 31) : vp_in (nI j) n := by
  rintro (q | q)
  · exact absurd q (nI_pos (by omega))
  · rw [nI_clamp (by omega)] at q; omega
section LZR
variable {p : Program} {l : Launch} {e : Env} {R : Room} {s : State} {m : MethodId} {args : Array Value} {below : List Frame} {meth : Method} {c : Code} {H : Heap} {locs : List Loc} {cells slots : Nat} {Q : State → Prop}
variable {cc : ByteArray} {pc : Nat} {ls : Array Slot} {rest : List Value}
theorem lz_sld {A : Nat → Prop} {H0 : Heap} (hx : p.tables.exec = Jvm.exec) (hb : c.code = cc) {b L : Nat} {xs : Nat → Int32} (hX : va_X b L xs s H0) (hbl : b < H0.size) (hbA : ¬ A b) (hS : va_S A H0 H locs) {j k : Nat} (hj : j < L) (hL : L ≤ 2560) (hk : xs j = nI k) (hd : decode cc pc = .ok (.iaload, 1))
    (kk : W p l e R s m args below meth c H locs cells slots Q (F0 m (pc + 1) ls (.int (nI k) :: rest))) : W p l e R s m args below meth c H locs cells slots Q (F0 m pc ls (.int (nI j) :: .ref b :: rest)) := by
  refine va_sld hx hb hX hbl hbA hS (lz_in hj (by omega)) hd ?_
  rw [nI_clamp (by omega), hk]
  exact kk
theorem lz_bool (hx : p.tables.exec = Jvm.exec) (hb : c.code = cc) {k : Nat} {o : Bool} (hk : k < 2 ^ 32) (ho : o = decide (k ≠ 0)) (d0 : decode cc pc = .ok (.ifCond .eq 7, 3)) (d1 : decode cc (pc + 3) = .ok (.iconst 1, 1)) (d2 : decode cc (pc + 4) = .ok (.goto 4, 3)) (d3 : decode cc (pc + 7) = .ok (.iconst 0, 1))
    (kk : W p l e R s m args below meth c H locs cells slots Q (F0 m (pc + 8) ls (.int (hc_b o) :: rest))) : W p l e R s m args below meth c H locs cells slots Q (F0 m pc ls (.int (nI k) :: rest)) := by
  refine lv_if_eq hx hb d0 (tgt := pc + 7) (by omega) (fun h => ?_) (fun h => ?_)
  · have h0 : k = 0 := (hm_eq hk (by omega)).mp (show nI k = nI 0 from h)
    have ho' : o = false := by rw [ho, h0]; rfl
    rw [ho', hw_bf] at kk
    exact lv_iconst (v := nI 0) hx hb d3 (by decide) kk
  · have h0 : k ≠ 0 := fun q => h (by rw [q]; rfl)
    have ho' : o = true := by rw [ho, decide_eq_true h0]
    rw [ho', hw_b1] at kk
    exact lv_iconst (v := nI 1) hx hb d1 (by decide) (lv_goto (pc := pc + 4) (tgt := pc + 8) hx hb d2 (by omega) kk)
theorem lz_boolL (hx : p.tables.exec = Jvm.exec) (hb : c.code = cc) {r : Int32} (h01 : r = nI 0 ∨ r = nI 1) (d0 : decode cc pc = .ok (.ifCond .eq 7, 3)) (d1 : decode cc (pc + 3) = .ok (.lconst 1, 1)) (d2 : decode cc (pc + 4) = .ok (.goto 4, 3)) (d3 : decode cc (pc + 7) = .ok (.lconst 0, 1))
    (kk : W p l e R s m args below meth c H locs cells slots Q (F0 m (pc + 8) ls (.long r.toInt64 :: rest))) : W p l e R s m args below meth c H locs cells slots Q (F0 m pc ls (.int r :: rest)) := by
  rcases h01 with rfl | rfl
  · refine lv_if_eq hx hb d0 (tgt := pc + 7) (by omega) (fun h => ?_) (fun h => absurd rfl h)
    exact lv_lconst (v := (nI 0).toInt64) hx hb d3 (by decide) kk
  · refine lv_if_eq hx hb d0 (tgt := pc + 7) (by omega) (fun h => absurd h (by decide)) (fun h => ?_)
    exact lv_lconst (v := (nI 1).toInt64) hx hb d1 (by decide) (lv_goto (pc := pc + 4) (tgt := pc + 8) hx hb d2 (by omega) kk)
end LZR
