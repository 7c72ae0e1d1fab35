/-! The law: its loop, its start. -/
theorem lz_inc5 (i : Nat) : nI i + Int32.ofInt 5 = nI (i + 5) := by rw [show Int32.ofInt 5 = nI 5 from by decide]; exact nI_add i 5
theorem lz_cmp {L i : Nat} (hL : L ≤ 2560) (hi : i ≤ L) (hc : ¬ (Int32.ofNat L - nI 5) < nI i) : i + 5 ≤ L := by
  rw [Int32.lt_iff_toInt_lt, Int32.toInt_sub, nI_toInt (show i < 2 ^ 31 by omega), nI_toInt (show 5 < 2 ^ 31 by omega), show (Int32.ofNat L).toInt = (L : Int) from nI_toInt (by omega), Int.bmod_def] at hc
  split at hc <;> omega
theorem lz_and {k : Nat} (hk : k < 2 ^ 32) : ∃ t, t < 32 ∧ nI k &&& nI 31 = nI t := by
  refine ⟨k % 32, Nat.mod_lt _ (by omega), ?_⟩
  apply Int32.toBitVec_inj.mp
  show BitVec.ofNat 32 k &&& BitVec.ofNat 32 31 = BitVec.ofNat 32 (k % 32)
  apply BitVec.eq_of_toNat_eq
  rw [BitVec.toNat_and, BitVec.toNat_ofNat, BitVec.toNat_ofNat, BitVec.toNat_ofNat, Nat.mod_eq_of_lt hk, Nat.mod_eq_of_lt (show 31 < 2 ^ 32 by omega), Nat.mod_eq_of_lt (show k % 32 < 2 ^ 32 by omega)]
  exact Nat.and_two_pow_sub_one_eq_mod k 5
theorem lz_I.old {D : va_G} {cI cZ cJ : ClassId} {A : Nat → Prop} {H0 H : Heap} {x0 y0 ou : Nat} {locs : List Loc} (h : lz_I D cI cZ cJ A H0 x0 y0 ou H locs) : va_S A H0 H locs := by
  refine lz_open h ?_
  intro _ _ _ _ _ _ _ _ _ _ _ _ _ _ _ _ _ _ _ _ _ _ _ _ _ _ _ _ _ _ _ _ _ _ _ _ _ _ _ _ _ _ _ _ _ _ _ _ _ _ _ _ _ _ _ _ _ _ _ _ _ _ _ _ _ _ _ _ _ _ _ _ _ _ _ _ _ _ _ _ _ _ _ _ _ _ _ _ _ _ _ _ _ _ _ _ _ _ hS _ _ _ _ _ _ _ _ _ _
  exact hS
set_option maxHeartbeats 4000000 in
set_option maxRecDepth 100000 in
theorem lz_loop {p : Program} {l : Launch} {e : Env} {s : State} {m : MethodId} {below : List Frame} {meth : Method} {c : Code} {D : va_G} {cI cZ cJ : ClassId} {A : Nat → Prop} {sa : Nat → Nat} {b L : Nat} {xs : Nat → Int32} {x0 y0 ou : Nat} (G : lz_G p l s m #[Value.ref b] c D cI cZ cJ A sa b L xs) (hr : meth.sig.returnType = ret) (hlocks : meth.locks = false) :
    ∀ (k i cells slots : Nat) (ls : Array Slot) (H : Heap) (locs : List Loc), L - i = k → i ≤ L → cells + (L - i) ≤ 601024 → slots + 6 * (L - i) ≤ 7293034 → lz_I D cI cZ cJ A s.heap x0 y0 ou H locs → lv_has ls 7 [(4, .int (nI i)), (3, .ref ou), (2, .ref y0), (1, .ref x0), (0, .ref b)] → W p l e room_1 s m #[Value.ref b] below meth c H locs cells slots (lw_Z below #[Value.ref b] s) (F0 m 23 ls []) := by
  intro k
  induction k using Nat.strongRecOn with
  | _ k ih =>
    intro i cells slots ls H locs hk hiL hc1 hc2 hI hl
    have hS := hI.old
    have G9 := G
    obtain ⟨hx, hb, hml, hown, htg, hz, hE, hNc, hX, hbl, hA, hAo, hL, hst⟩ := G9
    have hbA : ¬ A b := fun q => absurd (hAo b q) (Nat.not_le.mpr hbl)
    refine lv_iload hx hb dL_law_23 (lv_at hl 0 rfl) ?_
    refine lv_aload_n hx hb dL_law_25 rfl (lv_at hl 4 rfl) ?_
    refine va_slen hx hb hX hbl hbA hS dL_law_26 ?_
    refine lv_iconst (v := nI 5) hx hb dL_law_27 (by decide) ?_
    refine lv_isub hx hb dL_law_28 ?_
    refine lv_icmp_gt hx hb dL_law_29 rfl (fun hc => ?_) (fun hc => ?_)
    · refine lv_iconst (v := 1) hx hb dL_law_1082 (by decide) ?_
      refine va_forget (fun q hq => hAo _ (hS.2.2 q hq)) ?_
      refine W.widen (k := 601024) (n := 7293034) (by omega) (by omega) ?_
      exact lw_ret hx hb hr hlocks dL_law_1083
    · have hi5 : i + 5 ≤ L := lz_cmp hL hiL hc
      have hcap : cells + 1 ≤ room_1.cells ∧ slots + 6 ≤ room_1.slots := ⟨show cells + 1 ≤ 601024 by omega, show slots + 6 ≤ 7293034 by omega⟩
      have K : lz_K p l e s m #[Value.ref b] below meth c (lw_Z below #[Value.ref b] s) cells slots D cI cZ cJ A x0 y0 ou b i := fun ls H locs hI hl => by
        refine lv_iinc (v := nI (i + 5)) (k := 0) hx hb dL_law_1076 hl rfl (lz_inc5 i) (by decide) rfl (fun ls hl => ?_)
        refine lv_goto hx hb dL_law_1079 rfl ?_
        exact ih (L - (i + 5)) (by omega) (i + 5) (cells + 1) (slots + 6) ls H locs rfl (by omega) (by omega) (by omega) hI hl
      obtain ⟨k0, hk0, e0⟩ := hm_all (xs i)
      refine lv_aload_n hx hb dL_law_32 rfl (lv_at hl 4 rfl) ?_
      refine lv_iload hx hb dL_law_33 (lv_at hl 0 rfl) ?_
      refine lz_sld (j := i) hx hb hX hbl hbA hS (by omega) hL e0 dL_law_35 ?_
      refine lv_bipush (v := nI 31) hx hb dL_law_36 (by decide) ?_
      refine lv_iand hx hb dL_law_38 ?_
      obtain ⟨t, ht, et⟩ := lz_and hk0
      rw [et]
      by_cases h20 : t < 20
      · rcases (by omega : t = 0 ∨ t = 1 ∨ t = 2 ∨ t = 3 ∨ t = 4 ∨ t = 5 ∨ t = 6 ∨ t = 7 ∨ t = 8 ∨ t = 9 ∨ t = 10 ∨ t = 11 ∨ t = 12 ∨ t = 13 ∨ t = 14 ∨ t = 15 ∨ t = 16 ∨ t = 17 ∨ t = 18 ∨ t = 19) with rfl | rfl | rfl | rfl | rfl | rfl | rfl | rfl | rfl | rfl | rfl | rfl | rfl | rfl | rfl | rfl | rfl | rfl | rfl | rfl
        · exact lv_tableIn (x := nI 0) (off := 93) (tgt := 132) hx hb dL_law_39 (by decide) (by decide) (by decide) (by decide) (lz_c_pair G hI hl hi5 hcap K)
        · exact lv_tableIn (x := nI 1) (off := 181) (tgt := 220) hx hb dL_law_39 (by decide) (by decide) (by decide) (by decide) (lz_c_piece G hI hl hi5 hcap K)
        · exact lv_tableIn (x := nI 2) (off := 289) (tgt := 328) hx hb dL_law_39 (by decide) (by decide) (by decide) (by decide) (lz_c_clear G hI hl hi5 hcap K)
        · exact lv_tableIn (x := nI 3) (off := 325) (tgt := 364) hx hb dL_law_39 (by decide) (by decide) (by decide) (by decide) (lz_c_swap G hI hl hi5 hcap K)
        · exact lv_tableIn (x := nI 4) (off := 336) (tgt := 375) hx hb dL_law_39 (by decide) (by decide) (by decide) (by decide) (lz_c_pieces G hI hl hi5 hcap K)
        · exact lv_tableIn (x := nI 5) (off := 392) (tgt := 431) hx hb dL_law_39 (by decide) (by decide) (by decide) (by decide) (lz_c_possible G hI hl hi5 hcap K)
        · exact lv_tableIn (x := nI 6) (off := 455) (tgt := 494) hx hb dL_law_39 (by decide) (by decide) (by decide) (by decide) (lz_c_implies G hI hl hi5 hcap K)
        · exact lv_tableIn (x := nI 7) (off := 468) (tgt := 507) hx hb dL_law_39 (by decide) (by decide) (by decide) (by decide) (lz_c_sure G hI hl hi5 hcap K)
        · exact lv_tableIn (x := nI 8) (off := 555) (tgt := 594) hx hb dL_law_39 (by decide) (by decide) (by decide) (by decide) (lz_c_frame G hI hl hi5 hcap K)
        · exact lv_tableIn (x := nI 9) (off := 568) (tgt := 607) hx hb dL_law_39 (by decide) (by decide) (by decide) (by decide) (lz_c_give G hI hl hi5 hcap K)
        · exact lv_tableIn (x := nI 10) (off := 616) (tgt := 655) hx hb dL_law_39 (by decide) (by decide) (by decide) (by decide) (lz_c_put G hI hl hi5 hcap K)
        · exact lv_tableIn (x := nI 11) (off := 664) (tgt := 703) hx hb dL_law_39 (by decide) (by decide) (by decide) (by decide) (lz_c_holds G hI hl hi5 hcap K)
        · exact lv_tableIn (x := nI 12) (off := 727) (tgt := 766) hx hb dL_law_39 (by decide) (by decide) (by decide) (by decide) (lz_c_copy G hI hl hi5 hcap K)
        · exact lv_tableIn (x := nI 13) (off := 775) (tgt := 814) hx hb dL_law_39 (by decide) (by decide) (by decide) (by decide) (lz_c_load G hI hl hi5 hcap K)
        · exact lv_tableIn (x := nI 14) (off := 823) (tgt := 862) hx hb dL_law_39 (by decide) (by decide) (by decide) (by decide) (lz_c_store G hI hl hi5 hcap K)
        · exact lv_tableIn (x := nI 15) (off := 871) (tgt := 910) hx hb dL_law_39 (by decide) (by decide) (by decide) (by decide) (lz_c_make G hI hl hi5 hcap K)
        · exact lv_tableIn (x := nI 16) (off := 907) (tgt := 946) hx hb dL_law_39 (by decide) (by decide) (by decide) (by decide) (lz_c_drop G hI hl hi5 hcap K)
        · exact lv_tableIn (x := nI 17) (off := 943) (tgt := 982) hx hb dL_law_39 (by decide) (by decide) (by decide) (by decide) (lz_c_value G hI hl hi5 hcap K)
        · exact lv_tableIn (x := nI 18) (off := 999) (tgt := 1038) hx hb dL_law_39 (by decide) (by decide) (by decide) (by decide) (lz_c_next G hI hl hi5 hcap K)
        · exact lv_tableIn (x := nI 19) (off := 1024) (tgt := 1063) hx hb dL_law_39 (by decide) (by decide) (by decide) (by decide) (lz_c_count G hI hl hi5 hcap K)
      · refine lv_tableOut (tgt := 1076) hx hb dL_law_39 (Or.inr (by rw [nI_toInt (by omega)]; omega)) (by decide) ?_
        exact W.widen (k := cells + 1) (n := slots + 6) (by omega) (by omega) (K ls H locs hI hl)
