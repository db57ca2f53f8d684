/-! the law's loop -/
theorem and63 (a : Int32) : ∃ t : Nat, t < 64 ∧ a &&& nI 63 = nI t := by
  refine ⟨(a &&& nI 63).toBitVec.toNat, ?_, ?_⟩
  · rw [Int32.toBitVec_and, BitVec.toNat_and]
    exact Nat.lt_of_le_of_lt Nat.and_le_right (by decide)
  · apply Int32.toBitVec_inj.mp
    show _ = BitVec.ofNat 32 _
    rw [BitVec.ofNat_toNat, BitVec.setWidth_eq]
theorem lw_sw {M : MT} {S : ST} {E : ET} {n : Nat × Nat} {g : Nat → va_E} {b0 L i : Nat} {xs : Nat → Int32} (C : Cx M S cL_law 4 RL ret room_1) (X : LX M b0 L xs) (hi : i + 6 ≤ L) (hL : L ≤ 3072) (hn : n.1 ≤ room_1.cells ∧ n.2 ≤ room_1.slots) {K : KV} {z : MZ} (hB : BC S E g K) (hM : MC S E g z) (hR : RR K z) (nx : NX M S E n b0 i) {t : Nat} (ht : t < 64) : G M S E n g 33 [some (.ref b0), some (.ref (E.1 0)), some (.ref (E.1 286)), some (.int (nI i))] [.int (nI t)] := by
  match t, ht with
  | 0, _ => exact r_tableIn (pc := 33) (off := 187) (tgt := 220) C dL_law_33 (by decide) (by decide) (by decide) (by decide) (lc_220 C X hi hL hn hB hM hR nx)
  | 1, _ => exact r_tableIn (pc := 33) (off := 210) (tgt := 243) C dL_law_33 (by decide) (by decide) (by decide) (by decide) (lc_243 C X hi hL hn hB hM hR nx)
  | 2, _ => exact r_tableIn (pc := 33) (off := 223) (tgt := 256) C dL_law_33 (by decide) (by decide) (by decide) (by decide) (lc_256 C X hi hL hn hB hM hR nx)
  | 3, _ => exact r_tableIn (pc := 33) (off := 266) (tgt := 299) C dL_law_33 (by decide) (by decide) (by decide) (by decide) (lc_299 C X hi hL hn hB hM hR nx)
  | 4, _ => exact r_tableIn (pc := 33) (off := 300) (tgt := 333) C dL_law_33 (by decide) (by decide) (by decide) (by decide) (lc_333 C X hi hL hn hB hM hR nx)
  | 5, _ => exact r_tableIn (pc := 33) (off := 323) (tgt := 356) C dL_law_33 (by decide) (by decide) (by decide) (by decide) (lc_356 C X hi hL hn hB hM hR nx)
  | 6, _ => exact r_tableIn (pc := 33) (off := 346) (tgt := 379) C dL_law_33 (by decide) (by decide) (by decide) (by decide) (lc_379 C X hi hL hn hB hM hR nx)
  | 7, _ => exact r_tableIn (pc := 33) (off := 399) (tgt := 432) C dL_law_33 (by decide) (by decide) (by decide) (by decide) (lc_432 C X hi hL hn hB hM hR nx)
  | 8, _ => exact r_tableIn (pc := 33) (off := 442) (tgt := 475) C dL_law_33 (by decide) (by decide) (by decide) (by decide) (lc_475 C X hi hL hn hB hM hR nx)
  | 9, _ => exact r_tableIn (pc := 33) (off := 485) (tgt := 518) C dL_law_33 (by decide) (by decide) (by decide) (by decide) (lc_518 C X hi hL hn hB hM hR nx)
  | 10, _ => exact r_tableIn (pc := 33) (off := 528) (tgt := 561) C dL_law_33 (by decide) (by decide) (by decide) (by decide) (lc_561 C X hi hL hn hB hM hR nx)
  | 11, _ => exact r_tableIn (pc := 33) (off := 571) (tgt := 604) C dL_law_33 (by decide) (by decide) (by decide) (by decide) (lc_604 C X hi hL hn hB hM hR nx)
  | 12, _ => exact r_tableIn (pc := 33) (off := 624) (tgt := 657) C dL_law_33 (by decide) (by decide) (by decide) (by decide) (lc_657 C X hi hL hn hB hM hR nx)
  | 13, _ => exact r_tableIn (pc := 33) (off := 657) (tgt := 690) C dL_law_33 (by decide) (by decide) (by decide) (by decide) (lc_690 C X hi hL hn hB hM hR nx)
  | 14, _ => exact r_tableIn (pc := 33) (off := 690) (tgt := 723) C dL_law_33 (by decide) (by decide) (by decide) (by decide) (lc_723 C X hi hL hn hB hM hR nx)
  | 15, _ => exact r_tableIn (pc := 33) (off := 723) (tgt := 756) C dL_law_33 (by decide) (by decide) (by decide) (by decide) (lc_756 C X hi hL hn hB hM hR nx)
  | 16, _ => exact r_tableIn (pc := 33) (off := 746) (tgt := 779) C dL_law_33 (by decide) (by decide) (by decide) (by decide) (lc_779 C X hi hL hn hB hM hR nx)
  | 17, _ => exact r_tableIn (pc := 33) (off := 769) (tgt := 802) C dL_law_33 (by decide) (by decide) (by decide) (by decide) (lc_802 C X hi hL hn hB hM hR nx)
  | 18, _ => exact r_tableIn (pc := 33) (off := 802) (tgt := 835) C dL_law_33 (by decide) (by decide) (by decide) (by decide) (lc_835 C X hi hL hn hB hM hR nx)
  | 19, _ => exact r_tableIn (pc := 33) (off := 835) (tgt := 868) C dL_law_33 (by decide) (by decide) (by decide) (by decide) (lc_868 C X hi hL hn hB hM hR nx)
  | 20, _ => exact r_tableIn (pc := 33) (off := 848) (tgt := 881) C dL_law_33 (by decide) (by decide) (by decide) (by decide) (lc_881 C X hi hL hn hB hM hR nx)
  | 21, _ => exact r_tableIn (pc := 33) (off := 861) (tgt := 894) C dL_law_33 (by decide) (by decide) (by decide) (by decide) (lc_894 C X hi hL hn hB hM hR nx)
  | 22, _ => exact r_tableIn (pc := 33) (off := 874) (tgt := 907) C dL_law_33 (by decide) (by decide) (by decide) (by decide) (lc_907 C X hi hL hn hB hM hR nx)
  | 23, _ => exact r_tableIn (pc := 33) (off := 907) (tgt := 940) C dL_law_33 (by decide) (by decide) (by decide) (by decide) (lc_940 C X hi hL hn hB hM hR nx)
  | 24, _ => exact r_tableIn (pc := 33) (off := 940) (tgt := 973) C dL_law_33 (by decide) (by decide) (by decide) (by decide) (lc_973 C X hi hL hn hB hM hR nx)
  | 25, _ => exact r_tableIn (pc := 33) (off := 963) (tgt := 996) C dL_law_33 (by decide) (by decide) (by decide) (by decide) (lc_996 C X hi hL hn hB hM hR nx)
  | 26, _ => exact r_tableIn (pc := 33) (off := 986) (tgt := 1019) C dL_law_33 (by decide) (by decide) (by decide) (by decide) (lc_1019 C X hi hL hn hB hM hR nx)
  | 27, _ => exact r_tableIn (pc := 33) (off := 1030) (tgt := 1063) C dL_law_33 (by decide) (by decide) (by decide) (by decide) (lc_1063 C X hi hL hn hB hM hR nx)
  | 28, _ => exact r_tableIn (pc := 33) (off := 1053) (tgt := 1086) C dL_law_33 (by decide) (by decide) (by decide) (by decide) (lc_1086 C X hi hL hn hB hM hR nx)
  | 29, _ => exact r_tableIn (pc := 33) (off := 1066) (tgt := 1099) C dL_law_33 (by decide) (by decide) (by decide) (by decide) (lc_1099 C X hi hL hn hB hM hR nx)
  | 30, _ => exact r_tableIn (pc := 33) (off := 1099) (tgt := 1132) C dL_law_33 (by decide) (by decide) (by decide) (by decide) (lc_1132 C X hi hL hn hB hM hR nx)
  | 31, _ => exact r_tableIn (pc := 33) (off := 1132) (tgt := 1165) C dL_law_33 (by decide) (by decide) (by decide) (by decide) (lc_1165 C X hi hL hn hB hM hR nx)
  | 32, _ => exact r_tableIn (pc := 33) (off := 1145) (tgt := 1178) C dL_law_33 (by decide) (by decide) (by decide) (by decide) (lc_1178 C X hi hL hn hB hM hR nx)
  | 33, _ => exact r_tableIn (pc := 33) (off := 1168) (tgt := 1201) C dL_law_33 (by decide) (by decide) (by decide) (by decide) (lc_1201 C X hi hL hn hB hM hR nx)
  | 34, _ => exact r_tableIn (pc := 33) (off := 1191) (tgt := 1224) C dL_law_33 (by decide) (by decide) (by decide) (by decide) (lc_1224 C X hi hL hn hB hM hR nx)
  | 35, _ => exact r_tableIn (pc := 33) (off := 1214) (tgt := 1247) C dL_law_33 (by decide) (by decide) (by decide) (by decide) (lc_1247 C X hi hL hn hB hM hR nx)
  | 36, _ => exact r_tableIn (pc := 33) (off := 1257) (tgt := 1290) C dL_law_33 (by decide) (by decide) (by decide) (by decide) (lc_1290 C X hi hL hn hB hM hR nx)
  | 37, _ => exact r_tableIn (pc := 33) (off := 1280) (tgt := 1313) C dL_law_33 (by decide) (by decide) (by decide) (by decide) (lc_1313 C X hi hL hn hB hM hR nx)
  | 38, _ => exact r_tableIn (pc := 33) (off := 1353) (tgt := 1386) C dL_law_33 (by decide) (by decide) (by decide) (by decide) (lc_1386 C X hi hL hn hB hM hR nx)
  | 39, _ => exact r_tableIn (pc := 33) (off := 1387) (tgt := 1420) C dL_law_33 (by decide) (by decide) (by decide) (by decide) (lc_1420 C X hi hL hn hB hM hR nx)
  | 40, _ => exact r_tableIn (pc := 33) (off := 1450) (tgt := 1483) C dL_law_33 (by decide) (by decide) (by decide) (by decide) (lc_1483 C X hi hL hn hB hM hR nx)
  | 41, _ => exact r_tableIn (pc := 33) (off := 1483) (tgt := 1516) C dL_law_33 (by decide) (by decide) (by decide) (by decide) (lc_1516 C X hi hL hn hB hM hR nx)
  | 42, _ => exact r_tableIn (pc := 33) (off := 1496) (tgt := 1529) C dL_law_33 (by decide) (by decide) (by decide) (by decide) (lc_1529 C X hi hL hn hB hM hR nx)
  | t + 43, h => exact r_tableOut (pc := 33) (tgt := 1542) C dL_law_33 (.inr (by rw [nI_toInt (by omega)]; omega)) (by decide) (nx _ _ _ hB hM hR)
theorem lw_loop {M : MT} {S : ST} {E : ET} {n : Nat × Nat} {b0 L : Nat} {xs : Nat → Int32} (C : Cx M S cL_law 4 RL ret room_1) (X : LX M b0 L xs) (hL : L ≤ 3072) (hn : n.1 ≤ room_1.cells ∧ n.2 ≤ room_1.slots) (fin : ∀ (g : Nat → va_E) (vs : List (Option Value)), G M S E n g 1549 vs [.int 1]) : ∀ (r i : Nat), i ≤ L → L - i ≤ r → ∀ (g : Nat → va_E) (K : KV) (z : MZ), BC S E g K → MC S E g z → RR K z → G M S E n g 18 [some (.ref b0), some (.ref (E.1 0)), some (.ref (E.1 286)), some (.int (nI i))] [] := by
  intro r
  induction r using Nat.strongRecOn with
  | ind r ih =>
  intro i hi hr g K z hB hM hR
  refine r_iload_n (pc := 18) C dL_law_18 rfl ?_
  refine r_aload_n (pc := 19) C dL_law_19 rfl ?_
  refine r_slen (pc := 20) C X dL_law_20 ?_
  refine r_bipush (pc := 21) (v := nI 6) C dL_law_21 (by decide +kernel) ?_
  refine r_isub (pc := 23) C dL_law_23 ?_
  have e6 : (nI L - nI 6).toInt = (L : Int) - 6 := by
    rw [Int32.toInt_sub, nI_toInt (by omega), show (nI 6).toInt = 6 by decide]
    exact Int.bmod_eq_of_le (by omega) (by omega)
  refine r_icmp_gt (pc := 24) (tgt := 1548) C dL_law_24 (by decide) (fun _ => ?_) (fun h => ?_)
  · refine r_iconst (pc := 1548) (v := 1) C dL_law_1548 (by decide +kernel) ?_
    exact fin _ _
  · have h6 : i + 6 ≤ L := by
      rw [Int32.lt_iff_toInt_lt, e6, nI_toInt (by omega)] at h
      omega
    refine r_aload_n (pc := 27) C dL_law_27 rfl ?_
    refine r_iload_n (pc := 28) C dL_law_28 rfl ?_
    refine r_sld (pc := 29) (j := i) C X dL_law_29 rfl (by omega) hL ?_
    refine r_bipush (pc := 30) (v := nI 63) C dL_law_30 (by decide +kernel) ?_
    refine r_iand (pc := 32) C dL_law_32 ?_
    obtain ⟨t, ht, e⟩ := and63 (xs i)
    rw [e]
    refine lw_sw C X h6 hL hn hB hM hR (fun g' K' z' hB' hM' hR' => ?_) ht
    refine r_iinc (pc := 1542) (x := nI i) (v := nI (i + 6)) C dL_law_1542 rfl (nI_add i 6) (by decide) ?_
    refine r_goto (pc := 1545) (tgt := 18) C dL_law_1545 (by decide) ?_
    exact ih (L - (i + 6)) (by omega) (i + 6) h6 (Nat.le_refl _) g' K' z' hB' hM' hR'
