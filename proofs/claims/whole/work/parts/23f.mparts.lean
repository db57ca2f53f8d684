def pcR (z : Nat → Nat) : Nat → Nat → Nat
  | 0, i => i
  | r + 1, i => if 0 < z i then pcR z r (i + 1) else i
def pcF (z : Nat → Nat) : Nat := pcR z 16 0
theorem pcR_sp (z : Nat → Nat) : ∀ r i : Nat, i ≤ pcR z r i ∧ pcR z r i ≤ i + r ∧ (∀ j, i ≤ j → j < pcR z r i → 0 < z j) ∧ (pcR z r i < i + r → z (pcR z r i) = 0)
  | 0, i => ⟨Nat.le_refl _, Nat.le_refl _, fun j h1 h2 => absurd h2 (Nat.not_lt.mpr h1), fun h => absurd h (Nat.lt_irrefl _)⟩
  | r + 1, i => by
    by_cases h : 0 < z i
    · rw [pcR, if_pos h]
      obtain ⟨a, b, c, d⟩ := pcR_sp z r (i + 1)
      refine ⟨by omega, by omega, fun j h1 h2 => ?_, fun q => d (by omega)⟩
      by_cases e : j = i
      · subst e; exact h
      · exact c j (by omega) h2
    · rw [pcR, if_neg h]
      exact ⟨Nat.le_refl _, by omega, fun j h1 h2 => absurd h2 (Nat.not_lt.mpr h1), fun _ => by omega⟩
theorem pcF_le (z : Nat → Nat) : pcF z ≤ 16 := by
  have := (pcR_sp z 16 0).2.1
  unfold pcF; omega
theorem pcF_pos {z : Nat → Nat} {j : Nat} (h : j < pcF z) : 0 < z j := (pcR_sp z 16 0).2.2.1 j (Nat.zero_le _) h
theorem pcF_end {z : Nat → Nat} (h : pcF z < 16) : z (pcF z) = 0 := (pcR_sp z 16 0).2.2.2 (by unfold pcF at h; omega)
def zx (z : Nat → Nat) (k : Nat) : Nat := if 16 ≤ k then 0 else z k
def cz0 (n : Nat) (f : Nat → Int64) (j : Nat) : Int64 := if j < n + 1 then oneF j else f j
def cwZ (n : Nat) (f : Nat → Int64) (m x : Int32) (t : Nat) : Nat → Int64 := it (fun j c => bif inS (nI (1 + j)) m x then ovF (n + 1) (1 + j) c else c) t (cz0 n f)
theorem cwZ_t {n : Nat} {f : Nat → Int64} {m x : Int32} {t : Nat} (h : inS (nI (1 + t)) m x = true) : cwZ n f m x (t + 1) = ovF (n + 1) (1 + t) (cwZ n f m x t) := by
  unfold cwZ
  rw [it_succ, h]; rfl
theorem cwZ_f {n : Nat} {f : Nat → Int64} {m x : Int32} {t : Nat} (h : inS (nI (1 + t)) m x = false) : cwZ n f m x (t + 1) = cwZ n f m x t := by
  unfold cwZ
  rw [it_succ, h]; rfl
theorem inS_of {k m x : Int32} (hm : ¬ m < 1) (q : (x >>> ((k - k / m * m) &&& 31)) &&& nI 1 = nI 1) : inS k m x = true := by
  unfold inS
  rw [Bool.and_eq_true]
  exact ⟨dT hm, dT q⟩
theorem rsZ_lt {m x : Int32} (h : rsZ m x = true) : ¬ m < 1 := fun e => by
  unfold rsZ btw at h
  rw [Bool.and_eq_true, Bool.and_eq_true] at h
  have h1 := Int64.le_iff_toInt_le.mp (of_decide_eq_true h.1.1)
  rw [Int32.toInt_toInt64] at h1
  have h2 := Int32.lt_iff_toInt_lt.mp e
  have h3 : (1 : Int) ≤ m.toInt := h1
  have h4 : m.toInt < (1 : Int) := h2
  omega
def qCnt (z : MZ) (x m y : Int32) : Int64 := bif btw x.toInt64 0 60 then (bif rsZ m y then cwZ (iN x) z.2.2.2.2.2.2.2.2.2.2.2.2.2.2.2.2.2.2.2.2.1 m y (iN x) (iN x) else -9223372036854775808) else -9223372036854775808
set_option maxHeartbeats 4000000 in
set_option maxRecDepth 100000 in
theorem c_X8_countPartitions {S : ST} {E : ET} {g : Nat → va_E} {z : MZ} (hM : MC S E g z) (x m y : Int32) : CtL S E yX8_countPartitions cX8_countPartitions 6 (Option.some FieldType.long) rmX8_countPartitions [.ref (E.1 286), .int x, .int m, .int y] g (fun u g' => u = qCnt z x m y ∧ (∃ z', MC S E g' z' ∧ Sv z' z) ∧ Fr g g' 286 308) := by
  refine Ct.of RX8 (by decide +kernel) rfl (Nat.le_of_ble_eq_true rfl) (fun M C Z => ?_)
  refine G.eq (pc' := 0) (vs' := [some (.ref (E.1 286)), some (.int x), some (.int m), some (.int y), none, none]) (st' := []) ?_
  refine r_iload_n (pc := 0) C dX8_countPartitions_0 rfl ?_
  refine r_i2l (pc := 1) C dX8_countPartitions_1 ?_
  refine r_lconst (pc := 2) (v := 0) C dX8_countPartitions_2 rfl ?_
  refine r_ldc2 (pc := 3) C dX8_countPartitions_3 qK_RX8_222 ?_
  refine r_callS (pc := 6) C dX8_countPartitions_6 cs_RX8_7 (c_X8_isBetween x.toInt64 0 60) ⟨rfl, rfl, by decide, by decide⟩ rfl rfl (Nat.le_of_ble_eq_true rfl) ⟨Nat.zero_le _, Nat.zero_le _⟩ ?_
  rintro _ _ ⟨_, rfl, rfl, rfl⟩
  show G M S E (0, 0) g 9 [some (.ref (E.1 286)), some (.int x), some (.int m), some (.int y), none, none] [.int (b2i (btw x.toInt64 0 60))]
  refine r_if_eq (pc := 9) (tgt := 20) C dX8_countPartitions_9 (by decide) (fun h9 => ?_) (fun h9 => ?_)
  · have h9 := b_f h9
    refine r_ldc2 (pc := 20) C dX8_countPartitions_20 qK_RX8_116 ?_
    exact r_lret (pc := 23) C Z dX8_countPartitions_23 (by rw [show qCnt z x m y = (-9223372036854775808) by simp only [qCnt, h9, cond_true, cond_false, if_true, if_false, not_true_eq_false, not_false_eq_true, ↓reduceIte]]; exact ⟨rfl, ⟨z, hM, Sv.rf⟩, Fr.rf⟩)
  · have h9 := b_t h9
    refine r_iload_n (pc := 12) C dX8_countPartitions_12 rfl ?_
    refine r_iload_n (pc := 13) C dX8_countPartitions_13 rfl ?_
    refine r_callS (pc := 14) C dX8_countPartitions_14 cs_RX8_152 (c_X8_isResidueSet m y) ⟨rfl, rfl, by decide, by decide⟩ rfl rfl (Nat.le_of_ble_eq_true rfl) ⟨Nat.zero_le _, Nat.zero_le _⟩ ?_
    rintro _ _ ⟨_, rfl, rfl, rfl⟩
    show G M S E (0, 0) g 17 [some (.ref (E.1 286)), some (.int x), some (.int m), some (.int y), none, none] [.int (b2i (rsZ m y))]
    refine r_if_ne (pc := 17) (tgt := 24) C dX8_countPartitions_17 (by decide) (fun h17 => ?_) (fun h17 => ?_)
    · have h17 := b_t h17
      obtain ⟨k, rfl, hk0, hk1, hk⟩ := btw_nat (p := 0) (q := 60) h9 (by decide) (by decide)
      have hm0 := rsZ_ne h17
      have hm1 := rsZ_lt h17
      refine r_iconst (pc := 24) (v := nI 0) C dX8_countPartitions_24 (by decide +kernel) ?_
      refine r_istore (pc := 25) C dX8_countPartitions_25 (by decide) ?_
      refine G.eq (pc' := 27) (vs' := [some (.ref (E.1 286)), some (.int (nI k)), some (.int m), some (.int y), some (.int (nI 0)), none]) (st' := []) ?_
      refine G.heap (Ce.id hM.2.2.2.2.2.2.2.2.2.2.1) ?_
      refine bk (P := fun t2 => G M S E (0, 0) (va_up g 296 (xJ S 61 (it (fun t h => vp_updL h t (oneF t)) t2 z.2.2.2.2.2.2.2.2.2.2.2.2.2.2.2.2.2.2.2.2.1))) 27 [some (.ref (E.1 286)), some (.int (nI k)), some (.int m), some (.int y), some (.int (nI t2)), none] []) (T := k + 1) ?_ (fun t2 ht ih => ?_)
      · show G M S E (0, 0) (va_up g 296 (xJ S 61 (it (fun t h => vp_updL h t (oneF t)) (k + 1) z.2.2.2.2.2.2.2.2.2.2.2.2.2.2.2.2.2.2.2.2.1))) 27 [some (.ref (E.1 286)), some (.int (nI k)), some (.int m), some (.int y), some (.int (nI (k + 1))), none] []
        refine r_iload (pc := 27) C dX8_countPartitions_27 rfl ?_
        refine r_iload_n (pc := 29) C dX8_countPartitions_29 rfl ?_
        refine r_icmp_gt (pc := 30) (tgt := 56) C dX8_countPartitions_30 (by decide) (fun h30 => ?_) (fun h30 => ?_)
        · have h30 := c_lt (by omega) (by omega) h30
          refine G.cJ (f' := cz0 k z.2.2.2.2.2.2.2.2.2.2.2.2.2.2.2.2.2.2.2.2.1) (fun j _ => it_putL oneF z.2.2.2.2.2.2.2.2.2.2.2.2.2.2.2.2.2.2.2.2.1 (k + 1) j) ?_
          refine r_iconst (pc := 56) (v := nI 1) C dX8_countPartitions_56 (by decide +kernel) ?_
          refine r_istore (pc := 57) C dX8_countPartitions_57 (by decide) ?_
          refine G.eq (pc' := 59) (vs' := [some (.ref (E.1 286)), some (.int (nI k)), some (.int m), some (.int y), some (.int (nI 1)), none]) (st' := []) ?_
          refine bk (P := fun t2 => G M S E (0, 0) (va_up g 296 (xJ S 61 (cwZ k z.2.2.2.2.2.2.2.2.2.2.2.2.2.2.2.2.2.2.2.2.1 m y t2))) 59 [some (.ref (E.1 286)), some (.int (nI k)), some (.int m), some (.int y), some (.int (nI (1 + t2))), none] []) (T := k) ?_ (fun t2 ht ih => ?_)
          · show G M S E (0, 0) (va_up g 296 (xJ S 61 (cwZ k z.2.2.2.2.2.2.2.2.2.2.2.2.2.2.2.2.2.2.2.2.1 m y k))) 59 [some (.ref (E.1 286)), some (.int (nI k)), some (.int m), some (.int y), some (.int (nI (1 + k))), none] []
            refine r_iload (pc := 59) C dX8_countPartitions_59 rfl ?_
            refine r_iload_n (pc := 61) C dX8_countPartitions_61 rfl ?_
            refine r_icmp_gt (pc := 62) (tgt := 119) C dX8_countPartitions_62 (by decide) (fun h62 => ?_) (fun h62 => ?_)
            · have h62 := c_lt (by omega) (by omega) h62
              refine r_aload_n (pc := 119) C dX8_countPartitions_119 rfl ?_
              refine r_getf (pc := 120) C dX8_countPartitions_120 fl_RX8_49 (Ce.up hM.1 (by decide)) rfl ?_
              refine r_iload_n (pc := 123) C dX8_countPartitions_123 rfl ?_
              refine r_lald (pc := 124) C dX8_countPartitions_124 (Ce.new hM.2.2.2.2.2.2.2.2.2.2.1) rfl (by omega) (by omega) ?_
              exact r_lret (pc := 125) C Z dX8_countPartitions_125 (by rw [show qCnt z (nI k) m y = cwZ k z.2.2.2.2.2.2.2.2.2.2.2.2.2.2.2.2.2.2.2.2.1 m y k k by simp only [qCnt, h9, h17, iN_nI hk, cond_true, cond_false, if_true, if_false, not_true_eq_false, not_false_eq_true, ↓reduceIte]]; exact ⟨rfl, ⟨s_f6 z (cwZ k z.2.2.2.2.2.2.2.2.2.2.2.2.2.2.2.2.2.2.2.2.1 m y k), (by simp only [MC, s_n, s_r, s_len, s_rem, s_pc, s_hd, s_at_, s_wr, s_cu, s_hs, s_sv, s_fr, s_fa, s_fb, s_fe, s_f1, s_f2, s_f3, s_f4, s_f5, s_f6, s_fp, s_fc, s_wd, s_bg, s_fi, s_fo, s_st, s_ss, s_fl, s_fm, s_fs, s_tnp, s_scr, s_f12, s_wr2]; exact ⟨(Ce.up hM.1 (by decide)), (Ce.up hM.2.1 (by decide)), (Ce.up hM.2.2.1 (by decide)), (Ce.up hM.2.2.2.1 (by decide)), (Ce.up hM.2.2.2.2.1 (by decide)), (Ce.up hM.2.2.2.2.2.1 (by decide)), (Ce.up hM.2.2.2.2.2.2.1 (by decide)), (Ce.up hM.2.2.2.2.2.2.2.1 (by decide)), (Ce.up hM.2.2.2.2.2.2.2.2.1 (by decide)), (Ce.up hM.2.2.2.2.2.2.2.2.2.1 (by decide)), (Ce.new hM.2.2.2.2.2.2.2.2.2.2.1), (Ce.up hM.2.2.2.2.2.2.2.2.2.2.2.1 (by decide)), (Ce.up hM.2.2.2.2.2.2.2.2.2.2.2.2.1 (by decide)), (Ce.up hM.2.2.2.2.2.2.2.2.2.2.2.2.2.1 (by decide)), (Ce.up hM.2.2.2.2.2.2.2.2.2.2.2.2.2.2.1 (by decide)), (Ce.up hM.2.2.2.2.2.2.2.2.2.2.2.2.2.2.2.1 (by decide)), (Ce.up hM.2.2.2.2.2.2.2.2.2.2.2.2.2.2.2.2.1 (by decide)), (Ce.up hM.2.2.2.2.2.2.2.2.2.2.2.2.2.2.2.2.2.1 (by decide)), (Ce.up hM.2.2.2.2.2.2.2.2.2.2.2.2.2.2.2.2.2.2.1 (by decide)), (Ce.up hM.2.2.2.2.2.2.2.2.2.2.2.2.2.2.2.2.2.2.2.1 (by decide)), (Ce.up hM.2.2.2.2.2.2.2.2.2.2.2.2.2.2.2.2.2.2.2.2.1 (by decide)), (Ce.up hM.2.2.2.2.2.2.2.2.2.2.2.2.2.2.2.2.2.2.2.2.2 (by decide))⟩), (by simp only [Sv, s_n, s_r, s_len, s_rem, s_pc, s_hd, s_at_, s_wr, s_cu, s_hs, s_sv, s_fr, s_fa, s_fb, s_fe, s_f1, s_f2, s_f3, s_f4, s_f5, s_f6, s_fp, s_fc, s_wd, s_bg, s_fi, s_fo, s_st, s_ss, s_fl, s_fm, s_fs, s_tnp, s_scr, s_f12, s_wr2, and_self])⟩, (Fr.rf.up (by omega) (by omega))⟩)
            · have h62 := c_nlt (by omega) (by omega) h62
              omega
          · show G M S E (0, 0) (va_up g 296 (xJ S 61 (cwZ k z.2.2.2.2.2.2.2.2.2.2.2.2.2.2.2.2.2.2.2.2.1 m y t2))) 59 [some (.ref (E.1 286)), some (.int (nI k)), some (.int m), some (.int y), some (.int (nI (1 + t2))), none] []
            refine r_iload (pc := 59) C dX8_countPartitions_59 rfl ?_
            refine r_iload_n (pc := 61) C dX8_countPartitions_61 rfl ?_
            refine r_icmp_gt (pc := 62) (tgt := 119) C dX8_countPartitions_62 (by decide) (fun h62 => ?_) (fun h62 => ?_)
            · have h62 := c_lt (by omega) (by omega) h62
              omega
            · have h62 := c_nlt (by omega) (by omega) h62
              refine r_iload (pc := 65) C dX8_countPartitions_65 rfl ?_
              refine r_istore (pc := 67) C dX8_countPartitions_67 (by decide) ?_
              refine G.eq (pc' := 69) (vs' := [some (.ref (E.1 286)), some (.int (nI k)), some (.int m), some (.int y), some (.int (nI (1 + t2))), some (.int (nI (1 + t2)))]) (st' := []) ?_
              have ih2 := ih
              rcases hb : inS (nI (1 + t2)) m y with _ | _
              · have hb2 : ¬ (y >>> ((nI (1 + t2) - nI (1 + t2) / m * m) &&& 31)) &&& nI 1 = nI 1 := fun q => by rw [inS_of hm1 q] at hb; cases hb
                refine r_iload (pc := 69) C dX8_countPartitions_69 rfl ?_
                refine r_iload_n (pc := 71) C dX8_countPartitions_71 rfl ?_
                refine r_icmp_gt (pc := 72) (tgt := 113) C dX8_countPartitions_72 (by decide) (fun h72 => ?_) (fun h72 => ?_)
                · have h72 := c_lt (by omega) (by omega) h72
                  omega
                · have h72 := c_nlt (by omega) (by omega) h72
                  refine r_iload_n (pc := 75) C dX8_countPartitions_75 rfl ?_
                  refine r_iload (pc := 76) C dX8_countPartitions_76 rfl ?_
                  refine r_iload_n (pc := 78) C dX8_countPartitions_78 rfl ?_
                  refine r_irem (pc := 79) C dX8_countPartitions_79 hm0 ?_
                  refine r_ishr (pc := 80) C dX8_countPartitions_80 ?_
                  refine r_iconst (pc := 81) (v := nI 1) C dX8_countPartitions_81 (by decide +kernel) ?_
                  refine r_iand (pc := 82) C dX8_countPartitions_82 ?_
                  refine r_iconst (pc := 83) (v := nI 1) C dX8_countPartitions_83 (by decide +kernel) ?_
                  refine r_icmp_ne (pc := 84) (tgt := 113) C dX8_countPartitions_84 (by decide) (fun h84 => ?_) (fun h84 => ?_)
                  · refine r_iinc (pc := 113) (v := nI (1 + t2 + 1)) C dX8_countPartitions_113 rfl (nI_i1 _) (by decide) ?_
                    refine G.eq (pc' := 116) (vs' := [some (.ref (E.1 286)), some (.int (nI k)), some (.int m), some (.int y), some (.int (nI (1 + t2 + 1))), some (.int (nI (1 + t2)))]) (st' := []) ?_
                    refine r_goto (pc := 116) (tgt := 59) C dX8_countPartitions_116 (by decide) ?_
                    rw [cwZ_f hb] at ih2
                    refine G.wk (vs' := [some (.ref (E.1 286)), some (.int (nI k)), some (.int m), some (.int y), some (.int (nI (1 + t2 + 1))), none]) ⟨rfl, rfl, rfl, rfl, rfl, trivial⟩ ?_
                    exact ih2
                  · exact absurd h84 hb2
              · have hb2 : (y >>> ((nI (1 + t2) - nI (1 + t2) / m * m) &&& 31)) &&& nI 1 = nI 1 := by unfold inS at hb; rw [Bool.and_eq_true] at hb; exact of_decide_eq_true hb.2
                refine bk (P := fun t3 => G M S E (0, 0) (va_up g 296 (xJ S 61 (it (fun t f => vp_updL f (1 + t2 + t) (f (1 + t2 + t) + f (1 + t2 + t - (1 + t2)))) t3 (cwZ k z.2.2.2.2.2.2.2.2.2.2.2.2.2.2.2.2.2.2.2.2.1 m y t2)))) 69 [some (.ref (E.1 286)), some (.int (nI k)), some (.int m), some (.int y), some (.int (nI (1 + t2))), some (.int (nI (1 + t2 + t3)))] []) (T := k + 1 - (1 + t2)) ?_ (fun t3 ht ih => ?_)
                · show G M S E (0, 0) (va_up g 296 (xJ S 61 (it (fun t f => vp_updL f (1 + t2 + t) (f (1 + t2 + t) + f (1 + t2 + t - (1 + t2)))) (k + 1 - (1 + t2)) (cwZ k z.2.2.2.2.2.2.2.2.2.2.2.2.2.2.2.2.2.2.2.2.1 m y t2)))) 69 [some (.ref (E.1 286)), some (.int (nI k)), some (.int m), some (.int y), some (.int (nI (1 + t2))), some (.int (nI (1 + t2 + (k + 1 - (1 + t2)))))] []
                  refine r_iload (pc := 69) C dX8_countPartitions_69 rfl ?_
                  refine r_iload_n (pc := 71) C dX8_countPartitions_71 rfl ?_
                  refine r_icmp_gt (pc := 72) (tgt := 113) C dX8_countPartitions_72 (by decide) (fun h72 => ?_) (fun h72 => ?_)
                  · have h72 := c_lt (by omega) (by omega) h72
                    refine r_iinc (pc := 113) (v := nI (1 + t2 + 1)) C dX8_countPartitions_113 rfl (nI_i1 _) (by decide) ?_
                    refine G.eq (pc' := 116) (vs' := [some (.ref (E.1 286)), some (.int (nI k)), some (.int m), some (.int y), some (.int (nI (1 + t2 + 1))), some (.int (nI (1 + t2 + (k + 1 - (1 + t2)))))]) (st' := []) ?_
                    refine r_goto (pc := 116) (tgt := 59) C dX8_countPartitions_116 (by decide) ?_
                    rw [cwZ_t hb] at ih2
                    refine G.wk (vs' := [some (.ref (E.1 286)), some (.int (nI k)), some (.int m), some (.int y), some (.int (nI (1 + t2 + 1))), none]) ⟨rfl, rfl, rfl, rfl, rfl, trivial⟩ ?_
                    exact ih2
                  · have h72 := c_nlt (by omega) (by omega) h72
                    omega
                · show G M S E (0, 0) (va_up g 296 (xJ S 61 (it (fun t f => vp_updL f (1 + t2 + t) (f (1 + t2 + t) + f (1 + t2 + t - (1 + t2)))) t3 (cwZ k z.2.2.2.2.2.2.2.2.2.2.2.2.2.2.2.2.2.2.2.2.1 m y t2)))) 69 [some (.ref (E.1 286)), some (.int (nI k)), some (.int m), some (.int y), some (.int (nI (1 + t2))), some (.int (nI (1 + t2 + t3)))] []
                  refine r_iload (pc := 69) C dX8_countPartitions_69 rfl ?_
                  refine r_iload_n (pc := 71) C dX8_countPartitions_71 rfl ?_
                  refine r_icmp_gt (pc := 72) (tgt := 113) C dX8_countPartitions_72 (by decide) (fun h72 => ?_) (fun h72 => ?_)
                  · have h72 := c_lt (by omega) (by omega) h72
                    omega
                  · have h72 := c_nlt (by omega) (by omega) h72
                    refine r_iload_n (pc := 75) C dX8_countPartitions_75 rfl ?_
                    refine r_iload (pc := 76) C dX8_countPartitions_76 rfl ?_
                    refine r_iload_n (pc := 78) C dX8_countPartitions_78 rfl ?_
                    refine r_irem (pc := 79) C dX8_countPartitions_79 hm0 ?_
                    refine r_ishr (pc := 80) C dX8_countPartitions_80 ?_
                    refine r_iconst (pc := 81) (v := nI 1) C dX8_countPartitions_81 (by decide +kernel) ?_
                    refine r_iand (pc := 82) C dX8_countPartitions_82 ?_
                    refine r_iconst (pc := 83) (v := nI 1) C dX8_countPartitions_83 (by decide +kernel) ?_
                    refine r_icmp_ne (pc := 84) (tgt := 113) C dX8_countPartitions_84 (by decide) (fun h84 => ?_) (fun h84 => ?_)
                    · exact absurd hb2 h84
                    · refine r_aload_n (pc := 87) C dX8_countPartitions_87 rfl ?_
                      refine r_getf (pc := 88) C dX8_countPartitions_88 fl_RX8_49 (Ce.up hM.1 (by decide)) rfl ?_
                      refine r_iload (pc := 91) C dX8_countPartitions_91 rfl ?_
                      refine r_dup2 (pc := 93) C dX8_countPartitions_93 rfl rfl ?_
                      refine r_lald (pc := 94) C dX8_countPartitions_94 (Ce.new hM.2.2.2.2.2.2.2.2.2.2.1) rfl (by omega) (by omega) ?_
                      refine r_aload_n (pc := 95) C dX8_countPartitions_95 rfl ?_
                      refine r_getf (pc := 96) C dX8_countPartitions_96 fl_RX8_49 (Ce.up hM.1 (by decide)) rfl ?_
                      refine r_iload (pc := 99) C dX8_countPartitions_99 rfl ?_
                      refine r_iload (pc := 101) C dX8_countPartitions_101 rfl ?_
                      refine r_isub (pc := 103) C dX8_countPartitions_103 ?_
                      refine r_ti (nI (1 + t2 + t3 - (1 + t2))) (pk_sub (by omega)) ?_
                      refine r_lald (pc := 104) C dX8_countPartitions_104 (Ce.new hM.2.2.2.2.2.2.2.2.2.2.1) rfl (by omega) (by omega) ?_
                      refine r_ladd (pc := 105) C dX8_countPartitions_105 ?_
                      refine r_last2 (pc := 106) C dX8_countPartitions_106 hM.2.2.2.2.2.2.2.2.2.2.1.1 rfl (by omega) (by omega) ?_
                      refine r_iinc (pc := 107) (v := nI (1 + t2 + t3 + 1)) C dX8_countPartitions_107 rfl (nI_i1 _) (by decide) ?_
                      refine G.eq (pc' := 110) (vs' := [some (.ref (E.1 286)), some (.int (nI k)), some (.int m), some (.int y), some (.int (nI (1 + t2))), some (.int (nI (1 + t2 + t3 + 1)))]) (st' := []) ?_
                      refine r_goto (pc := 110) (tgt := 69) C dX8_countPartitions_110 (by decide) ?_
                      exact ih
        · have h30 := c_nlt (by omega) (by omega) h30
          omega
      · show G M S E (0, 0) (va_up g 296 (xJ S 61 (it (fun t h => vp_updL h t (oneF t)) t2 z.2.2.2.2.2.2.2.2.2.2.2.2.2.2.2.2.2.2.2.2.1))) 27 [some (.ref (E.1 286)), some (.int (nI k)), some (.int m), some (.int y), some (.int (nI t2)), none] []
        refine r_iload (pc := 27) C dX8_countPartitions_27 rfl ?_
        refine r_iload_n (pc := 29) C dX8_countPartitions_29 rfl ?_
        refine r_icmp_gt (pc := 30) (tgt := 56) C dX8_countPartitions_30 (by decide) (fun h30 => ?_) (fun h30 => ?_)
        · have h30 := c_lt (by omega) (by omega) h30
          omega
        · have h30 := c_nlt (by omega) (by omega) h30
          refine r_aload_n (pc := 33) C dX8_countPartitions_33 rfl ?_
          refine r_getf (pc := 34) C dX8_countPartitions_34 fl_RX8_49 (Ce.up hM.1 (by decide)) rfl ?_
          refine r_iload (pc := 37) C dX8_countPartitions_37 rfl ?_
          refine r_iload (pc := 39) C dX8_countPartitions_39 rfl ?_
          refine r_if_ne (pc := 41) (tgt := 48) C dX8_countPartitions_41 (by decide) (fun h41 => ?_) (fun h41 => ?_)
          · have h41 := z_ne (by omega) h41
            refine r_lconst (pc := 48) (v := 0) C dX8_countPartitions_48 rfl ?_
            refine r_tl (oneF t2) (if_neg h41).symm ?_
            refine r_last2 (pc := 49) C dX8_countPartitions_49 hM.2.2.2.2.2.2.2.2.2.2.1.1 rfl (by omega) (by omega) ?_
            refine r_iinc (pc := 50) (v := nI (t2 + 1)) C dX8_countPartitions_50 rfl (nI_i1 _) (by decide) ?_
            refine G.eq (pc' := 53) (vs' := [some (.ref (E.1 286)), some (.int (nI k)), some (.int m), some (.int y), some (.int (nI (t2 + 1))), none]) (st' := []) ?_
            refine r_goto (pc := 53) (tgt := 27) C dX8_countPartitions_53 (by decide) ?_
            exact ih
          · have h41 := z_eq (by omega) h41
            refine r_lconst (pc := 44) (v := 1) C dX8_countPartitions_44 rfl ?_
            refine r_goto (pc := 45) (tgt := 49) C dX8_countPartitions_45 (by decide) ?_
            refine r_tl (oneF t2) (if_pos h41).symm ?_
            refine r_last2 (pc := 49) C dX8_countPartitions_49 hM.2.2.2.2.2.2.2.2.2.2.1.1 rfl (by omega) (by omega) ?_
            refine r_iinc (pc := 50) (v := nI (t2 + 1)) C dX8_countPartitions_50 rfl (nI_i1 _) (by decide) ?_
            refine G.eq (pc' := 53) (vs' := [some (.ref (E.1 286)), some (.int (nI k)), some (.int m), some (.int y), some (.int (nI (t2 + 1))), none]) (st' := []) ?_
            refine r_goto (pc := 53) (tgt := 27) C dX8_countPartitions_53 (by decide) ?_
            exact ih
    · have h17 := b_f h17
      refine r_ldc2 (pc := 20) C dX8_countPartitions_20 qK_RX8_116 ?_
      exact r_lret (pc := 23) C Z dX8_countPartitions_23 (by rw [show qCnt z x m y = (-9223372036854775808) by simp only [qCnt, h9, h17, cond_true, cond_false, if_true, if_false, not_true_eq_false, not_false_eq_true, ↓reduceIte]]; exact ⟨rfl, ⟨z, hM, Sv.rf⟩, Fr.rf⟩)
set_option maxHeartbeats 4000000 in
set_option maxRecDepth 100000 in
theorem c_X8_partAt2 {S : ST} {E : ET} {g : Nat → va_E} {N r : Nat} (hMB : MB E g N r) (hN : N ≤ 24) (hr : r ≤ 1) {y : Nat → Nat} (c297 : Ce E g 297 (xI S 3696 (fun k => nI (y k)))) (hb : ∀ k, y k ≤ 16) (i k : Nat) (hi : i < 231) (hk : k < 2 ^ 30) : CtI S E yX8_partAt cX8_partAt 3 (Option.some FieldType.int) rmX8_partAt [.ref (E.1 286), .int (nI i), .int (nI k)] g (fun u g' => u = nI (zx (fun k => y (16 * i + k)) k) ∧ g = g') := by
  refine Ct.of RX8 (by decide +kernel) rfl (Nat.le_of_ble_eq_true rfl) (fun M C Z => ?_)
  obtain ⟨fs, hb_⟩ := id hMB
  refine G.eq (pc' := 0) (vs' := [some (.ref (E.1 286)), some (.int (nI i)), some (.int (nI k))]) (st' := []) ?_
  refine r_iload_n (pc := 0) C dX8_partAt_0 rfl ?_
  refine r_bipush (pc := 1) (v := nI 16) C dX8_partAt_1 (by decide +kernel) ?_
  refine r_icmp_ge (pc := 3) (tgt := 20) C dX8_partAt_3 (by decide) (fun h3 => ?_) (fun h3 => ?_)
  · have h3 := c_le (by omega) (by omega) h3
    refine r_iconst (pc := 20) (v := nI 0) C dX8_partAt_20 (by decide +kernel) ?_
    exact r_iret (pc := 21) C Z dX8_partAt_21 rfl (⟨by rw [show zx (fun k => y (16 * i + k)) k = 0 from if_pos h3], rfl⟩)
  · have h3 := c_nle (by omega) (by omega) h3
    refine r_aload_n (pc := 6) C dX8_partAt_6 rfl ?_
    refine r_getf (pc := 7) C dX8_partAt_7 fl_RX8_52 hb_.1 hb_.2.2.2.2.2.2.2.2.2.2.2.2.2.1 ?_
    refine r_bipush (pc := 10) (v := nI 16) C dX8_partAt_10 (by decide +kernel) ?_
    refine r_iload_n (pc := 12) C dX8_partAt_12 rfl ?_
    refine r_imul (pc := 13) C dX8_partAt_13 ?_
    refine r_ti (nI (16 * i)) (pk_mul _ _) ?_
    refine r_iload_n (pc := 14) C dX8_partAt_14 rfl ?_
    refine r_iadd (pc := 15) C dX8_partAt_15 ?_
    refine r_ti (nI (16 * i + k)) (nI_add _ _) ?_
    refine r_iald (pc := 16) C dX8_partAt_16 c297 rfl (by omega) (by omega) ?_
    refine r_ti (nI (y (16 * i + k))) rfl ?_
    refine r_goto (pc := 17) (tgt := 21) C dX8_partAt_17 (by decide) ?_
    exact r_iret (pc := 21) C Z dX8_partAt_21 rfl (⟨by rw [show zx (fun k => y (16 * i + k)) k = y (16 * i + k) from if_neg (by omega)], rfl⟩)
set_option maxHeartbeats 4000000 in
set_option maxRecDepth 100000 in
theorem c_X8_partCount {S : ST} {E : ET} {g : Nat → va_E} {N r : Nat} (hMB : MB E g N r) (hN : N ≤ 24) (hr : r ≤ 1) {y : Nat → Nat} (c297 : Ce E g 297 (xI S 3696 (fun k => nI (y k)))) (hb : ∀ k, y k ≤ 16) (i : Nat) (hi : i < 231) : CtI S E yX8_partCount cX8_partCount 3 (Option.some FieldType.int) rmX8_partCount [.ref (E.1 286), .int (nI i)] g (fun u g' => u = nI (pcF (fun k => y (16 * i + k))) ∧ g = g') := by
  refine Ct.of RX8 (by decide +kernel) rfl (Nat.le_of_ble_eq_true rfl) (fun M C Z => ?_)
  obtain ⟨fs, hb_⟩ := id hMB
  refine G.eq (pc' := 0) (vs' := [some (.ref (E.1 286)), some (.int (nI i)), none]) (st' := []) ?_
  have hpl := pcF_le (fun k => y (16 * i + k))
  refine r_iconst (pc := 0) (v := nI 0) C dX8_partCount_0 (by decide +kernel) ?_
  refine r_istore_n (pc := 1) C dX8_partCount_1 (by decide) ?_
  refine G.eq (pc' := 2) (vs' := [some (.ref (E.1 286)), some (.int (nI i)), some (.int (nI 0))]) (st' := []) ?_
  have hzl : ∀ k, zx (fun k => y (16 * i + k)) k ≤ 16 := fun k => by unfold zx; split; exact Nat.zero_le _; exact hb _
  refine bk (P := fun t => G M S E (0, 0) g 2 [some (.ref (E.1 286)), some (.int (nI i)), some (.int (nI t))] []) (T := pcF (fun k => y (16 * i + k))) ?_ (fun t ht ih => ?_)
  · show G M S E (0, 0) g 2 [some (.ref (E.1 286)), some (.int (nI i)), some (.int (nI (pcF (fun k => y (16 * i + k)))))] []
    have hz : zx (fun k => y (16 * i + k)) (pcF (fun k => y (16 * i + k))) = 0 := by unfold zx; split; rfl; exact pcF_end (z := (fun k => y (16 * i + k))) (by omega)
    refine r_aload_n (pc := 2) C dX8_partCount_2 rfl ?_
    refine r_iload_n (pc := 3) C dX8_partCount_3 rfl ?_
    refine r_iload_n (pc := 4) C dX8_partCount_4 rfl ?_
    refine r_callV (pc := 5) C dX8_partCount_5 cv_RX8_232 (c_X8_partAt2 ⟨fs, hb_.1, hb_.2⟩ hN hr c297 hb i (pcF (fun k => y (16 * i + k))) (by omega) (by omega)) ⟨rfl, rfl, by decide, by decide⟩ hb_.1 rfl rfl (Nat.le_of_ble_eq_true rfl) ⟨Nat.zero_le _, Nat.zero_le _⟩ ?_
    rintro _ _ ⟨_, rfl, rfl, rfl⟩
    show G M S E (0, 0) g 8 [some (.ref (E.1 286)), some (.int (nI i)), some (.int (nI (pcF (fun k => y (16 * i + k)))))] [.int (nI (zx (fun k => y (16 * i + k)) (pcF (fun k => y (16 * i + k)))))]
    refine r_if_le (pc := 8) (tgt := 17) C dX8_partCount_8 (by decide) (fun h8 => ?_) (fun h8 => ?_)
    · have h8 := z_le (by omega) h8
      refine r_iload_n (pc := 17) C dX8_partCount_17 rfl ?_
      exact r_iret (pc := 18) C Z dX8_partCount_18 rfl (⟨rfl, rfl⟩)
    · have h8 := z_nle (by omega) h8
      omega
  · show G M S E (0, 0) g 2 [some (.ref (E.1 286)), some (.int (nI i)), some (.int (nI t))] []
    have hp := pcF_pos ht
    have hz : zx (fun k => y (16 * i + k)) t = y (16 * i + t) := if_neg (by omega)
    have hzz := hzl t
    refine r_aload_n (pc := 2) C dX8_partCount_2 rfl ?_
    refine r_iload_n (pc := 3) C dX8_partCount_3 rfl ?_
    refine r_iload_n (pc := 4) C dX8_partCount_4 rfl ?_
    refine r_callV (pc := 5) C dX8_partCount_5 cv_RX8_232 (c_X8_partAt2 ⟨fs, hb_.1, hb_.2⟩ hN hr c297 hb i t (by omega) (by omega)) ⟨rfl, rfl, by decide, by decide⟩ hb_.1 rfl rfl (Nat.le_of_ble_eq_true rfl) ⟨Nat.zero_le _, Nat.zero_le _⟩ ?_
    rintro _ _ ⟨_, rfl, rfl, rfl⟩
    show G M S E (0, 0) g 8 [some (.ref (E.1 286)), some (.int (nI i)), some (.int (nI t))] [.int (nI (zx (fun k => y (16 * i + k)) t))]
    refine r_if_le (pc := 8) (tgt := 17) C dX8_partCount_8 (by decide) (fun h8 => ?_) (fun h8 => ?_)
    · have h8 := z_le (by omega) h8
      have hp : 0 < y (16 * i + t) := hp; omega
    · have h8 := z_nle (by omega) h8
      refine r_iinc (pc := 11) (v := nI (t + 1)) C dX8_partCount_11 rfl (nI_i1 _) (by decide) ?_
      refine G.eq (pc' := 14) (vs' := [some (.ref (E.1 286)), some (.int (nI i)), some (.int (nI (t + 1)))]) (st' := []) ?_
      refine r_goto (pc := 14) (tgt := 2) C dX8_partCount_14 (by decide) ?_
      exact ih
def qPrt (z : MZ) (x y : Int32) : Int32 := if x < 0 then -1 else if 0 ≤ y then (if iN x < z.2.2.2.2.1 then (if iN y < pcF (fun k => z.2.2.2.2.2.2.2.2.2.2.2.2.2.2.2.2.2.2.2.2.2.1 (16 * iN x + k)) then nI (z.2.2.2.2.2.2.2.2.2.2.2.2.2.2.2.2.2.2.2.2.2.1 (16 * iN x + iN y)) else -7) else -7) else -1
set_option maxHeartbeats 4000000 in
set_option maxRecDepth 100000 in
theorem c_X8_part {S : ST} {E : ET} {g : Nat → va_E} {z : MZ} (hM : MC S E g z) (h4 : 4 ≤ z.1) (hN : z.1 ≤ 24) (hr : z.2.1 ≤ 1) (hpc : z.2.2.2.2.1 ≤ 231) (hb : ∀ k, z.2.2.2.2.2.2.2.2.2.2.2.2.2.2.2.2.2.2.2.2.2.1 k ≤ 16) (x y : Int32) : CtI S E yX8_part cX8_part 3 (Option.some FieldType.int) rmX8_part [.ref (E.1 286), .int x, .int y] g (fun u g' => u = qPrt z x y ∧ g = g') := by
  refine Ct.of RX8 (by decide +kernel) rfl (Nat.le_of_ble_eq_true rfl) (fun M C Z => ?_)
  refine G.eq (pc' := 0) (vs' := [some (.ref (E.1 286)), some (.int x), some (.int y)]) (st' := []) ?_
  refine r_iload_n (pc := 0) C dX8_part_0 rfl ?_
  refine r_if_lt (pc := 1) (tgt := 8) C dX8_part_1 (by decide) (fun h1 => ?_) (fun h1 => ?_)
  · refine r_iconst (pc := 8) (v := (-1)) C dX8_part_8 (by decide +kernel) ?_
    exact r_iret (pc := 9) C Z dX8_part_9 rfl (by rw [show qPrt z x y = -1 by simp only [qPrt, h1, cond_true, cond_false, if_true, if_false, not_true_eq_false, not_false_eq_true, ↓reduceIte]]; exact ⟨rfl, rfl⟩)
  · refine r_iload_n (pc := 4) C dX8_part_4 rfl ?_
    refine r_if_ge (pc := 5) (tgt := 10) C dX8_part_5 (by decide) (fun h5 => ?_) (fun h5 => ?_)
    · obtain ⟨i, rfl, hi⟩ := nat_ge0 h1
      obtain ⟨k, rfl, hk⟩ := nat_ge0 (Int32.not_lt.mpr h5)
      refine r_iload_n (pc := 10) C dX8_part_10 rfl ?_
      refine r_aload_n (pc := 11) C dX8_part_11 rfl ?_
      refine r_getf (pc := 12) C dX8_part_12 fl_RX8_226 hM.1 rfl ?_
      refine r_icmp_ge (pc := 15) (tgt := 36) C dX8_part_15 (by decide) (fun h15 => ?_) (fun h15 => ?_)
      · have h15 := c_le (by omega) (by omega) h15
        refine r_bipush (pc := 36) (v := (-7)) C dX8_part_36 (by decide +kernel) ?_
        have h15n : ¬ i < z.2.2.2.2.1 := by omega
        exact r_iret (pc := 38) C Z dX8_part_38 rfl (by rw [show qPrt z (nI i) (nI k) = -7 by simp only [qPrt, h1, h5, h15n, iN_nI hi, iN_nI hk, cond_true, cond_false, if_true, if_false, not_true_eq_false, not_false_eq_true, ↓reduceIte]]; exact ⟨rfl, rfl⟩)
      · have h15 := c_nle (by omega) (by omega) h15
        refine r_iload_n (pc := 18) C dX8_part_18 rfl ?_
        refine r_aload_n (pc := 19) C dX8_part_19 rfl ?_
        refine r_iload_n (pc := 20) C dX8_part_20 rfl ?_
        refine r_callV (pc := 21) C dX8_part_21 cv_RX8_236 (c_X8_partCount ⟨_, hM.1, rfl, rfl, rfl, rfl, rfl, rfl, rfl, rfl, rfl, rfl, rfl, rfl, rfl, rfl, rfl, rfl, rfl, rfl, rfl, rfl, rfl, rfl, rfl⟩ (N := z.1) (r := z.2.1) hN hr hM.2.2.2.2.2.2.2.2.2.2.2.1 hb i (by omega)) ⟨rfl, rfl, by decide, by decide⟩ hM.1 rfl rfl (Nat.le_of_ble_eq_true rfl) ⟨Nat.zero_le _, Nat.zero_le _⟩ ?_
        rintro _ _ ⟨_, rfl, rfl, rfl⟩
        show G M S E (0, 0) g 24 [some (.ref (E.1 286)), some (.int (nI i)), some (.int (nI k))] [.int (nI (pcF (fun k => z.2.2.2.2.2.2.2.2.2.2.2.2.2.2.2.2.2.2.2.2.2.1 (16 * i + k)))), .int (nI k)]
        have hpl := pcF_le (fun k => z.2.2.2.2.2.2.2.2.2.2.2.2.2.2.2.2.2.2.2.2.2.1 (16 * i + k))
        refine r_icmp_ge (pc := 24) (tgt := 36) C dX8_part_24 (by decide) (fun h24 => ?_) (fun h24 => ?_)
        · have h24 := c_le (by omega) (by omega) h24
          refine r_bipush (pc := 36) (v := (-7)) C dX8_part_36 (by decide +kernel) ?_
          have h24n : ¬ k < pcF (fun k => z.2.2.2.2.2.2.2.2.2.2.2.2.2.2.2.2.2.2.2.2.2.1 (16 * i + k)) := by omega
          exact r_iret (pc := 38) C Z dX8_part_38 rfl (by rw [show qPrt z (nI i) (nI k) = -7 by simp only [qPrt, h1, h5, h15, h24n, iN_nI hi, iN_nI hk, cond_true, cond_false, if_true, if_false, not_true_eq_false, not_false_eq_true, ↓reduceIte]]; exact ⟨rfl, rfl⟩)
        · have h24 := c_nle (by omega) (by omega) h24
          refine r_aload_n (pc := 27) C dX8_part_27 rfl ?_
          refine r_iload_n (pc := 28) C dX8_part_28 rfl ?_
          refine r_iload_n (pc := 29) C dX8_part_29 rfl ?_
          refine r_callV (pc := 30) C dX8_part_30 cv_RX8_232 (c_X8_partAt2 ⟨_, hM.1, rfl, rfl, rfl, rfl, rfl, rfl, rfl, rfl, rfl, rfl, rfl, rfl, rfl, rfl, rfl, rfl, rfl, rfl, rfl, rfl, rfl, rfl, rfl⟩ (N := z.1) (r := z.2.1) hN hr hM.2.2.2.2.2.2.2.2.2.2.2.1 hb i k (by omega) (by omega)) ⟨rfl, rfl, by decide, by decide⟩ hM.1 rfl rfl (Nat.le_of_ble_eq_true rfl) ⟨Nat.zero_le _, Nat.zero_le _⟩ ?_
          rintro _ _ ⟨_, rfl, rfl, rfl⟩
          show G M S E (0, 0) g 33 [some (.ref (E.1 286)), some (.int (nI i)), some (.int (nI k))] [.int (nI (zx (fun k => z.2.2.2.2.2.2.2.2.2.2.2.2.2.2.2.2.2.2.2.2.2.1 (16 * i + k)) k))]
          refine r_ti (nI (z.2.2.2.2.2.2.2.2.2.2.2.2.2.2.2.2.2.2.2.2.2.1 (16 * i + k))) (congrArg nI (if_neg (by omega))) ?_
          refine r_goto (pc := 33) (tgt := 38) C dX8_part_33 (by decide) ?_
          exact r_iret (pc := 38) C Z dX8_part_38 rfl (by rw [show qPrt z (nI i) (nI k) = nI (z.2.2.2.2.2.2.2.2.2.2.2.2.2.2.2.2.2.2.2.2.2.1 (16 * i + k)) by simp only [qPrt, h1, h5, h15, h24, iN_nI hi, iN_nI hk, cond_true, cond_false, if_true, if_false, not_true_eq_false, not_false_eq_true, ↓reduceIte]]; exact ⟨rfl, rfl⟩)
    · refine r_iconst (pc := 8) (v := (-1)) C dX8_part_8 (by decide +kernel) ?_
      exact r_iret (pc := 9) C Z dX8_part_9 rfl (by rw [show qPrt z x y = -1 by simp only [qPrt, h1, h5, cond_true, cond_false, if_true, if_false, not_true_eq_false, not_false_eq_true, ↓reduceIte]]; exact ⟨rfl, rfl⟩)
