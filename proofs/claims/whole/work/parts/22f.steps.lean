def shE (fe : Nat → Int64) (j : Nat) : Int64 := if j < 1680 then fe (j + 240) else fe j
theorem it_sh (fe : Nat → Int64) : ∀ t j : Nat, it (fun t h => vp_updL h (240 + t - 240) (h (240 + t))) t fe j = if j < t then fe (j + 240) else fe j
  | 0, j => by rw [if_neg (by omega)]; rfl
  | t + 1, j => by
    rw [it_succ]
    show (if j = 240 + t - 240 then it (fun t h => vp_updL h (240 + t - 240) (h (240 + t))) t fe (240 + t) else it (fun t h => vp_updL h (240 + t - 240) (h (240 + t))) t fe j) = _
    rw [it_sh fe t (240 + t), it_sh fe t j]
    by_cases e : j = 240 + t - 240
    · rw [if_pos e, if_neg (by omega), if_pos (by omega), show 240 + t = j + 240 by omega]
    · rw [if_neg e]
      by_cases q : j < t
      · rw [if_pos q, if_pos (by omega)]
      · rw [if_neg q, if_neg (by omega)]
def reZ (fe fa fb : Nat → Int64) (k : Nat) : Nat → Int64 := cp120 fb 0 (cp120 fa 0 fe (240 * k)) (240 * k + 120)
def rmE (k : Nat) (fe fa fb : Nat → Int64) : Nat → Int64 := if k = 8 then reZ (shE fe) fa fb (k - 1) else reZ fe fa fb k
def rmN (k : Nat) : Nat := if k = 8 then k - 1 + 1 else k + 1
def s_rm (z : MZ) (x_fe : (Nat → Int64)) (x_rem : Nat) : MZ := (z.1, z.2.1, z.2.2.1, x_rem, z.2.2.2.2.1, z.2.2.2.2.2.1, z.2.2.2.2.2.2.1, z.2.2.2.2.2.2.2.1, z.2.2.2.2.2.2.2.2.1, z.2.2.2.2.2.2.2.2.2.1, z.2.2.2.2.2.2.2.2.2.2.1, z.2.2.2.2.2.2.2.2.2.2.2.1, z.2.2.2.2.2.2.2.2.2.2.2.2.1, z.2.2.2.2.2.2.2.2.2.2.2.2.2.1, x_fe, z.2.2.2.2.2.2.2.2.2.2.2.2.2.2.2.1, z.2.2.2.2.2.2.2.2.2.2.2.2.2.2.2.2.1, z.2.2.2.2.2.2.2.2.2.2.2.2.2.2.2.2.2.1, z.2.2.2.2.2.2.2.2.2.2.2.2.2.2.2.2.2.2.1, z.2.2.2.2.2.2.2.2.2.2.2.2.2.2.2.2.2.2.2.1, z.2.2.2.2.2.2.2.2.2.2.2.2.2.2.2.2.2.2.2.2.1, z.2.2.2.2.2.2.2.2.2.2.2.2.2.2.2.2.2.2.2.2.2.1, z.2.2.2.2.2.2.2.2.2.2.2.2.2.2.2.2.2.2.2.2.2.2.1, z.2.2.2.2.2.2.2.2.2.2.2.2.2.2.2.2.2.2.2.2.2.2.2.1, z.2.2.2.2.2.2.2.2.2.2.2.2.2.2.2.2.2.2.2.2.2.2.2.2.1, z.2.2.2.2.2.2.2.2.2.2.2.2.2.2.2.2.2.2.2.2.2.2.2.2.2.1, z.2.2.2.2.2.2.2.2.2.2.2.2.2.2.2.2.2.2.2.2.2.2.2.2.2.2.1, z.2.2.2.2.2.2.2.2.2.2.2.2.2.2.2.2.2.2.2.2.2.2.2.2.2.2.2.1, z.2.2.2.2.2.2.2.2.2.2.2.2.2.2.2.2.2.2.2.2.2.2.2.2.2.2.2.2.1, z.2.2.2.2.2.2.2.2.2.2.2.2.2.2.2.2.2.2.2.2.2.2.2.2.2.2.2.2.2.1, z.2.2.2.2.2.2.2.2.2.2.2.2.2.2.2.2.2.2.2.2.2.2.2.2.2.2.2.2.2.2.1, z.2.2.2.2.2.2.2.2.2.2.2.2.2.2.2.2.2.2.2.2.2.2.2.2.2.2.2.2.2.2.2)
def s_sp (z : MZ) (x_fa : (Nat → Int64)) (x_fb : (Nat → Int64)) (x_fe : (Nat → Int64)) (x_len : Int32) (x_rem : Nat) : MZ := (z.1, z.2.1, x_len, x_rem, z.2.2.2.2.1, z.2.2.2.2.2.1, z.2.2.2.2.2.2.1, z.2.2.2.2.2.2.2.1, z.2.2.2.2.2.2.2.2.1, z.2.2.2.2.2.2.2.2.2.1, z.2.2.2.2.2.2.2.2.2.2.1, z.2.2.2.2.2.2.2.2.2.2.2.1, x_fa, x_fb, x_fe, z.2.2.2.2.2.2.2.2.2.2.2.2.2.2.2.1, z.2.2.2.2.2.2.2.2.2.2.2.2.2.2.2.2.1, z.2.2.2.2.2.2.2.2.2.2.2.2.2.2.2.2.2.1, z.2.2.2.2.2.2.2.2.2.2.2.2.2.2.2.2.2.2.1, z.2.2.2.2.2.2.2.2.2.2.2.2.2.2.2.2.2.2.2.1, z.2.2.2.2.2.2.2.2.2.2.2.2.2.2.2.2.2.2.2.2.1, z.2.2.2.2.2.2.2.2.2.2.2.2.2.2.2.2.2.2.2.2.2.1, z.2.2.2.2.2.2.2.2.2.2.2.2.2.2.2.2.2.2.2.2.2.2.1, z.2.2.2.2.2.2.2.2.2.2.2.2.2.2.2.2.2.2.2.2.2.2.2.1, z.2.2.2.2.2.2.2.2.2.2.2.2.2.2.2.2.2.2.2.2.2.2.2.2.1, z.2.2.2.2.2.2.2.2.2.2.2.2.2.2.2.2.2.2.2.2.2.2.2.2.2.1, z.2.2.2.2.2.2.2.2.2.2.2.2.2.2.2.2.2.2.2.2.2.2.2.2.2.2.1, z.2.2.2.2.2.2.2.2.2.2.2.2.2.2.2.2.2.2.2.2.2.2.2.2.2.2.2.1, z.2.2.2.2.2.2.2.2.2.2.2.2.2.2.2.2.2.2.2.2.2.2.2.2.2.2.2.2.1, z.2.2.2.2.2.2.2.2.2.2.2.2.2.2.2.2.2.2.2.2.2.2.2.2.2.2.2.2.2.1, z.2.2.2.2.2.2.2.2.2.2.2.2.2.2.2.2.2.2.2.2.2.2.2.2.2.2.2.2.2.2.1, z.2.2.2.2.2.2.2.2.2.2.2.2.2.2.2.2.2.2.2.2.2.2.2.2.2.2.2.2.2.2.2)
def saZ (n r : Nat) (fa h : Nat → Int64) (t : Nat) : Nat → Int64 := it (fun i h => stR h i (swZ n (r * i + i * i) fa i)) t h
def sbW (n r : Nat) (fb : Nat → Int64) (i j : Nat) : Nat → Int64 := ovFs n (0 + 1) (i - j) (swZ n (r * j + j * j) fb j)
def sbS (n r : Nat) (fb : Nat → Int64) (i t : Nat) : Nat → Int64 := it (fun j c => adW n (sbW n r fb i j) c) t (fun _ => 0)
def snB (n r : Nat) (fb h : Nat → Int64) (t : Nat) : Nat → Int64 := it (fun i h => stR h i (sbS n r fb i (i + 1))) t h
theorem saZ_s (n r : Nat) (fa h : Nat → Int64) (t : Nat) : saZ n r fa h (t + 1) = stR (saZ n r fa h t) t (swZ n (r * t + t * t) fa t) := rfl
theorem snB_s (n r : Nat) (fb h : Nat → Int64) (t : Nat) : snB n r fb h (t + 1) = stR (snB n r fb h t) t (sbS n r fb t (t + 1)) := rfl
theorem sbS_s (n r : Nat) (fb : Nat → Int64) (i t : Nat) : sbS n r fb i (t + 1) = adW n (sbW n r fb i t) (sbS n r fb i t) := rfl
def sOkZ (n r : Nat) (fb : Nat → Int64) : Bool := allB (fun i => fitB 24 (sbS n r fb i (i + 1))) 5
def qStp (z : MZ) : Int32 × MZ := bif sOkZ z.1 z.2.1 z.2.2.2.2.2.2.2.2.2.2.2.2.2.1 then (z.2.2.1 + nI 1, s_sp z (cp120 (saZ z.1 z.2.1 z.2.2.2.2.2.2.2.2.2.2.2.2.1 z.2.2.2.2.2.2.2.2.2.2.2.2.2.2.2.2.2.2.1 5) 0 z.2.2.2.2.2.2.2.2.2.2.2.2.1 0) (cp120 (snB z.1 z.2.1 z.2.2.2.2.2.2.2.2.2.2.2.2.2.1 z.2.2.2.2.2.2.2.2.2.2.2.2.2.2.2.2.2.2.2.1 5) 0 z.2.2.2.2.2.2.2.2.2.2.2.2.2.1 0) (rmE z.2.2.2.1 z.2.2.2.2.2.2.2.2.2.2.2.2.2.2.1 z.2.2.2.2.2.2.2.2.2.2.2.2.1 z.2.2.2.2.2.2.2.2.2.2.2.2.2.1) (z.2.2.1 + nI 1) (rmN z.2.2.2.1)) else (-3, z)
def qUnd (z : MZ) : Int32 × MZ := if z.2.2.2.1 = 0 then (-5, z) else (z.2.2.1 - nI 1, s_sp z (cp120 z.2.2.2.2.2.2.2.2.2.2.2.2.2.2.1 (240 * (z.2.2.2.1 - 1)) z.2.2.2.2.2.2.2.2.2.2.2.2.1 0) (cp120 z.2.2.2.2.2.2.2.2.2.2.2.2.2.2.1 (240 * (z.2.2.2.1 - 1) + 120) z.2.2.2.2.2.2.2.2.2.2.2.2.2.1 0) z.2.2.2.2.2.2.2.2.2.2.2.2.2.2.1 (z.2.2.1 - nI 1) (z.2.2.2.1 - 1))
set_option maxHeartbeats 4000000 in
set_option maxRecDepth 100000 in
theorem c_X8_remember {S : ST} {E : ET} {g : Nat → va_E} {z : MZ} (hM : MC S E g z) (hm : z.2.2.2.1 ≤ 8) : CtV S E yX8_remember cX8_remember 2 none rmX8_remember [.ref (E.1 286)] g (fun g' => MC S E g' (s_rm z (rmE z.2.2.2.1 z.2.2.2.2.2.2.2.2.2.2.2.2.2.2.1 z.2.2.2.2.2.2.2.2.2.2.2.2.1 z.2.2.2.2.2.2.2.2.2.2.2.2.2.1) (rmN z.2.2.2.1)) ∧ Fr g g' 286 308) := by
  refine Ct.of RX8 (by decide +kernel) rfl (Nat.le_of_ble_eq_true rfl) (fun M C Z => ?_)
  refine G.eq (pc' := 0) (vs' := [some (.ref (E.1 286)), none]) (st' := []) ?_
  refine r_aload_n (pc := 0) C dX8_remember_0 rfl ?_
  refine r_getf (pc := 1) C dX8_remember_1 fl_RX8_193 hM.1 rfl ?_
  refine r_bipush (pc := 4) (v := nI 8) C dX8_remember_4 (by decide +kernel) ?_
  refine r_icmp_ne (pc := 6) (tgt := 52) C dX8_remember_6 (by decide) (fun h6 => ?_) (fun h6 => ?_)
  · have h6 := c_ne (by omega) (by omega) h6
    refine r_aload_n (pc := 52) C dX8_remember_52 rfl ?_
    refine r_getf (pc := 53) C dX8_remember_53 fl_RX8_25 hM.1 rfl ?_
    refine r_iconst (pc := 56) (v := nI 0) C dX8_remember_56 (by decide +kernel) ?_
    refine r_aload_n (pc := 57) C dX8_remember_57 rfl ?_
    refine r_getf (pc := 58) C dX8_remember_58 fl_RX8_31 hM.1 rfl ?_
    refine r_sipush (pc := 61) (v := nI 240) C dX8_remember_61 (by decide +kernel) ?_
    refine r_aload_n (pc := 64) C dX8_remember_64 rfl ?_
    refine r_getf (pc := 65) C dX8_remember_65 fl_RX8_193 hM.1 rfl ?_
    refine r_imul (pc := 68) C dX8_remember_68 ?_
    refine r_ti (nI (240 * z.2.2.2.1)) (pk_mul _ _) ?_
    refine r_callS (pc := 69) C dX8_remember_69 cs_RX8_186 (c_X8_copyPair hM.2.2.1 hM.2.2.2.2.1 (by decide) 0 (240 * z.2.2.2.1) (by omega) (by omega) (by decide) (by decide)) ⟨rfl, rfl, by decide, by decide⟩ rfl rfl (Nat.le_of_ble_eq_true rfl) ⟨Nat.zero_le _, Nat.zero_le _⟩ ?_
    rintro _ _ ⟨rfl, rfl⟩
    show G M S E (0, 0) (va_up g 290 (xJ S 1920 (cp120 z.2.2.2.2.2.2.2.2.2.2.2.2.1 0 z.2.2.2.2.2.2.2.2.2.2.2.2.2.2.1 (240 * z.2.2.2.1)))) 72 [some (.ref (E.1 286)), none] []
    refine r_aload_n (pc := 72) C dX8_remember_72 rfl ?_
    refine r_getf (pc := 73) C dX8_remember_73 fl_RX8_28 (Ce.up hM.1 (by decide)) rfl ?_
    refine r_iconst (pc := 76) (v := nI 0) C dX8_remember_76 (by decide +kernel) ?_
    refine r_aload_n (pc := 77) C dX8_remember_77 rfl ?_
    refine r_getf (pc := 78) C dX8_remember_78 fl_RX8_31 (Ce.up hM.1 (by decide)) rfl ?_
    refine r_sipush (pc := 81) (v := nI 240) C dX8_remember_81 (by decide +kernel) ?_
    refine r_aload_n (pc := 84) C dX8_remember_84 rfl ?_
    refine r_getf (pc := 85) C dX8_remember_85 fl_RX8_193 (Ce.up hM.1 (by decide)) rfl ?_
    refine r_imul (pc := 88) C dX8_remember_88 ?_
    refine r_ti (nI (240 * z.2.2.2.1)) (pk_mul _ _) ?_
    refine r_bipush (pc := 89) (v := nI 120) C dX8_remember_89 (by decide +kernel) ?_
    refine r_iadd (pc := 91) C dX8_remember_91 ?_
    refine r_ti (nI (240 * z.2.2.2.1 + 120)) (nI_add _ _) ?_
    refine r_callS (pc := 92) C dX8_remember_92 cs_RX8_186 (c_X8_copyPair (Ce.up hM.2.2.2.1 (by decide)) (Ce.new hM.2.2.2.2.1) (by decide) 0 (240 * z.2.2.2.1 + 120) (by omega) (by omega) (by decide) (by decide)) ⟨rfl, rfl, by decide, by decide⟩ rfl rfl (Nat.le_of_ble_eq_true rfl) ⟨Nat.zero_le _, Nat.zero_le _⟩ ?_
    rintro _ _ ⟨rfl, rfl⟩
    rw [bx_uu]
    show G M S E (0, 0) (va_up g 290 (xJ S 1920 (reZ z.2.2.2.2.2.2.2.2.2.2.2.2.2.2.1 z.2.2.2.2.2.2.2.2.2.2.2.2.1 z.2.2.2.2.2.2.2.2.2.2.2.2.2.1 z.2.2.2.1))) 95 [some (.ref (E.1 286)), none] []
    refine r_aload_n (pc := 95) C dX8_remember_95 rfl ?_
    refine r_dup (pc := 96) C dX8_remember_96 rfl ?_
    refine r_getf (pc := 97) C dX8_remember_97 fl_RX8_193 (Ce.up hM.1 (by decide)) rfl ?_
    refine r_iconst (pc := 100) (v := nI 1) C dX8_remember_100 (by decide +kernel) ?_
    refine r_iadd (pc := 101) C dX8_remember_101 ?_
    refine r_ti (nI (z.2.2.2.1 + 1)) (nI_add _ _) ?_
    refine r_putf (pc := 102) C dX8_remember_102 fp_RX8_193 (Ce.up hM.1 (by decide)) rfl rfl (Nat.le_of_ble_eq_true rfl) ?_
    exact r_vret (pc := 105) C Z dX8_remember_105 (by rw [show rmE z.2.2.2.1 z.2.2.2.2.2.2.2.2.2.2.2.2.2.2.1 z.2.2.2.2.2.2.2.2.2.2.2.2.1 z.2.2.2.2.2.2.2.2.2.2.2.2.2.1 = reZ z.2.2.2.2.2.2.2.2.2.2.2.2.2.2.1 z.2.2.2.2.2.2.2.2.2.2.2.2.1 z.2.2.2.2.2.2.2.2.2.2.2.2.2.1 z.2.2.2.1 from if_neg h6, show rmN z.2.2.2.1 = z.2.2.2.1 + 1 from if_neg h6]; exact ⟨(by simp only [MC, s_n, s_r, s_len, s_rem, s_pc, s_hd, s_at_, s_wr, s_cu, s_hs, s_sv, s_fr, s_fa, s_fb, s_fe, s_f1, s_f2, s_f3, s_f4, s_f5, s_f6, s_fp, s_fc, s_wd, s_bg, s_fi, s_fo, s_st, s_ss, s_fl, s_fm, s_fs, s_tnp, s_scr, s_f12, s_wr2, s_u, s_nr, s_rm, s_sp]; exact ⟨(Ce.new (Ce.up hM.1 (by decide))), (Ce.up (Ce.up hM.2.1 (by decide)) (by decide)), (Ce.up (Ce.up hM.2.2.1 (by decide)) (by decide)), (Ce.up (Ce.up hM.2.2.2.1 (by decide)) (by decide)), (Ce.up (Ce.new hM.2.2.2.2.1) (by decide)), (Ce.up (Ce.up hM.2.2.2.2.2.1 (by decide)) (by decide)), (Ce.up (Ce.up hM.2.2.2.2.2.2.1 (by decide)) (by decide)), (Ce.up (Ce.up hM.2.2.2.2.2.2.2.1 (by decide)) (by decide)), (Ce.up (Ce.up hM.2.2.2.2.2.2.2.2.1 (by decide)) (by decide)), (Ce.up (Ce.up hM.2.2.2.2.2.2.2.2.2.1 (by decide)) (by decide)), (Ce.up (Ce.up hM.2.2.2.2.2.2.2.2.2.2.1 (by decide)) (by decide)), (Ce.up (Ce.up hM.2.2.2.2.2.2.2.2.2.2.2.1 (by decide)) (by decide)), (Ce.up (Ce.up hM.2.2.2.2.2.2.2.2.2.2.2.2.1 (by decide)) (by decide)), (Ce.up (Ce.up hM.2.2.2.2.2.2.2.2.2.2.2.2.2.1 (by decide)) (by decide)), (Ce.up (Ce.up hM.2.2.2.2.2.2.2.2.2.2.2.2.2.2.1 (by decide)) (by decide)), (Ce.up (Ce.up hM.2.2.2.2.2.2.2.2.2.2.2.2.2.2.2.1 (by decide)) (by decide)), (Ce.up (Ce.up hM.2.2.2.2.2.2.2.2.2.2.2.2.2.2.2.2.1 (by decide)) (by decide)), (Ce.up (Ce.up hM.2.2.2.2.2.2.2.2.2.2.2.2.2.2.2.2.2.1 (by decide)) (by decide)), (Ce.up (Ce.up hM.2.2.2.2.2.2.2.2.2.2.2.2.2.2.2.2.2.2.1 (by decide)) (by decide)), (Ce.up (Ce.up hM.2.2.2.2.2.2.2.2.2.2.2.2.2.2.2.2.2.2.2.1 (by decide)) (by decide)), (Ce.up (Ce.up hM.2.2.2.2.2.2.2.2.2.2.2.2.2.2.2.2.2.2.2.2.1 (by decide)) (by decide)), (Ce.up (Ce.up hM.2.2.2.2.2.2.2.2.2.2.2.2.2.2.2.2.2.2.2.2.2 (by decide)) (by decide))⟩), ((Fr.rf.up (by omega) (by omega)).up (by omega) (by omega))⟩)
  · have h6 := c_eq (by omega) (by omega) h6
    refine r_sipush (pc := 9) (v := nI 240) C dX8_remember_9 (by decide +kernel) ?_
    refine r_istore_n (pc := 12) C dX8_remember_12 (by decide) ?_
    refine G.eq (pc' := 13) (vs' := [some (.ref (E.1 286)), some (.int (nI 240))]) (st' := []) ?_
    refine G.heap (Ce.id hM.2.2.2.2.1) ?_
    refine bk (P := fun t2 => G M S E (0, 0) (va_up g 290 (xJ S 1920 (it (fun t h => vp_updL h (240 + t - 240) (h (240 + t))) t2 z.2.2.2.2.2.2.2.2.2.2.2.2.2.2.1))) 13 [some (.ref (E.1 286)), some (.int (nI (240 + t2)))] []) (T := 1680) ?_ (fun t2 ht ih => ?_)
    · show G M S E (0, 0) (va_up g 290 (xJ S 1920 (it (fun t h => vp_updL h (240 + t - 240) (h (240 + t))) 1680 z.2.2.2.2.2.2.2.2.2.2.2.2.2.2.1))) 13 [some (.ref (E.1 286)), some (.int (nI (240 + 1680)))] []
      refine r_iload_n (pc := 13) C dX8_remember_13 rfl ?_
      refine r_sipush (pc := 14) (v := nI 1920) C dX8_remember_14 (by decide +kernel) ?_
      refine r_icmp_ge (pc := 17) (tgt := 42) C dX8_remember_17 (by decide) (fun h17 => ?_) (fun h17 => ?_)
      · have h17 := c_le (by omega) (by omega) h17
        refine G.cJ (f' := shE z.2.2.2.2.2.2.2.2.2.2.2.2.2.2.1) (fun j _ => it_sh z.2.2.2.2.2.2.2.2.2.2.2.2.2.2.1 1680 j) ?_
        refine r_aload_n (pc := 42) C dX8_remember_42 rfl ?_
        refine r_dup (pc := 43) C dX8_remember_43 rfl ?_
        refine r_getf (pc := 44) C dX8_remember_44 fl_RX8_193 (Ce.up hM.1 (by decide)) rfl ?_
        refine r_iconst (pc := 47) (v := nI 1) C dX8_remember_47 (by decide +kernel) ?_
        refine r_isub (pc := 48) C dX8_remember_48 ?_
        refine r_ti (nI (z.2.2.2.1 - 1)) (pk_sub (by omega)) ?_
        refine r_putf (pc := 49) C dX8_remember_49 fp_RX8_193 (Ce.up hM.1 (by decide)) rfl rfl (Nat.le_of_ble_eq_true rfl) ?_
        refine r_aload_n (pc := 52) C dX8_remember_52 rfl ?_
        refine r_getf (pc := 53) C dX8_remember_53 fl_RX8_25 (Ce.new (Ce.up hM.1 (by decide))) rfl ?_
        refine r_iconst (pc := 56) (v := nI 0) C dX8_remember_56 (by decide +kernel) ?_
        refine r_aload_n (pc := 57) C dX8_remember_57 rfl ?_
        refine r_getf (pc := 58) C dX8_remember_58 fl_RX8_31 (Ce.new (Ce.up hM.1 (by decide))) rfl ?_
        refine r_sipush (pc := 61) (v := nI 240) C dX8_remember_61 (by decide +kernel) ?_
        refine r_aload_n (pc := 64) C dX8_remember_64 rfl ?_
        refine r_getf (pc := 65) C dX8_remember_65 fl_RX8_193 (Ce.new (Ce.up hM.1 (by decide))) rfl ?_
        refine r_imul (pc := 68) C dX8_remember_68 ?_
        refine r_ti (nI (240 * (z.2.2.2.1 - 1))) (pk_mul _ _) ?_
        refine r_callS (pc := 69) C dX8_remember_69 cs_RX8_186 (c_X8_copyPair (Ce.up (Ce.up hM.2.2.1 (by decide)) (by decide)) (Ce.up (Ce.new hM.2.2.2.2.1) (by decide)) (by decide) 0 (240 * (z.2.2.2.1 - 1)) (by omega) (by omega) (by decide) (by decide)) ⟨rfl, rfl, by decide, by decide⟩ rfl rfl (Nat.le_of_ble_eq_true rfl) ⟨Nat.zero_le _, Nat.zero_le _⟩ ?_
        rintro _ _ ⟨rfl, rfl⟩
        show G M S E (0, 0) (va_up (va_up (va_up g 290 (xJ S 1920 (shE z.2.2.2.2.2.2.2.2.2.2.2.2.2.2.1))) 286 (.inr (8, [.int (nI z.1), .int (nI z.2.1), .int z.2.2.1, .int (nI (z.2.2.2.1 - 1)), .ref (E.1 287), .ref (E.1 288), .ref (E.1 289), .ref (E.1 290), .ref (E.1 291), .ref (E.1 292), .ref (E.1 293), .ref (E.1 294), .ref (E.1 295), .ref (E.1 296), .ref (E.1 297), .ref (E.1 298), .int (nI z.2.2.2.2.1), .ref (E.1 299), .ref (E.1 300), .ref (E.1 301), .ref (E.1 302), .int (nI z.2.2.2.2.2.1), .int (nI z.2.2.2.2.2.2.1), .int (nI z.2.2.2.2.2.2.2.1), .ref (E.1 303), .ref (E.1 304), .ref (E.1 305), .ref (E.1 306), .ref (E.1 307), .int (nI z.2.2.2.2.2.2.2.2.1), .int (b2i z.2.2.2.2.2.2.2.2.2.1), .int (b2i z.2.2.2.2.2.2.2.2.2.2.1)]))) 290 (xJ S 1920 (cp120 z.2.2.2.2.2.2.2.2.2.2.2.2.1 0 (shE z.2.2.2.2.2.2.2.2.2.2.2.2.2.2.1) (240 * (z.2.2.2.1 - 1))))) 72 [some (.ref (E.1 286)), some (.int (nI (240 + 1680)))] []
        refine G.heap (show (va_up (va_up (va_up g 290 (xJ S 1920 (shE z.2.2.2.2.2.2.2.2.2.2.2.2.2.2.1))) 286 (.inr (8, [.int (nI z.1), .int (nI z.2.1), .int z.2.2.1, .int (nI (z.2.2.2.1 - 1)), .ref (E.1 287), .ref (E.1 288), .ref (E.1 289), .ref (E.1 290), .ref (E.1 291), .ref (E.1 292), .ref (E.1 293), .ref (E.1 294), .ref (E.1 295), .ref (E.1 296), .ref (E.1 297), .ref (E.1 298), .int (nI z.2.2.2.2.1), .ref (E.1 299), .ref (E.1 300), .ref (E.1 301), .ref (E.1 302), .int (nI z.2.2.2.2.2.1), .int (nI z.2.2.2.2.2.2.1), .int (nI z.2.2.2.2.2.2.2.1), .ref (E.1 303), .ref (E.1 304), .ref (E.1 305), .ref (E.1 306), .ref (E.1 307), .int (nI z.2.2.2.2.2.2.2.2.1), .int (b2i z.2.2.2.2.2.2.2.2.2.1), .int (b2i z.2.2.2.2.2.2.2.2.2.2.1)]))) 290 (xJ S 1920 (cp120 z.2.2.2.2.2.2.2.2.2.2.2.2.1 0 (shE z.2.2.2.2.2.2.2.2.2.2.2.2.2.2.1) (240 * (z.2.2.2.1 - 1))))) = (va_up (va_up g 290 (xJ S 1920 (cp120 z.2.2.2.2.2.2.2.2.2.2.2.2.1 0 (shE z.2.2.2.2.2.2.2.2.2.2.2.2.2.2.1) (240 * (z.2.2.2.1 - 1))))) 286 (.inr (8, [.int (nI z.1), .int (nI z.2.1), .int z.2.2.1, .int (nI (z.2.2.2.1 - 1)), .ref (E.1 287), .ref (E.1 288), .ref (E.1 289), .ref (E.1 290), .ref (E.1 291), .ref (E.1 292), .ref (E.1 293), .ref (E.1 294), .ref (E.1 295), .ref (E.1 296), .ref (E.1 297), .ref (E.1 298), .int (nI z.2.2.2.2.1), .ref (E.1 299), .ref (E.1 300), .ref (E.1 301), .ref (E.1 302), .int (nI z.2.2.2.2.2.1), .int (nI z.2.2.2.2.2.2.1), .int (nI z.2.2.2.2.2.2.2.1), .ref (E.1 303), .ref (E.1 304), .ref (E.1 305), .ref (E.1 306), .ref (E.1 307), .int (nI z.2.2.2.2.2.2.2.2.1), .int (b2i z.2.2.2.2.2.2.2.2.2.1), .int (b2i z.2.2.2.2.2.2.2.2.2.2.1)]))) from by funext q; simp only [va_up]; (repeat' split) <;> first | rfl | omega) ?_
        refine r_aload_n (pc := 72) C dX8_remember_72 rfl ?_
        refine r_getf (pc := 73) C dX8_remember_73 fl_RX8_28 (Ce.new (Ce.up hM.1 (by decide))) rfl ?_
        refine r_iconst (pc := 76) (v := nI 0) C dX8_remember_76 (by decide +kernel) ?_
        refine r_aload_n (pc := 77) C dX8_remember_77 rfl ?_
        refine r_getf (pc := 78) C dX8_remember_78 fl_RX8_31 (Ce.new (Ce.up hM.1 (by decide))) rfl ?_
        refine r_sipush (pc := 81) (v := nI 240) C dX8_remember_81 (by decide +kernel) ?_
        refine r_aload_n (pc := 84) C dX8_remember_84 rfl ?_
        refine r_getf (pc := 85) C dX8_remember_85 fl_RX8_193 (Ce.new (Ce.up hM.1 (by decide))) rfl ?_
        refine r_imul (pc := 88) C dX8_remember_88 ?_
        refine r_ti (nI (240 * (z.2.2.2.1 - 1))) (pk_mul _ _) ?_
        refine r_bipush (pc := 89) (v := nI 120) C dX8_remember_89 (by decide +kernel) ?_
        refine r_iadd (pc := 91) C dX8_remember_91 ?_
        refine r_ti (nI (240 * (z.2.2.2.1 - 1) + 120)) (nI_add _ _) ?_
        refine r_callS (pc := 92) C dX8_remember_92 cs_RX8_186 (c_X8_copyPair (Ce.up (Ce.up hM.2.2.2.1 (by decide)) (by decide)) (Ce.up (Ce.new hM.2.2.2.2.1) (by decide)) (by decide) 0 (240 * (z.2.2.2.1 - 1) + 120) (by omega) (by omega) (by decide) (by decide)) ⟨rfl, rfl, by decide, by decide⟩ rfl rfl (Nat.le_of_ble_eq_true rfl) ⟨Nat.zero_le _, Nat.zero_le _⟩ ?_
        rintro _ _ ⟨rfl, rfl⟩
        show G M S E (0, 0) (va_up (va_up (va_up g 290 (xJ S 1920 (cp120 z.2.2.2.2.2.2.2.2.2.2.2.2.1 0 (shE z.2.2.2.2.2.2.2.2.2.2.2.2.2.2.1) (240 * (z.2.2.2.1 - 1))))) 286 (.inr (8, [.int (nI z.1), .int (nI z.2.1), .int z.2.2.1, .int (nI (z.2.2.2.1 - 1)), .ref (E.1 287), .ref (E.1 288), .ref (E.1 289), .ref (E.1 290), .ref (E.1 291), .ref (E.1 292), .ref (E.1 293), .ref (E.1 294), .ref (E.1 295), .ref (E.1 296), .ref (E.1 297), .ref (E.1 298), .int (nI z.2.2.2.2.1), .ref (E.1 299), .ref (E.1 300), .ref (E.1 301), .ref (E.1 302), .int (nI z.2.2.2.2.2.1), .int (nI z.2.2.2.2.2.2.1), .int (nI z.2.2.2.2.2.2.2.1), .ref (E.1 303), .ref (E.1 304), .ref (E.1 305), .ref (E.1 306), .ref (E.1 307), .int (nI z.2.2.2.2.2.2.2.2.1), .int (b2i z.2.2.2.2.2.2.2.2.2.1), .int (b2i z.2.2.2.2.2.2.2.2.2.2.1)]))) 290 (xJ S 1920 (reZ (shE z.2.2.2.2.2.2.2.2.2.2.2.2.2.2.1) z.2.2.2.2.2.2.2.2.2.2.2.2.1 z.2.2.2.2.2.2.2.2.2.2.2.2.2.1 (z.2.2.2.1 - 1)))) 95 [some (.ref (E.1 286)), some (.int (nI (240 + 1680)))] []
        refine G.heap (show (va_up (va_up (va_up g 290 (xJ S 1920 (cp120 z.2.2.2.2.2.2.2.2.2.2.2.2.1 0 (shE z.2.2.2.2.2.2.2.2.2.2.2.2.2.2.1) (240 * (z.2.2.2.1 - 1))))) 286 (.inr (8, [.int (nI z.1), .int (nI z.2.1), .int z.2.2.1, .int (nI (z.2.2.2.1 - 1)), .ref (E.1 287), .ref (E.1 288), .ref (E.1 289), .ref (E.1 290), .ref (E.1 291), .ref (E.1 292), .ref (E.1 293), .ref (E.1 294), .ref (E.1 295), .ref (E.1 296), .ref (E.1 297), .ref (E.1 298), .int (nI z.2.2.2.2.1), .ref (E.1 299), .ref (E.1 300), .ref (E.1 301), .ref (E.1 302), .int (nI z.2.2.2.2.2.1), .int (nI z.2.2.2.2.2.2.1), .int (nI z.2.2.2.2.2.2.2.1), .ref (E.1 303), .ref (E.1 304), .ref (E.1 305), .ref (E.1 306), .ref (E.1 307), .int (nI z.2.2.2.2.2.2.2.2.1), .int (b2i z.2.2.2.2.2.2.2.2.2.1), .int (b2i z.2.2.2.2.2.2.2.2.2.2.1)]))) 290 (xJ S 1920 (reZ (shE z.2.2.2.2.2.2.2.2.2.2.2.2.2.2.1) z.2.2.2.2.2.2.2.2.2.2.2.2.1 z.2.2.2.2.2.2.2.2.2.2.2.2.2.1 (z.2.2.2.1 - 1)))) = (va_up (va_up g 290 (xJ S 1920 (reZ (shE z.2.2.2.2.2.2.2.2.2.2.2.2.2.2.1) z.2.2.2.2.2.2.2.2.2.2.2.2.1 z.2.2.2.2.2.2.2.2.2.2.2.2.2.1 (z.2.2.2.1 - 1)))) 286 (.inr (8, [.int (nI z.1), .int (nI z.2.1), .int z.2.2.1, .int (nI (z.2.2.2.1 - 1)), .ref (E.1 287), .ref (E.1 288), .ref (E.1 289), .ref (E.1 290), .ref (E.1 291), .ref (E.1 292), .ref (E.1 293), .ref (E.1 294), .ref (E.1 295), .ref (E.1 296), .ref (E.1 297), .ref (E.1 298), .int (nI z.2.2.2.2.1), .ref (E.1 299), .ref (E.1 300), .ref (E.1 301), .ref (E.1 302), .int (nI z.2.2.2.2.2.1), .int (nI z.2.2.2.2.2.2.1), .int (nI z.2.2.2.2.2.2.2.1), .ref (E.1 303), .ref (E.1 304), .ref (E.1 305), .ref (E.1 306), .ref (E.1 307), .int (nI z.2.2.2.2.2.2.2.2.1), .int (b2i z.2.2.2.2.2.2.2.2.2.1), .int (b2i z.2.2.2.2.2.2.2.2.2.2.1)]))) from by funext q; simp only [va_up]; (repeat' split) <;> first | rfl | omega) ?_
        refine r_aload_n (pc := 95) C dX8_remember_95 rfl ?_
        refine r_dup (pc := 96) C dX8_remember_96 rfl ?_
        refine r_getf (pc := 97) C dX8_remember_97 fl_RX8_193 (Ce.new (Ce.up hM.1 (by decide))) rfl ?_
        refine r_iconst (pc := 100) (v := nI 1) C dX8_remember_100 (by decide +kernel) ?_
        refine r_iadd (pc := 101) C dX8_remember_101 ?_
        refine r_ti (nI (z.2.2.2.1 - 1 + 1)) (nI_add _ _) ?_
        refine r_putf2 (pc := 102) C dX8_remember_102 fp_RX8_193 hM.1.1 rfl rfl (Nat.le_of_ble_eq_true rfl) ?_
        exact r_vret (pc := 105) C Z dX8_remember_105 (by rw [show rmE z.2.2.2.1 z.2.2.2.2.2.2.2.2.2.2.2.2.2.2.1 z.2.2.2.2.2.2.2.2.2.2.2.2.1 z.2.2.2.2.2.2.2.2.2.2.2.2.2.1 = reZ (shE z.2.2.2.2.2.2.2.2.2.2.2.2.2.2.1) z.2.2.2.2.2.2.2.2.2.2.2.2.1 z.2.2.2.2.2.2.2.2.2.2.2.2.2.1 (z.2.2.2.1 - 1) from if_pos h6, show rmN z.2.2.2.1 = z.2.2.2.1 - 1 + 1 from if_pos h6]; exact ⟨(by simp only [MC, s_n, s_r, s_len, s_rem, s_pc, s_hd, s_at_, s_wr, s_cu, s_hs, s_sv, s_fr, s_fa, s_fb, s_fe, s_f1, s_f2, s_f3, s_f4, s_f5, s_f6, s_fp, s_fc, s_wd, s_bg, s_fi, s_fo, s_st, s_ss, s_fl, s_fm, s_fs, s_tnp, s_scr, s_f12, s_wr2, s_u, s_nr, s_rm, s_sp]; exact ⟨(Ce.new (Ce.up hM.1 (by decide))), (Ce.up (Ce.up hM.2.1 (by decide)) (by decide)), (Ce.up (Ce.up hM.2.2.1 (by decide)) (by decide)), (Ce.up (Ce.up hM.2.2.2.1 (by decide)) (by decide)), (Ce.up (Ce.new hM.2.2.2.2.1) (by decide)), (Ce.up (Ce.up hM.2.2.2.2.2.1 (by decide)) (by decide)), (Ce.up (Ce.up hM.2.2.2.2.2.2.1 (by decide)) (by decide)), (Ce.up (Ce.up hM.2.2.2.2.2.2.2.1 (by decide)) (by decide)), (Ce.up (Ce.up hM.2.2.2.2.2.2.2.2.1 (by decide)) (by decide)), (Ce.up (Ce.up hM.2.2.2.2.2.2.2.2.2.1 (by decide)) (by decide)), (Ce.up (Ce.up hM.2.2.2.2.2.2.2.2.2.2.1 (by decide)) (by decide)), (Ce.up (Ce.up hM.2.2.2.2.2.2.2.2.2.2.2.1 (by decide)) (by decide)), (Ce.up (Ce.up hM.2.2.2.2.2.2.2.2.2.2.2.2.1 (by decide)) (by decide)), (Ce.up (Ce.up hM.2.2.2.2.2.2.2.2.2.2.2.2.2.1 (by decide)) (by decide)), (Ce.up (Ce.up hM.2.2.2.2.2.2.2.2.2.2.2.2.2.2.1 (by decide)) (by decide)), (Ce.up (Ce.up hM.2.2.2.2.2.2.2.2.2.2.2.2.2.2.2.1 (by decide)) (by decide)), (Ce.up (Ce.up hM.2.2.2.2.2.2.2.2.2.2.2.2.2.2.2.2.1 (by decide)) (by decide)), (Ce.up (Ce.up hM.2.2.2.2.2.2.2.2.2.2.2.2.2.2.2.2.2.1 (by decide)) (by decide)), (Ce.up (Ce.up hM.2.2.2.2.2.2.2.2.2.2.2.2.2.2.2.2.2.2.1 (by decide)) (by decide)), (Ce.up (Ce.up hM.2.2.2.2.2.2.2.2.2.2.2.2.2.2.2.2.2.2.2.1 (by decide)) (by decide)), (Ce.up (Ce.up hM.2.2.2.2.2.2.2.2.2.2.2.2.2.2.2.2.2.2.2.2.1 (by decide)) (by decide)), (Ce.up (Ce.up hM.2.2.2.2.2.2.2.2.2.2.2.2.2.2.2.2.2.2.2.2.2 (by decide)) (by decide))⟩), ((Fr.rf.up (by omega) (by omega)).up (by omega) (by omega))⟩)
      · have h17 := c_nle (by omega) (by omega) h17
        omega
    · show G M S E (0, 0) (va_up g 290 (xJ S 1920 (it (fun t h => vp_updL h (240 + t - 240) (h (240 + t))) t2 z.2.2.2.2.2.2.2.2.2.2.2.2.2.2.1))) 13 [some (.ref (E.1 286)), some (.int (nI (240 + t2)))] []
      refine r_iload_n (pc := 13) C dX8_remember_13 rfl ?_
      refine r_sipush (pc := 14) (v := nI 1920) C dX8_remember_14 (by decide +kernel) ?_
      refine r_icmp_ge (pc := 17) (tgt := 42) C dX8_remember_17 (by decide) (fun h17 => ?_) (fun h17 => ?_)
      · have h17 := c_le (by omega) (by omega) h17
        omega
      · have h17 := c_nle (by omega) (by omega) h17
        refine r_aload_n (pc := 20) C dX8_remember_20 rfl ?_
        refine r_getf (pc := 21) C dX8_remember_21 fl_RX8_31 (Ce.up hM.1 (by decide)) rfl ?_
        refine r_iload_n (pc := 24) C dX8_remember_24 rfl ?_
        refine r_sipush (pc := 25) (v := nI 240) C dX8_remember_25 (by decide +kernel) ?_
        refine r_isub (pc := 28) C dX8_remember_28 ?_
        refine r_ti (nI (240 + t2 - 240)) (pk_sub (by omega)) ?_
        refine r_aload_n (pc := 29) C dX8_remember_29 rfl ?_
        refine r_getf (pc := 30) C dX8_remember_30 fl_RX8_31 (Ce.up hM.1 (by decide)) rfl ?_
        refine r_iload_n (pc := 33) C dX8_remember_33 rfl ?_
        refine r_lald (pc := 34) C dX8_remember_34 (Ce.new hM.2.2.2.2.1) rfl (by omega) (by omega) ?_
        refine r_last2 (pc := 35) C dX8_remember_35 hM.2.2.2.2.1.1 rfl (by omega) (by omega) ?_
        refine r_iinc (pc := 36) (v := nI (240 + t2 + 1)) C dX8_remember_36 rfl (nI_i1 _) (by decide) ?_
        refine G.eq (pc' := 39) (vs' := [some (.ref (E.1 286)), some (.int (nI (240 + t2 + 1)))]) (st' := []) ?_
        refine r_goto (pc := 39) (tgt := 13) C dX8_remember_39 (by decide) ?_
        exact ih
set_option maxHeartbeats 4000000 in
set_option maxRecDepth 100000 in
theorem c_X8_undoStep {S : ST} {E : ET} {g : Nat → va_E} {z : MZ} (hM : MC S E g z) (hm : z.2.2.2.1 ≤ 8) : CtI S E yX8_undoStep cX8_undoStep 1 (Option.some FieldType.int) rmX8_undoStep [.ref (E.1 286)] g (fun u g' => u = (qUnd z).1 ∧ MC S E g' (qUnd z).2 ∧ Fr g g' 286 308) := by
  refine Ct.of RX8 (by decide +kernel) rfl (Nat.le_of_ble_eq_true rfl) (fun M C Z => ?_)
  refine G.eq (pc' := 0) (vs' := [some (.ref (E.1 286))]) (st' := []) ?_
  refine r_aload_n (pc := 0) C dX8_undoStep_0 rfl ?_
  refine r_getf (pc := 1) C dX8_undoStep_1 fl_RX8_193 hM.1 rfl ?_
  refine r_if_ne (pc := 4) (tgt := 10) C dX8_undoStep_4 (by decide) (fun h4 => ?_) (fun h4 => ?_)
  · have h4 := z_ne (by omega) h4
    refine r_aload_n (pc := 10) C dX8_undoStep_10 rfl ?_
    refine r_dup (pc := 11) C dX8_undoStep_11 rfl ?_
    refine r_getf (pc := 12) C dX8_undoStep_12 fl_RX8_193 hM.1 rfl ?_
    refine r_iconst (pc := 15) (v := nI 1) C dX8_undoStep_15 (by decide +kernel) ?_
    refine r_isub (pc := 16) C dX8_undoStep_16 ?_
    refine r_ti (nI (z.2.2.2.1 - 1)) (pk_sub (by omega)) ?_
    refine r_putf (pc := 17) C dX8_undoStep_17 fp_RX8_193 hM.1 rfl rfl (Nat.le_of_ble_eq_true rfl) ?_
    refine r_aload_n (pc := 20) C dX8_undoStep_20 rfl ?_
    refine r_getf (pc := 21) C dX8_undoStep_21 fl_RX8_31 (Ce.new hM.1) rfl ?_
    refine r_sipush (pc := 24) (v := nI 240) C dX8_undoStep_24 (by decide +kernel) ?_
    refine r_aload_n (pc := 27) C dX8_undoStep_27 rfl ?_
    refine r_getf (pc := 28) C dX8_undoStep_28 fl_RX8_193 (Ce.new hM.1) rfl ?_
    refine r_imul (pc := 31) C dX8_undoStep_31 ?_
    refine r_ti (nI (240 * (z.2.2.2.1 - 1))) (pk_mul _ _) ?_
    refine r_aload_n (pc := 32) C dX8_undoStep_32 rfl ?_
    refine r_getf (pc := 33) C dX8_undoStep_33 fl_RX8_25 (Ce.new hM.1) rfl ?_
    refine r_iconst (pc := 36) (v := nI 0) C dX8_undoStep_36 (by decide +kernel) ?_
    refine r_callS (pc := 37) C dX8_undoStep_37 cs_RX8_186 (c_X8_copyPair (Ce.up hM.2.2.2.2.1 (by decide)) (Ce.up hM.2.2.1 (by decide)) (by decide) (240 * (z.2.2.2.1 - 1)) 0 (by omega) (by omega) (by decide) (by decide)) ⟨rfl, rfl, by decide, by decide⟩ rfl rfl (Nat.le_of_ble_eq_true rfl) ⟨Nat.zero_le _, Nat.zero_le _⟩ ?_
    rintro _ _ ⟨rfl, rfl⟩
    show G M S E (0, 0) (va_up (va_up g 286 (.inr (8, [.int (nI z.1), .int (nI z.2.1), .int z.2.2.1, .int (nI (z.2.2.2.1 - 1)), .ref (E.1 287), .ref (E.1 288), .ref (E.1 289), .ref (E.1 290), .ref (E.1 291), .ref (E.1 292), .ref (E.1 293), .ref (E.1 294), .ref (E.1 295), .ref (E.1 296), .ref (E.1 297), .ref (E.1 298), .int (nI z.2.2.2.2.1), .ref (E.1 299), .ref (E.1 300), .ref (E.1 301), .ref (E.1 302), .int (nI z.2.2.2.2.2.1), .int (nI z.2.2.2.2.2.2.1), .int (nI z.2.2.2.2.2.2.2.1), .ref (E.1 303), .ref (E.1 304), .ref (E.1 305), .ref (E.1 306), .ref (E.1 307), .int (nI z.2.2.2.2.2.2.2.2.1), .int (b2i z.2.2.2.2.2.2.2.2.2.1), .int (b2i z.2.2.2.2.2.2.2.2.2.2.1)]))) 288 (xJ S 120 (cp120 z.2.2.2.2.2.2.2.2.2.2.2.2.2.2.1 (240 * (z.2.2.2.1 - 1)) z.2.2.2.2.2.2.2.2.2.2.2.2.1 0))) 40 [some (.ref (E.1 286))] []
    refine r_aload_n (pc := 40) C dX8_undoStep_40 rfl ?_
    refine r_getf (pc := 41) C dX8_undoStep_41 fl_RX8_31 (Ce.up (Ce.new hM.1) (by decide)) rfl ?_
    refine r_sipush (pc := 44) (v := nI 240) C dX8_undoStep_44 (by decide +kernel) ?_
    refine r_aload_n (pc := 47) C dX8_undoStep_47 rfl ?_
    refine r_getf (pc := 48) C dX8_undoStep_48 fl_RX8_193 (Ce.up (Ce.new hM.1) (by decide)) rfl ?_
    refine r_imul (pc := 51) C dX8_undoStep_51 ?_
    refine r_ti (nI (240 * (z.2.2.2.1 - 1))) (pk_mul _ _) ?_
    refine r_bipush (pc := 52) (v := nI 120) C dX8_undoStep_52 (by decide +kernel) ?_
    refine r_iadd (pc := 54) C dX8_undoStep_54 ?_
    refine r_ti (nI (240 * (z.2.2.2.1 - 1) + 120)) (nI_add _ _) ?_
    refine r_aload_n (pc := 55) C dX8_undoStep_55 rfl ?_
    refine r_getf (pc := 56) C dX8_undoStep_56 fl_RX8_28 (Ce.up (Ce.new hM.1) (by decide)) rfl ?_
    refine r_iconst (pc := 59) (v := nI 0) C dX8_undoStep_59 (by decide +kernel) ?_
    refine r_callS (pc := 60) C dX8_undoStep_60 cs_RX8_186 (c_X8_copyPair (Ce.up (Ce.up hM.2.2.2.2.1 (by decide)) (by decide)) (Ce.up (Ce.up hM.2.2.2.1 (by decide)) (by decide)) (by decide) (240 * (z.2.2.2.1 - 1) + 120) 0 (by omega) (by omega) (by decide) (by decide)) ⟨rfl, rfl, by decide, by decide⟩ rfl rfl (Nat.le_of_ble_eq_true rfl) ⟨Nat.zero_le _, Nat.zero_le _⟩ ?_
    rintro _ _ ⟨rfl, rfl⟩
    show G M S E (0, 0) (va_up (va_up (va_up g 286 (.inr (8, [.int (nI z.1), .int (nI z.2.1), .int z.2.2.1, .int (nI (z.2.2.2.1 - 1)), .ref (E.1 287), .ref (E.1 288), .ref (E.1 289), .ref (E.1 290), .ref (E.1 291), .ref (E.1 292), .ref (E.1 293), .ref (E.1 294), .ref (E.1 295), .ref (E.1 296), .ref (E.1 297), .ref (E.1 298), .int (nI z.2.2.2.2.1), .ref (E.1 299), .ref (E.1 300), .ref (E.1 301), .ref (E.1 302), .int (nI z.2.2.2.2.2.1), .int (nI z.2.2.2.2.2.2.1), .int (nI z.2.2.2.2.2.2.2.1), .ref (E.1 303), .ref (E.1 304), .ref (E.1 305), .ref (E.1 306), .ref (E.1 307), .int (nI z.2.2.2.2.2.2.2.2.1), .int (b2i z.2.2.2.2.2.2.2.2.2.1), .int (b2i z.2.2.2.2.2.2.2.2.2.2.1)]))) 288 (xJ S 120 (cp120 z.2.2.2.2.2.2.2.2.2.2.2.2.2.2.1 (240 * (z.2.2.2.1 - 1)) z.2.2.2.2.2.2.2.2.2.2.2.2.1 0))) 289 (xJ S 120 (cp120 z.2.2.2.2.2.2.2.2.2.2.2.2.2.2.1 (240 * (z.2.2.2.1 - 1) + 120) z.2.2.2.2.2.2.2.2.2.2.2.2.2.1 0))) 63 [some (.ref (E.1 286))] []
    refine r_aload_n (pc := 63) C dX8_undoStep_63 rfl ?_
    refine r_dup (pc := 64) C dX8_undoStep_64 rfl ?_
    refine r_getf (pc := 65) C dX8_undoStep_65 fl_RX8_190 (Ce.up (Ce.up (Ce.new hM.1) (by decide)) (by decide)) rfl ?_
    refine r_iconst (pc := 68) (v := nI 1) C dX8_undoStep_68 (by decide +kernel) ?_
    refine r_isub (pc := 69) C dX8_undoStep_69 ?_
    refine r_putf (pc := 70) C dX8_undoStep_70 fp_RX8_190 (Ce.up (Ce.up (Ce.new hM.1) (by decide)) (by decide)) rfl rfl (Nat.le_of_ble_eq_true rfl) ?_
    refine r_aload_n (pc := 73) C dX8_undoStep_73 rfl ?_
    refine r_getf (pc := 74) C dX8_undoStep_74 fl_RX8_190 (Ce.new (Ce.up (Ce.up (Ce.new hM.1) (by decide)) (by decide))) rfl ?_
    exact r_iret (pc := 77) C Z dX8_undoStep_77 rfl (by rw [show qUnd z = _ from if_neg h4]; exact ⟨rfl, (by simp only [MC, s_n, s_r, s_len, s_rem, s_pc, s_hd, s_at_, s_wr, s_cu, s_hs, s_sv, s_fr, s_fa, s_fb, s_fe, s_f1, s_f2, s_f3, s_f4, s_f5, s_f6, s_fp, s_fc, s_wd, s_bg, s_fi, s_fo, s_st, s_ss, s_fl, s_fm, s_fs, s_tnp, s_scr, s_f12, s_wr2, s_u, s_nr, s_rm, s_sp]; exact ⟨(Ce.new (Ce.up (Ce.up (Ce.new hM.1) (by decide)) (by decide))), (Ce.up (Ce.up (Ce.up (Ce.up hM.2.1 (by decide)) (by decide)) (by decide)) (by decide)), (Ce.up (Ce.up (Ce.new (Ce.up hM.2.2.1 (by decide))) (by decide)) (by decide)), (Ce.up (Ce.new (Ce.up (Ce.up hM.2.2.2.1 (by decide)) (by decide))) (by decide)), (Ce.up (Ce.up (Ce.up (Ce.up hM.2.2.2.2.1 (by decide)) (by decide)) (by decide)) (by decide)), (Ce.up (Ce.up (Ce.up (Ce.up hM.2.2.2.2.2.1 (by decide)) (by decide)) (by decide)) (by decide)), (Ce.up (Ce.up (Ce.up (Ce.up hM.2.2.2.2.2.2.1 (by decide)) (by decide)) (by decide)) (by decide)), (Ce.up (Ce.up (Ce.up (Ce.up hM.2.2.2.2.2.2.2.1 (by decide)) (by decide)) (by decide)) (by decide)), (Ce.up (Ce.up (Ce.up (Ce.up hM.2.2.2.2.2.2.2.2.1 (by decide)) (by decide)) (by decide)) (by decide)), (Ce.up (Ce.up (Ce.up (Ce.up hM.2.2.2.2.2.2.2.2.2.1 (by decide)) (by decide)) (by decide)) (by decide)), (Ce.up (Ce.up (Ce.up (Ce.up hM.2.2.2.2.2.2.2.2.2.2.1 (by decide)) (by decide)) (by decide)) (by decide)), (Ce.up (Ce.up (Ce.up (Ce.up hM.2.2.2.2.2.2.2.2.2.2.2.1 (by decide)) (by decide)) (by decide)) (by decide)), (Ce.up (Ce.up (Ce.up (Ce.up hM.2.2.2.2.2.2.2.2.2.2.2.2.1 (by decide)) (by decide)) (by decide)) (by decide)), (Ce.up (Ce.up (Ce.up (Ce.up hM.2.2.2.2.2.2.2.2.2.2.2.2.2.1 (by decide)) (by decide)) (by decide)) (by decide)), (Ce.up (Ce.up (Ce.up (Ce.up hM.2.2.2.2.2.2.2.2.2.2.2.2.2.2.1 (by decide)) (by decide)) (by decide)) (by decide)), (Ce.up (Ce.up (Ce.up (Ce.up hM.2.2.2.2.2.2.2.2.2.2.2.2.2.2.2.1 (by decide)) (by decide)) (by decide)) (by decide)), (Ce.up (Ce.up (Ce.up (Ce.up hM.2.2.2.2.2.2.2.2.2.2.2.2.2.2.2.2.1 (by decide)) (by decide)) (by decide)) (by decide)), (Ce.up (Ce.up (Ce.up (Ce.up hM.2.2.2.2.2.2.2.2.2.2.2.2.2.2.2.2.2.1 (by decide)) (by decide)) (by decide)) (by decide)), (Ce.up (Ce.up (Ce.up (Ce.up hM.2.2.2.2.2.2.2.2.2.2.2.2.2.2.2.2.2.2.1 (by decide)) (by decide)) (by decide)) (by decide)), (Ce.up (Ce.up (Ce.up (Ce.up hM.2.2.2.2.2.2.2.2.2.2.2.2.2.2.2.2.2.2.2.1 (by decide)) (by decide)) (by decide)) (by decide)), (Ce.up (Ce.up (Ce.up (Ce.up hM.2.2.2.2.2.2.2.2.2.2.2.2.2.2.2.2.2.2.2.2.1 (by decide)) (by decide)) (by decide)) (by decide)), (Ce.up (Ce.up (Ce.up (Ce.up hM.2.2.2.2.2.2.2.2.2.2.2.2.2.2.2.2.2.2.2.2.2 (by decide)) (by decide)) (by decide)) (by decide))⟩), ((((Fr.rf.up (by omega) (by omega)).up (by omega) (by omega)).up (by omega) (by omega)).up (by omega) (by omega))⟩)
  · have h4 := z_eq (by omega) h4
    refine r_bipush (pc := 7) (v := (-5)) C dX8_undoStep_7 (by decide +kernel) ?_
    exact r_iret (pc := 9) C Z dX8_undoStep_9 rfl (by rw [show qUnd z = (-5, z) from if_pos h4]; exact ⟨rfl, hM, Fr.rf⟩)
def s_st6 (z : MZ) (a b e : Nat → Int64) (l : Int32) (k : Nat) (a2 a3 a4 a5 : Nat → Int64) : MZ := (z.1, z.2.1, l, k, z.2.2.2.2.1, z.2.2.2.2.2.1, z.2.2.2.2.2.2.1, z.2.2.2.2.2.2.2.1, z.2.2.2.2.2.2.2.2.1, z.2.2.2.2.2.2.2.2.2.1, z.2.2.2.2.2.2.2.2.2.2.1, z.2.2.2.2.2.2.2.2.2.2.2.1, a, b, e, z.2.2.2.2.2.2.2.2.2.2.2.2.2.2.2.1, a2, a3, a4, a5, z.2.2.2.2.2.2.2.2.2.2.2.2.2.2.2.2.2.2.2.2.1, z.2.2.2.2.2.2.2.2.2.2.2.2.2.2.2.2.2.2.2.2.2.1, z.2.2.2.2.2.2.2.2.2.2.2.2.2.2.2.2.2.2.2.2.2.2.1, z.2.2.2.2.2.2.2.2.2.2.2.2.2.2.2.2.2.2.2.2.2.2.2.1, z.2.2.2.2.2.2.2.2.2.2.2.2.2.2.2.2.2.2.2.2.2.2.2.2.1, z.2.2.2.2.2.2.2.2.2.2.2.2.2.2.2.2.2.2.2.2.2.2.2.2.2.1, z.2.2.2.2.2.2.2.2.2.2.2.2.2.2.2.2.2.2.2.2.2.2.2.2.2.2.1, z.2.2.2.2.2.2.2.2.2.2.2.2.2.2.2.2.2.2.2.2.2.2.2.2.2.2.2.1, z.2.2.2.2.2.2.2.2.2.2.2.2.2.2.2.2.2.2.2.2.2.2.2.2.2.2.2.2.1, z.2.2.2.2.2.2.2.2.2.2.2.2.2.2.2.2.2.2.2.2.2.2.2.2.2.2.2.2.2.1, z.2.2.2.2.2.2.2.2.2.2.2.2.2.2.2.2.2.2.2.2.2.2.2.2.2.2.2.2.2.2.1, z.2.2.2.2.2.2.2.2.2.2.2.2.2.2.2.2.2.2.2.2.2.2.2.2.2.2.2.2.2.2.2)
set_option maxHeartbeats 4000000 in
set_option maxRecDepth 100000 in
theorem c_X8_step {S : ST} {E : ET} {g : Nat → va_E} {z : MZ} (hM : MC S E g z) (h4 : 4 ≤ z.1) (hN : z.1 ≤ 24) (hr : z.2.1 ≤ 1) (hm : z.2.2.2.1 ≤ 8) : CtI S E yX8_step cX8_step 5 (Option.some FieldType.int) rmX8_step [.ref (E.1 286)] g (fun u g' => u = (qStp z).1 ∧ (∃ z', MC S E g' z' ∧ Sv z' (qStp z).2) ∧ Fr g g' 286 308) := by
  refine Ct.of RX8 (by decide +kernel) rfl (Nat.le_of_ble_eq_true rfl) (fun M C Z => ?_)
  refine G.eq (pc' := 0) (vs' := [some (.ref (E.1 286)), none, none, none, none]) (st' := []) ?_
  refine r_iconst (pc := 0) (v := nI 1) C dX8_step_0 (by decide +kernel) ?_
  refine r_istore_n (pc := 1) C dX8_step_1 (by decide) ?_
  refine G.eq (pc' := 2) (vs' := [some (.ref (E.1 286)), some (.int (nI 1)), none, none, none]) (st' := []) ?_
  refine r_iconst (pc := 2) (v := nI 0) C dX8_step_2 (by decide +kernel) ?_
  refine r_istore_n (pc := 3) C dX8_step_3 (by decide) ?_
  refine G.eq (pc' := 4) (vs' := [some (.ref (E.1 286)), some (.int (nI 1)), some (.int (nI 0)), none, none]) (st' := []) ?_
  refine bk (P := fun t => ∀ h : Nat → va_E, ((∃ a2 a3 : Nat → Int64, MC S E h (s_scr z a2 a3 (saZ z.1 z.2.1 z.2.2.2.2.2.2.2.2.2.2.2.2.1 z.2.2.2.2.2.2.2.2.2.2.2.2.2.2.2.2.2.2.1 t) (snB z.1 z.2.1 z.2.2.2.2.2.2.2.2.2.2.2.2.2.1 z.2.2.2.2.2.2.2.2.2.2.2.2.2.2.2.2.2.2.2.1 t))) ∧ Fr g h 286 308) → G M S E (0, 0) h 4 [some (.ref (E.1 286)), some (.int (b2i (allB (fun i => fitB 24 (sbS z.1 z.2.1 z.2.2.2.2.2.2.2.2.2.2.2.2.2.1 i (i + 1))) t))), some (.int (nI t)), none, none] []) (T := 5) (fun h hI => ?_) (fun t ht ih h hI => ?_) _ (⟨⟨z.2.2.2.2.2.2.2.2.2.2.2.2.2.2.2.2.1, z.2.2.2.2.2.2.2.2.2.2.2.2.2.2.2.2.2.1, (by simp only [MC, s_n, s_r, s_len, s_rem, s_pc, s_hd, s_at_, s_wr, s_cu, s_hs, s_sv, s_fr, s_fa, s_fb, s_fe, s_f1, s_f2, s_f3, s_f4, s_f5, s_f6, s_fp, s_fc, s_wd, s_bg, s_fi, s_fo, s_st, s_ss, s_fl, s_fm, s_fs, s_tnp, s_scr, s_f12, s_wr2, s_u, s_nr, s_rm, s_sp, s_st6]; exact ⟨hM.1, hM.2.1, hM.2.2.1, hM.2.2.2.1, hM.2.2.2.2.1, hM.2.2.2.2.2.1, hM.2.2.2.2.2.2.1, hM.2.2.2.2.2.2.2.1, hM.2.2.2.2.2.2.2.2.1, hM.2.2.2.2.2.2.2.2.2.1, hM.2.2.2.2.2.2.2.2.2.2.1, hM.2.2.2.2.2.2.2.2.2.2.2.1, hM.2.2.2.2.2.2.2.2.2.2.2.2.1, hM.2.2.2.2.2.2.2.2.2.2.2.2.2.1, hM.2.2.2.2.2.2.2.2.2.2.2.2.2.2.1, hM.2.2.2.2.2.2.2.2.2.2.2.2.2.2.2.1, hM.2.2.2.2.2.2.2.2.2.2.2.2.2.2.2.2.1, hM.2.2.2.2.2.2.2.2.2.2.2.2.2.2.2.2.2.1, hM.2.2.2.2.2.2.2.2.2.2.2.2.2.2.2.2.2.2.1, hM.2.2.2.2.2.2.2.2.2.2.2.2.2.2.2.2.2.2.2.1, hM.2.2.2.2.2.2.2.2.2.2.2.2.2.2.2.2.2.2.2.2.1, hM.2.2.2.2.2.2.2.2.2.2.2.2.2.2.2.2.2.2.2.2.2⟩)⟩, Fr.rf⟩)
  · obtain ⟨⟨a2, a3, hM⟩, hf⟩ := hI
    show G M S E (0, 0) h 4 [some (.ref (E.1 286)), some (.int (b2i (allB (fun i => fitB 24 (sbS z.1 z.2.1 z.2.2.2.2.2.2.2.2.2.2.2.2.2.1 i (i + 1))) 5))), some (.int (nI 5)), none, none] []
    have hM0 := hM
    simp only [MC, s_scr] at hM
    refine r_iload_n (pc := 4) C dX8_step_4 rfl ?_
    refine r_iconst (pc := 5) (v := nI 5) C dX8_step_5 (by decide +kernel) ?_
    refine r_icmp_ge (pc := 6) (tgt := 132) C dX8_step_6 (by decide) (fun h6 => ?_) (fun h6 => ?_)
    · have h6 := c_le (by omega) (by omega) h6
      refine r_iload_n (pc := 132) C dX8_step_132 rfl ?_
      refine r_if_ne (pc := 133) (tgt := 139) C dX8_step_133 (by decide) (fun h133 => ?_) (fun h133 => ?_)
      · have h133 := b_t h133
        refine r_aload_n (pc := 139) C dX8_step_139 rfl ?_
        refine r_callV (pc := 140) C dX8_step_140 cv_RX8_213 (c_X8_remember hM0 (show z.2.2.2.1 ≤ 8 from hm)) ⟨rfl, rfl, by decide, by decide⟩ hM.1 rfl rfl (Nat.le_of_ble_eq_true rfl) ⟨Nat.zero_le _, Nat.zero_le _⟩ ?_
        rintro _ g2 ⟨rfl, hM2, hF2⟩
        show G M S E (0, 0) g2 143 [some (.ref (E.1 286)), some (.int (b2i (allB (fun i => fitB 24 (sbS z.1 z.2.1 z.2.2.2.2.2.2.2.2.2.2.2.2.2.1 i (i + 1))) 5))), some (.int (nI 5)), none, none] []
        have hM2 : MC S E g2 (s_st6 z z.2.2.2.2.2.2.2.2.2.2.2.2.1 z.2.2.2.2.2.2.2.2.2.2.2.2.2.1 (rmE z.2.2.2.1 z.2.2.2.2.2.2.2.2.2.2.2.2.2.2.1 z.2.2.2.2.2.2.2.2.2.2.2.2.1 z.2.2.2.2.2.2.2.2.2.2.2.2.2.1) z.2.2.1 (rmN z.2.2.2.1) a2 a3 (saZ z.1 z.2.1 z.2.2.2.2.2.2.2.2.2.2.2.2.1 z.2.2.2.2.2.2.2.2.2.2.2.2.2.2.2.2.2.2.1 5) (snB z.1 z.2.1 z.2.2.2.2.2.2.2.2.2.2.2.2.2.1 z.2.2.2.2.2.2.2.2.2.2.2.2.2.2.2.2.2.2.2.1 5)) := by simp only [MC, s_scr, s_rm] at hM2; simp only [MC, s_st6]; exact hM2
        simp only [MC, s_st6] at hM2
        refine r_aload_n (pc := 143) C dX8_step_143 rfl ?_
        refine r_getf (pc := 144) C dX8_step_144 fl_RX8_43 hM2.1 rfl ?_
        refine r_iconst (pc := 147) (v := nI 0) C dX8_step_147 (by decide +kernel) ?_
        refine r_aload_n (pc := 148) C dX8_step_148 rfl ?_
        refine r_getf (pc := 149) C dX8_step_149 fl_RX8_25 hM2.1 rfl ?_
        refine r_iconst (pc := 152) (v := nI 0) C dX8_step_152 (by decide +kernel) ?_
        refine r_callS (pc := 153) C dX8_step_153 cs_RX8_186 (c_X8_copyPair hM2.2.2.2.2.2.2.2.2.1 hM2.2.2.1 (by decide) 0 0 (by omega) (by omega) (by decide) (by decide)) ⟨rfl, rfl, by decide, by decide⟩ rfl rfl (Nat.le_of_ble_eq_true rfl) ⟨Nat.zero_le _, Nat.zero_le _⟩ ?_
        rintro _ _ ⟨rfl, rfl⟩
        show G M S E (0, 0) (va_up g2 288 (xJ S 120 (cp120 (saZ z.1 z.2.1 z.2.2.2.2.2.2.2.2.2.2.2.2.1 z.2.2.2.2.2.2.2.2.2.2.2.2.2.2.2.2.2.2.1 5) 0 z.2.2.2.2.2.2.2.2.2.2.2.2.1 0))) 156 [some (.ref (E.1 286)), some (.int (b2i (allB (fun i => fitB 24 (sbS z.1 z.2.1 z.2.2.2.2.2.2.2.2.2.2.2.2.2.1 i (i + 1))) 5))), some (.int (nI 5)), none, none] []
        refine r_aload_n (pc := 156) C dX8_step_156 rfl ?_
        refine r_getf (pc := 157) C dX8_step_157 fl_RX8_46 (Ce.up hM2.1 (by decide)) rfl ?_
        refine r_iconst (pc := 160) (v := nI 0) C dX8_step_160 (by decide +kernel) ?_
        refine r_aload_n (pc := 161) C dX8_step_161 rfl ?_
        refine r_getf (pc := 162) C dX8_step_162 fl_RX8_28 (Ce.up hM2.1 (by decide)) rfl ?_
        refine r_iconst (pc := 165) (v := nI 0) C dX8_step_165 (by decide +kernel) ?_
        refine r_callS (pc := 166) C dX8_step_166 cs_RX8_186 (c_X8_copyPair (Ce.up hM2.2.2.2.2.2.2.2.2.2.1 (by decide)) (Ce.up hM2.2.2.2.1 (by decide)) (by decide) 0 0 (by omega) (by omega) (by decide) (by decide)) ⟨rfl, rfl, by decide, by decide⟩ rfl rfl (Nat.le_of_ble_eq_true rfl) ⟨Nat.zero_le _, Nat.zero_le _⟩ ?_
        rintro _ _ ⟨rfl, rfl⟩
        show G M S E (0, 0) (va_up (va_up g2 288 (xJ S 120 (cp120 (saZ z.1 z.2.1 z.2.2.2.2.2.2.2.2.2.2.2.2.1 z.2.2.2.2.2.2.2.2.2.2.2.2.2.2.2.2.2.2.1 5) 0 z.2.2.2.2.2.2.2.2.2.2.2.2.1 0))) 289 (xJ S 120 (cp120 (snB z.1 z.2.1 z.2.2.2.2.2.2.2.2.2.2.2.2.2.1 z.2.2.2.2.2.2.2.2.2.2.2.2.2.2.2.2.2.2.2.1 5) 0 z.2.2.2.2.2.2.2.2.2.2.2.2.2.1 0))) 169 [some (.ref (E.1 286)), some (.int (b2i (allB (fun i => fitB 24 (sbS z.1 z.2.1 z.2.2.2.2.2.2.2.2.2.2.2.2.2.1 i (i + 1))) 5))), some (.int (nI 5)), none, none] []
        refine r_aload_n (pc := 169) C dX8_step_169 rfl ?_
        refine r_dup (pc := 170) C dX8_step_170 rfl ?_
        refine r_getf (pc := 171) C dX8_step_171 fl_RX8_190 (Ce.up (Ce.up hM2.1 (by decide)) (by decide)) rfl ?_
        refine r_iconst (pc := 174) (v := nI 1) C dX8_step_174 (by decide +kernel) ?_
        refine r_iadd (pc := 175) C dX8_step_175 ?_
        refine r_putf (pc := 176) C dX8_step_176 fp_RX8_190 (Ce.up (Ce.up hM2.1 (by decide)) (by decide)) rfl rfl (Nat.le_of_ble_eq_true rfl) ?_
        refine r_aload_n (pc := 179) C dX8_step_179 rfl ?_
        refine r_getf (pc := 180) C dX8_step_180 fl_RX8_190 (Ce.new (Ce.up (Ce.up hM2.1 (by decide)) (by decide))) rfl ?_
        exact r_iret (pc := 183) C Z dX8_step_183 rfl (by rw [show qStp z = _ by unfold qStp; rw [show sOkZ z.1 z.2.1 z.2.2.2.2.2.2.2.2.2.2.2.2.2.1 = true from h133, cond_true]]; exact ⟨rfl, ⟨s_st6 z (cp120 (saZ z.1 z.2.1 z.2.2.2.2.2.2.2.2.2.2.2.2.1 z.2.2.2.2.2.2.2.2.2.2.2.2.2.2.2.2.2.2.1 5) 0 z.2.2.2.2.2.2.2.2.2.2.2.2.1 0) (cp120 (snB z.1 z.2.1 z.2.2.2.2.2.2.2.2.2.2.2.2.2.1 z.2.2.2.2.2.2.2.2.2.2.2.2.2.2.2.2.2.2.2.1 5) 0 z.2.2.2.2.2.2.2.2.2.2.2.2.2.1 0) (rmE z.2.2.2.1 z.2.2.2.2.2.2.2.2.2.2.2.2.2.2.1 z.2.2.2.2.2.2.2.2.2.2.2.2.1 z.2.2.2.2.2.2.2.2.2.2.2.2.2.1) (z.2.2.1 + nI 1) (rmN z.2.2.2.1) a2 a3 (saZ z.1 z.2.1 z.2.2.2.2.2.2.2.2.2.2.2.2.1 z.2.2.2.2.2.2.2.2.2.2.2.2.2.2.2.2.2.2.1 5) (snB z.1 z.2.1 z.2.2.2.2.2.2.2.2.2.2.2.2.2.1 z.2.2.2.2.2.2.2.2.2.2.2.2.2.2.2.2.2.2.2.1 5), (by simp only [MC, s_n, s_r, s_len, s_rem, s_pc, s_hd, s_at_, s_wr, s_cu, s_hs, s_sv, s_fr, s_fa, s_fb, s_fe, s_f1, s_f2, s_f3, s_f4, s_f5, s_f6, s_fp, s_fc, s_wd, s_bg, s_fi, s_fo, s_st, s_ss, s_fl, s_fm, s_fs, s_tnp, s_scr, s_f12, s_wr2, s_u, s_nr, s_rm, s_sp, s_st6]; exact ⟨(Ce.new (Ce.up (Ce.up hM2.1 (by decide)) (by decide))), (Ce.up (Ce.up (Ce.up hM2.2.1 (by decide)) (by decide)) (by decide)), (Ce.up (Ce.up (Ce.new hM2.2.2.1) (by decide)) (by decide)), (Ce.up (Ce.new (Ce.up hM2.2.2.2.1 (by decide))) (by decide)), (Ce.up (Ce.up (Ce.up hM2.2.2.2.2.1 (by decide)) (by decide)) (by decide)), (Ce.up (Ce.up (Ce.up hM2.2.2.2.2.2.1 (by decide)) (by decide)) (by decide)), (Ce.up (Ce.up (Ce.up hM2.2.2.2.2.2.2.1 (by decide)) (by decide)) (by decide)), (Ce.up (Ce.up (Ce.up hM2.2.2.2.2.2.2.2.1 (by decide)) (by decide)) (by decide)), (Ce.up (Ce.up (Ce.up hM2.2.2.2.2.2.2.2.2.1 (by decide)) (by decide)) (by decide)), (Ce.up (Ce.up (Ce.up hM2.2.2.2.2.2.2.2.2.2.1 (by decide)) (by decide)) (by decide)), (Ce.up (Ce.up (Ce.up hM2.2.2.2.2.2.2.2.2.2.2.1 (by decide)) (by decide)) (by decide)), (Ce.up (Ce.up (Ce.up hM2.2.2.2.2.2.2.2.2.2.2.2.1 (by decide)) (by decide)) (by decide)), (Ce.up (Ce.up (Ce.up hM2.2.2.2.2.2.2.2.2.2.2.2.2.1 (by decide)) (by decide)) (by decide)), (Ce.up (Ce.up (Ce.up hM2.2.2.2.2.2.2.2.2.2.2.2.2.2.1 (by decide)) (by decide)) (by decide)), (Ce.up (Ce.up (Ce.up hM2.2.2.2.2.2.2.2.2.2.2.2.2.2.2.1 (by decide)) (by decide)) (by decide)), (Ce.up (Ce.up (Ce.up hM2.2.2.2.2.2.2.2.2.2.2.2.2.2.2.2.1 (by decide)) (by decide)) (by decide)), (Ce.up (Ce.up (Ce.up hM2.2.2.2.2.2.2.2.2.2.2.2.2.2.2.2.2.1 (by decide)) (by decide)) (by decide)), (Ce.up (Ce.up (Ce.up hM2.2.2.2.2.2.2.2.2.2.2.2.2.2.2.2.2.2.1 (by decide)) (by decide)) (by decide)), (Ce.up (Ce.up (Ce.up hM2.2.2.2.2.2.2.2.2.2.2.2.2.2.2.2.2.2.2.1 (by decide)) (by decide)) (by decide)), (Ce.up (Ce.up (Ce.up hM2.2.2.2.2.2.2.2.2.2.2.2.2.2.2.2.2.2.2.2.1 (by decide)) (by decide)) (by decide)), (Ce.up (Ce.up (Ce.up hM2.2.2.2.2.2.2.2.2.2.2.2.2.2.2.2.2.2.2.2.2.1 (by decide)) (by decide)) (by decide)), (Ce.up (Ce.up (Ce.up hM2.2.2.2.2.2.2.2.2.2.2.2.2.2.2.2.2.2.2.2.2.2 (by decide)) (by decide)) (by decide))⟩), (by simp only [Sv, s_n, s_r, s_len, s_rem, s_pc, s_hd, s_at_, s_wr, s_cu, s_hs, s_sv, s_fr, s_fa, s_fb, s_fe, s_f1, s_f2, s_f3, s_f4, s_f5, s_f6, s_fp, s_fc, s_wd, s_bg, s_fi, s_fo, s_st, s_ss, s_fl, s_fm, s_fs, s_tnp, s_scr, s_f12, s_wr2, s_u, s_nr, s_rm, s_sp, s_st6, and_self])⟩, ((((hf.tr hF2 (by omega) (by omega)).up (by omega) (by omega)).up (by omega) (by omega)).up (by omega) (by omega))⟩)
      · have h133 := b_f h133
        refine r_bipush (pc := 136) (v := (-3)) C dX8_step_136 (by decide +kernel) ?_
        exact r_iret (pc := 138) C Z dX8_step_138 rfl (by rw [show qStp z = (-3, z) by unfold qStp; rw [show sOkZ z.1 z.2.1 z.2.2.2.2.2.2.2.2.2.2.2.2.2.1 = false from h133]; rfl]; exact ⟨rfl, ⟨_, hM0, (by simp only [Sv, s_n, s_r, s_len, s_rem, s_pc, s_hd, s_at_, s_wr, s_cu, s_hs, s_sv, s_fr, s_fa, s_fb, s_fe, s_f1, s_f2, s_f3, s_f4, s_f5, s_f6, s_fp, s_fc, s_wd, s_bg, s_fi, s_fo, s_st, s_ss, s_fl, s_fm, s_fs, s_tnp, s_scr, s_f12, s_wr2, s_u, s_nr, s_rm, s_sp, s_st6, and_self])⟩, hf⟩)
    · have h6 := c_nle (by omega) (by omega) h6
      omega
  · obtain ⟨⟨a2, a3, hM⟩, hf⟩ := hI
    show G M S E (0, 0) h 4 [some (.ref (E.1 286)), some (.int (b2i (allB (fun i => fitB 24 (sbS z.1 z.2.1 z.2.2.2.2.2.2.2.2.2.2.2.2.2.1 i (i + 1))) t))), some (.int (nI t)), none, none] []
    have hM0 := hM
    simp only [MC, s_scr] at hM
    refine r_iload_n (pc := 4) C dX8_step_4 rfl ?_
    refine r_iconst (pc := 5) (v := nI 5) C dX8_step_5 (by decide +kernel) ?_
    refine r_icmp_ge (pc := 6) (tgt := 132) C dX8_step_6 (by decide) (fun h6 => ?_) (fun h6 => ?_)
    · have h6 := c_le (by omega) (by omega) h6
      omega
    · have h6 := c_nle (by omega) (by omega) h6
      refine r_aload_n (pc := 9) C dX8_step_9 rfl ?_
      refine r_aload_n (pc := 10) C dX8_step_10 rfl ?_
      refine r_getf (pc := 11) C dX8_step_11 fl_RX8_25 hM.1 rfl ?_
      refine r_iload_n (pc := 14) C dX8_step_14 rfl ?_
      refine r_aload_n (pc := 15) C dX8_step_15 rfl ?_
      refine r_getf (pc := 16) C dX8_step_16 fl_RX8_40 hM.1 rfl ?_
      refine r_callV (pc := 19) C dX8_step_19 cv_RX8_210 (c_X8_loadWeighted ⟨_, hM.1, rfl, rfl, rfl, rfl, rfl, rfl, rfl, rfl, rfl, rfl, rfl, rfl, rfl, rfl, rfl, rfl, rfl, rfl, rfl, rfl, rfl, rfl, rfl⟩ hN hr hM.2.2.1 hM.2.2.2.2.2.2.2.1 (by decide) (by decide) (by decide) t (by omega)) ⟨rfl, rfl, by decide, by decide⟩ hM.1 rfl rfl (Nat.le_of_ble_eq_true rfl) ⟨Nat.zero_le _, Nat.zero_le _⟩ ?_
      rintro _ _ ⟨rfl, rfl⟩
      show G M S E (0, 0) (va_up h 293 (xJ S 24 (swZ z.1 (z.2.1 * t + t * t) z.2.2.2.2.2.2.2.2.2.2.2.2.1 t))) 22 [some (.ref (E.1 286)), some (.int (b2i (allB (fun i => fitB 24 (sbS z.1 z.2.1 z.2.2.2.2.2.2.2.2.2.2.2.2.2.1 i (i + 1))) t))), some (.int (nI t)), none, none] []
      refine r_aload_n (pc := 22) C dX8_step_22 rfl ?_
      refine r_aload_n (pc := 23) C dX8_step_23 rfl ?_
      refine r_getf (pc := 24) C dX8_step_24 fl_RX8_43 (Ce.up hM.1 (by decide)) rfl ?_
      refine r_iload_n (pc := 27) C dX8_step_27 rfl ?_
      refine r_callV (pc := 28) C dX8_step_28 cv_RX8_182 (c_X8_keepsOther_294 ⟨_, (Ce.up hM.1 (by decide)), rfl, rfl, rfl, rfl, rfl, rfl, rfl, rfl, rfl, rfl, rfl, rfl, rfl, rfl, rfl, rfl, rfl, rfl, rfl, rfl, rfl, rfl, rfl⟩ hN hr (Ce.up hM.2.2.2.2.2.2.2.2.1 (by decide)) (Ce.new hM.2.2.2.2.2.2.2.1) t (by omega)) ⟨rfl, rfl, by decide, by decide⟩ (Ce.up hM.1 (by decide)) rfl rfl (Nat.le_of_ble_eq_true rfl) ⟨Nat.zero_le _, Nat.zero_le _⟩ ?_
      rintro _ _ ⟨_, rfl, rfl, rfl⟩
      show G M S E (0, 0) (va_up (va_up h 293 (xJ S 24 (swZ z.1 (z.2.1 * t + t * t) z.2.2.2.2.2.2.2.2.2.2.2.2.1 t))) 294 (xJ S 120 (stR (saZ z.1 z.2.1 z.2.2.2.2.2.2.2.2.2.2.2.2.1 z.2.2.2.2.2.2.2.2.2.2.2.2.2.2.2.2.2.2.1 t) t (swZ z.1 (z.2.1 * t + t * t) z.2.2.2.2.2.2.2.2.2.2.2.2.1 t)))) 31 [some (.ref (E.1 286)), some (.int (b2i (allB (fun i => fitB 24 (sbS z.1 z.2.1 z.2.2.2.2.2.2.2.2.2.2.2.2.2.1 i (i + 1))) t))), some (.int (nI t)), none, none] [.int (b2i (fitB 24 (swZ z.1 (z.2.1 * t + t * t) z.2.2.2.2.2.2.2.2.2.2.2.2.1 t)))]
      refine r_pop (pc := 31) C dX8_step_31 rfl ?_
      refine r_aload_n (pc := 32) C dX8_step_32 rfl ?_
      refine r_aload_n (pc := 33) C dX8_step_33 rfl ?_
      refine r_getf (pc := 34) C dX8_step_34 fl_RX8_40 (Ce.up (Ce.up hM.1 (by decide)) (by decide)) rfl ?_
      refine r_callV (pc := 37) C dX8_step_37 cv_RX8_136 (c_X8_makeZero (iq := 286) (Ce.up (Ce.new hM.2.2.2.2.2.2.2.1) (by decide)) (by decide)) ⟨rfl, rfl, by decide, by decide⟩ (Ce.up (Ce.up hM.1 (by decide)) (by decide)) rfl rfl (Nat.le_of_ble_eq_true rfl) ⟨Nat.zero_le _, Nat.zero_le _⟩ ?_
      rintro _ _ ⟨rfl, rfl⟩
      show G M S E (0, 0) (va_up (va_up (va_up h 293 (xJ S 24 (swZ z.1 (z.2.1 * t + t * t) z.2.2.2.2.2.2.2.2.2.2.2.2.1 t))) 294 (xJ S 120 (stR (saZ z.1 z.2.1 z.2.2.2.2.2.2.2.2.2.2.2.2.1 z.2.2.2.2.2.2.2.2.2.2.2.2.2.2.2.2.2.2.1 t) t (swZ z.1 (z.2.1 * t + t * t) z.2.2.2.2.2.2.2.2.2.2.2.2.1 t)))) 293 (xJ S 24 (fun _ => 0))) 40 [some (.ref (E.1 286)), some (.int (b2i (allB (fun i => fitB 24 (sbS z.1 z.2.1 z.2.2.2.2.2.2.2.2.2.2.2.2.2.1 i (i + 1))) t))), some (.int (nI t)), none, none] []
      refine G.heap (show (va_up (va_up (va_up h 293 (xJ S 24 (swZ z.1 (z.2.1 * t + t * t) z.2.2.2.2.2.2.2.2.2.2.2.2.1 t))) 294 (xJ S 120 (stR (saZ z.1 z.2.1 z.2.2.2.2.2.2.2.2.2.2.2.2.1 z.2.2.2.2.2.2.2.2.2.2.2.2.2.2.2.2.2.2.1 t) t (swZ z.1 (z.2.1 * t + t * t) z.2.2.2.2.2.2.2.2.2.2.2.2.1 t)))) 293 (xJ S 24 (fun _ => 0))) = (va_up (va_up h 293 (xJ S 24 (fun _ => 0))) 294 (xJ S 120 (stR (saZ z.1 z.2.1 z.2.2.2.2.2.2.2.2.2.2.2.2.1 z.2.2.2.2.2.2.2.2.2.2.2.2.2.2.2.2.2.2.1 t) t (swZ z.1 (z.2.1 * t + t * t) z.2.2.2.2.2.2.2.2.2.2.2.2.1 t)))) from by funext q; simp only [va_up]; (repeat' split) <;> first | rfl | omega) ?_
      refine r_iconst (pc := 40) (v := nI 0) C dX8_step_40 (by decide +kernel) ?_
      refine r_istore_n (pc := 41) C dX8_step_41 (by decide) ?_
      refine G.eq (pc' := 42) (vs' := [some (.ref (E.1 286)), some (.int (b2i (allB (fun i => fitB 24 (sbS z.1 z.2.1 z.2.2.2.2.2.2.2.2.2.2.2.2.2.1 i (i + 1))) t))), some (.int (nI t)), some (.int (nI 0)), none]) (st' := []) ?_
      refine G.heap (Ce.id (Ce.up (Ce.up hM.2.2.2.2.2.2.1 (by decide)) (by decide))) ?_
      refine bk (P := fun t2 => G M S E (0, 0) (va_up (va_up (va_up h 293 (xJ S 24 (sbS z.1 z.2.1 z.2.2.2.2.2.2.2.2.2.2.2.2.2.1 t t2))) 294 (xJ S 120 (stR (saZ z.1 z.2.1 z.2.2.2.2.2.2.2.2.2.2.2.2.1 z.2.2.2.2.2.2.2.2.2.2.2.2.2.2.2.2.2.2.1 t) t (swZ z.1 (z.2.1 * t + t * t) z.2.2.2.2.2.2.2.2.2.2.2.2.1 t)))) 292 (xJ S 24 (prv a2 (fun j => sbW z.1 z.2.1 z.2.2.2.2.2.2.2.2.2.2.2.2.2.1 t j) t2))) 42 [some (.ref (E.1 286)), some (.int (b2i (allB (fun i => fitB 24 (sbS z.1 z.2.1 z.2.2.2.2.2.2.2.2.2.2.2.2.2.1 i (i + 1))) t))), some (.int (nI t)), some (.int (nI t2)), none] []) (T := t + 1) ?_ (fun t2 ht ih => ?_)
      · show G M S E (0, 0) (va_up (va_up (va_up h 293 (xJ S 24 (sbS z.1 z.2.1 z.2.2.2.2.2.2.2.2.2.2.2.2.2.1 t (t + 1)))) 294 (xJ S 120 (stR (saZ z.1 z.2.1 z.2.2.2.2.2.2.2.2.2.2.2.2.1 z.2.2.2.2.2.2.2.2.2.2.2.2.2.2.2.2.2.2.1 t) t (swZ z.1 (z.2.1 * t + t * t) z.2.2.2.2.2.2.2.2.2.2.2.2.1 t)))) 292 (xJ S 24 (prv a2 (fun j => sbW z.1 z.2.1 z.2.2.2.2.2.2.2.2.2.2.2.2.2.1 t j) (t + 1)))) 42 [some (.ref (E.1 286)), some (.int (b2i (allB (fun i => fitB 24 (sbS z.1 z.2.1 z.2.2.2.2.2.2.2.2.2.2.2.2.2.1 i (i + 1))) t))), some (.int (nI t)), some (.int (nI (t + 1))), none] []
        refine r_iload_n (pc := 42) C dX8_step_42 rfl ?_
        refine r_iload_n (pc := 43) C dX8_step_43 rfl ?_
        refine r_icmp_gt (pc := 44) (tgt := 114) C dX8_step_44 (by decide) (fun h44 => ?_) (fun h44 => ?_)
        · have h44 := c_lt (by omega) (by omega) h44
          refine r_iload_n (pc := 114) C dX8_step_114 rfl ?_
          refine r_aload_n (pc := 115) C dX8_step_115 rfl ?_
          refine r_aload_n (pc := 116) C dX8_step_116 rfl ?_
          refine r_getf (pc := 117) C dX8_step_117 fl_RX8_46 (Ce.up (Ce.up (Ce.up hM.1 (by decide)) (by decide)) (by decide)) rfl ?_
          refine r_iload_n (pc := 120) C dX8_step_120 rfl ?_
          refine r_callV (pc := 121) C dX8_step_121 cv_RX8_182 (c_X8_keepsOther_295 ⟨_, (Ce.up (Ce.up (Ce.up hM.1 (by decide)) (by decide)) (by decide)), rfl, rfl, rfl, rfl, rfl, rfl, rfl, rfl, rfl, rfl, rfl, rfl, rfl, rfl, rfl, rfl, rfl, rfl, rfl, rfl, rfl, rfl, rfl⟩ hN hr (Ce.up (Ce.up (Ce.up hM.2.2.2.2.2.2.2.2.2.1 (by decide)) (by decide)) (by decide)) (Ce.up (Ce.up (Ce.new hM.2.2.2.2.2.2.2.1) (by decide)) (by decide)) t (by omega)) ⟨rfl, rfl, by decide, by decide⟩ (Ce.up (Ce.up (Ce.up hM.1 (by decide)) (by decide)) (by decide)) rfl rfl (Nat.le_of_ble_eq_true rfl) ⟨Nat.zero_le _, Nat.zero_le _⟩ ?_
          rintro _ _ ⟨_, rfl, rfl, rfl⟩
          show G M S E (0, 0) (va_up (va_up (va_up (va_up h 293 (xJ S 24 (sbS z.1 z.2.1 z.2.2.2.2.2.2.2.2.2.2.2.2.2.1 t (t + 1)))) 294 (xJ S 120 (stR (saZ z.1 z.2.1 z.2.2.2.2.2.2.2.2.2.2.2.2.1 z.2.2.2.2.2.2.2.2.2.2.2.2.2.2.2.2.2.2.1 t) t (swZ z.1 (z.2.1 * t + t * t) z.2.2.2.2.2.2.2.2.2.2.2.2.1 t)))) 292 (xJ S 24 (prv a2 (fun j => sbW z.1 z.2.1 z.2.2.2.2.2.2.2.2.2.2.2.2.2.1 t j) (t + 1)))) 295 (xJ S 120 (stR (snB z.1 z.2.1 z.2.2.2.2.2.2.2.2.2.2.2.2.2.1 z.2.2.2.2.2.2.2.2.2.2.2.2.2.2.2.2.2.2.2.1 t) t (sbS z.1 z.2.1 z.2.2.2.2.2.2.2.2.2.2.2.2.2.1 t (t + 1))))) 124 [some (.ref (E.1 286)), some (.int (b2i (allB (fun i => fitB 24 (sbS z.1 z.2.1 z.2.2.2.2.2.2.2.2.2.2.2.2.2.1 i (i + 1))) t))), some (.int (nI t)), some (.int (nI (t + 1))), none] [.int (b2i (fitB 24 (sbS z.1 z.2.1 z.2.2.2.2.2.2.2.2.2.2.2.2.2.1 t (t + 1)))), .int (b2i (allB (fun i => fitB 24 (sbS z.1 z.2.1 z.2.2.2.2.2.2.2.2.2.2.2.2.2.1 i (i + 1))) t))]
          refine r_iand (pc := 124) C dX8_step_124 ?_
          refine r_ti (b2i ((allB (fun i => fitB 24 (sbS z.1 z.2.1 z.2.2.2.2.2.2.2.2.2.2.2.2.2.1 i (i + 1))) t) && (fitB 24 (sbS z.1 z.2.1 z.2.2.2.2.2.2.2.2.2.2.2.2.2.1 t (t + 1))))) (b2i_and _ _) ?_
          refine r_istore_n (pc := 125) C dX8_step_125 (by decide) ?_
          refine G.eq (pc' := 126) (vs' := [some (.ref (E.1 286)), some (.int (b2i ((allB (fun i => fitB 24 (sbS z.1 z.2.1 z.2.2.2.2.2.2.2.2.2.2.2.2.2.1 i (i + 1))) t) && (fitB 24 (sbS z.1 z.2.1 z.2.2.2.2.2.2.2.2.2.2.2.2.2.1 t (t + 1)))))), some (.int (nI t)), some (.int (nI (t + 1))), none]) (st' := []) ?_
          refine r_iinc (pc := 126) (v := nI (t + 1)) C dX8_step_126 rfl (nI_i1 _) (by decide) ?_
          refine G.eq (pc' := 129) (vs' := [some (.ref (E.1 286)), some (.int (b2i ((allB (fun i => fitB 24 (sbS z.1 z.2.1 z.2.2.2.2.2.2.2.2.2.2.2.2.2.1 i (i + 1))) t) && (fitB 24 (sbS z.1 z.2.1 z.2.2.2.2.2.2.2.2.2.2.2.2.2.1 t (t + 1)))))), some (.int (nI (t + 1))), some (.int (nI (t + 1))), none]) (st' := []) ?_
          refine r_goto (pc := 129) (tgt := 4) C dX8_step_129 (by decide) ?_
          rw [saZ_s, snB_s] at ih
          refine G.wk (vs' := [some (.ref (E.1 286)), some (.int (b2i ((allB (fun i => fitB 24 (sbS z.1 z.2.1 z.2.2.2.2.2.2.2.2.2.2.2.2.2.1 i (i + 1))) t) && (fitB 24 (sbS z.1 z.2.1 z.2.2.2.2.2.2.2.2.2.2.2.2.2.1 t (t + 1)))))), some (.int (nI (t + 1))), none, none]) ⟨rfl, rfl, rfl, trivial⟩ ?_
          exact (ih _ ⟨⟨_, _, (by simp only [MC, s_n, s_r, s_len, s_rem, s_pc, s_hd, s_at_, s_wr, s_cu, s_hs, s_sv, s_fr, s_fa, s_fb, s_fe, s_f1, s_f2, s_f3, s_f4, s_f5, s_f6, s_fp, s_fc, s_wd, s_bg, s_fi, s_fo, s_st, s_ss, s_fl, s_fm, s_fs, s_tnp, s_scr, s_f12, s_wr2, s_u, s_nr, s_rm, s_sp, s_st6]; exact ⟨(Ce.up (Ce.up (Ce.up (Ce.up hM.1 (by decide)) (by decide)) (by decide)) (by decide)), (Ce.up (Ce.up (Ce.up (Ce.up hM.2.1 (by decide)) (by decide)) (by decide)) (by decide)), (Ce.up (Ce.up (Ce.up (Ce.up hM.2.2.1 (by decide)) (by decide)) (by decide)) (by decide)), (Ce.up (Ce.up (Ce.up (Ce.up hM.2.2.2.1 (by decide)) (by decide)) (by decide)) (by decide)), (Ce.up (Ce.up (Ce.up (Ce.up hM.2.2.2.2.1 (by decide)) (by decide)) (by decide)) (by decide)), (Ce.up (Ce.up (Ce.up (Ce.up hM.2.2.2.2.2.1 (by decide)) (by decide)) (by decide)) (by decide)), (Ce.up (Ce.new (Ce.up (Ce.up hM.2.2.2.2.2.2.1 (by decide)) (by decide))) (by decide)), (Ce.up (Ce.up (Ce.up (Ce.new hM.2.2.2.2.2.2.2.1) (by decide)) (by decide)) (by decide)), (Ce.up (Ce.up (Ce.new (Ce.up hM.2.2.2.2.2.2.2.2.1 (by decide))) (by decide)) (by decide)), (Ce.new (Ce.up (Ce.up (Ce.up hM.2.2.2.2.2.2.2.2.2.1 (by decide)) (by decide)) (by decide))), (Ce.up (Ce.up (Ce.up (Ce.up hM.2.2.2.2.2.2.2.2.2.2.1 (by decide)) (by decide)) (by decide)) (by decide)), (Ce.up (Ce.up (Ce.up (Ce.up hM.2.2.2.2.2.2.2.2.2.2.2.1 (by decide)) (by decide)) (by decide)) (by decide)), (Ce.up (Ce.up (Ce.up (Ce.up hM.2.2.2.2.2.2.2.2.2.2.2.2.1 (by decide)) (by decide)) (by decide)) (by decide)), (Ce.up (Ce.up (Ce.up (Ce.up hM.2.2.2.2.2.2.2.2.2.2.2.2.2.1 (by decide)) (by decide)) (by decide)) (by decide)), (Ce.up (Ce.up (Ce.up (Ce.up hM.2.2.2.2.2.2.2.2.2.2.2.2.2.2.1 (by decide)) (by decide)) (by decide)) (by decide)), (Ce.up (Ce.up (Ce.up (Ce.up hM.2.2.2.2.2.2.2.2.2.2.2.2.2.2.2.1 (by decide)) (by decide)) (by decide)) (by decide)), (Ce.up (Ce.up (Ce.up (Ce.up hM.2.2.2.2.2.2.2.2.2.2.2.2.2.2.2.2.1 (by decide)) (by decide)) (by decide)) (by decide)), (Ce.up (Ce.up (Ce.up (Ce.up hM.2.2.2.2.2.2.2.2.2.2.2.2.2.2.2.2.2.1 (by decide)) (by decide)) (by decide)) (by decide)), (Ce.up (Ce.up (Ce.up (Ce.up hM.2.2.2.2.2.2.2.2.2.2.2.2.2.2.2.2.2.2.1 (by decide)) (by decide)) (by decide)) (by decide)), (Ce.up (Ce.up (Ce.up (Ce.up hM.2.2.2.2.2.2.2.2.2.2.2.2.2.2.2.2.2.2.2.1 (by decide)) (by decide)) (by decide)) (by decide)), (Ce.up (Ce.up (Ce.up (Ce.up hM.2.2.2.2.2.2.2.2.2.2.2.2.2.2.2.2.2.2.2.2.1 (by decide)) (by decide)) (by decide)) (by decide)), (Ce.up (Ce.up (Ce.up (Ce.up hM.2.2.2.2.2.2.2.2.2.2.2.2.2.2.2.2.2.2.2.2.2 (by decide)) (by decide)) (by decide)) (by decide))⟩)⟩, ((((hf.up (by omega) (by omega)).up (by omega) (by omega)).up (by omega) (by omega)).up (by omega) (by omega))⟩)
        · have h44 := c_nlt (by omega) (by omega) h44
          omega
      · show G M S E (0, 0) (va_up (va_up (va_up h 293 (xJ S 24 (sbS z.1 z.2.1 z.2.2.2.2.2.2.2.2.2.2.2.2.2.1 t t2))) 294 (xJ S 120 (stR (saZ z.1 z.2.1 z.2.2.2.2.2.2.2.2.2.2.2.2.1 z.2.2.2.2.2.2.2.2.2.2.2.2.2.2.2.2.2.2.1 t) t (swZ z.1 (z.2.1 * t + t * t) z.2.2.2.2.2.2.2.2.2.2.2.2.1 t)))) 292 (xJ S 24 (prv a2 (fun j => sbW z.1 z.2.1 z.2.2.2.2.2.2.2.2.2.2.2.2.2.1 t j) t2))) 42 [some (.ref (E.1 286)), some (.int (b2i (allB (fun i => fitB 24 (sbS z.1 z.2.1 z.2.2.2.2.2.2.2.2.2.2.2.2.2.1 i (i + 1))) t))), some (.int (nI t)), some (.int (nI t2)), none] []
        refine r_iload_n (pc := 42) C dX8_step_42 rfl ?_
        refine r_iload_n (pc := 43) C dX8_step_43 rfl ?_
        refine r_icmp_gt (pc := 44) (tgt := 114) C dX8_step_44 (by decide) (fun h44 => ?_) (fun h44 => ?_)
        · have h44 := c_lt (by omega) (by omega) h44
          omega
        · have h44 := c_nlt (by omega) (by omega) h44
          refine r_aload_n (pc := 47) C dX8_step_47 rfl ?_
          refine r_aload_n (pc := 48) C dX8_step_48 rfl ?_
          refine r_getf (pc := 49) C dX8_step_49 fl_RX8_28 (Ce.up (Ce.up (Ce.up hM.1 (by decide)) (by decide)) (by decide)) rfl ?_
          refine r_iload_n (pc := 52) C dX8_step_52 rfl ?_
          refine r_aload_n (pc := 53) C dX8_step_53 rfl ?_
          refine r_getf (pc := 54) C dX8_step_54 fl_RX8_37 (Ce.up (Ce.up (Ce.up hM.1 (by decide)) (by decide)) (by decide)) rfl ?_
          refine r_callV (pc := 57) C dX8_step_57 cv_RX8_210 (c_X8_loadWeighted ⟨_, (Ce.up (Ce.up (Ce.up hM.1 (by decide)) (by decide)) (by decide)), rfl, rfl, rfl, rfl, rfl, rfl, rfl, rfl, rfl, rfl, rfl, rfl, rfl, rfl, rfl, rfl, rfl, rfl, rfl, rfl, rfl, rfl, rfl⟩ hN hr (Ce.up (Ce.up (Ce.up hM.2.2.2.1 (by decide)) (by decide)) (by decide)) (Ce.new (Ce.up (Ce.up hM.2.2.2.2.2.2.1 (by decide)) (by decide))) (by decide) (by decide) (by decide) t2 (by omega)) ⟨rfl, rfl, by decide, by decide⟩ (Ce.up (Ce.up (Ce.up hM.1 (by decide)) (by decide)) (by decide)) rfl rfl (Nat.le_of_ble_eq_true rfl) ⟨Nat.zero_le _, Nat.zero_le _⟩ ?_
          rintro _ _ ⟨rfl, rfl⟩
          rw [bx_uu]
          show G M S E (0, 0) (va_up (va_up (va_up h 293 (xJ S 24 (sbS z.1 z.2.1 z.2.2.2.2.2.2.2.2.2.2.2.2.2.1 t t2))) 294 (xJ S 120 (stR (saZ z.1 z.2.1 z.2.2.2.2.2.2.2.2.2.2.2.2.1 z.2.2.2.2.2.2.2.2.2.2.2.2.2.2.2.2.2.2.1 t) t (swZ z.1 (z.2.1 * t + t * t) z.2.2.2.2.2.2.2.2.2.2.2.2.1 t)))) 292 (xJ S 24 (swZ z.1 (z.2.1 * t2 + t2 * t2) z.2.2.2.2.2.2.2.2.2.2.2.2.2.1 t2))) 60 [some (.ref (E.1 286)), some (.int (b2i (allB (fun i => fitB 24 (sbS z.1 z.2.1 z.2.2.2.2.2.2.2.2.2.2.2.2.2.1 i (i + 1))) t))), some (.int (nI t)), some (.int (nI t2)), none] []
          refine r_aload_n (pc := 60) C dX8_step_60 rfl ?_
          refine r_aload_n (pc := 61) C dX8_step_61 rfl ?_
          refine r_getf (pc := 62) C dX8_step_62 fl_RX8_37 (Ce.up (Ce.up (Ce.up hM.1 (by decide)) (by decide)) (by decide)) rfl ?_
          refine r_iconst (pc := 65) (v := nI 0) C dX8_step_65 (by decide +kernel) ?_
          refine r_iload_n (pc := 66) C dX8_step_66 rfl ?_
          refine r_iload_n (pc := 67) C dX8_step_67 rfl ?_
          refine r_isub (pc := 68) C dX8_step_68 ?_
          refine r_ti (nI (t - t2)) (pk_sub (by omega)) ?_
          refine r_iconst (pc := 69) (v := (-1)) C dX8_step_69 (by decide +kernel) ?_
          refine r_callV (pc := 70) C dX8_step_70 cv_RX8_175 (c_X8_overP (Ce.up (Ce.up (Ce.up hM.1 (by decide)) (by decide)) (by decide)) rfl hN (Ce.new (Ce.up (Ce.up hM.2.2.2.2.2.2.1 (by decide)) (by decide))) (by decide) 0 (t - t2) (-1) (by omega) (by omega) (by decide)) ⟨rfl, rfl, by decide, by decide⟩ (Ce.up (Ce.up (Ce.up hM.1 (by decide)) (by decide)) (by decide)) rfl rfl (Nat.le_of_ble_eq_true rfl) ⟨Nat.zero_le _, Nat.zero_le _⟩ ?_
          rintro _ _ ⟨rfl, rfl⟩
          rw [bx_uu]
          show G M S E (0, 0) (va_up (va_up (va_up h 293 (xJ S 24 (sbS z.1 z.2.1 z.2.2.2.2.2.2.2.2.2.2.2.2.2.1 t t2))) 294 (xJ S 120 (stR (saZ z.1 z.2.1 z.2.2.2.2.2.2.2.2.2.2.2.2.1 z.2.2.2.2.2.2.2.2.2.2.2.2.2.2.2.2.2.2.1 t) t (swZ z.1 (z.2.1 * t + t * t) z.2.2.2.2.2.2.2.2.2.2.2.2.1 t)))) 292 (xJ S 24 (sbW z.1 z.2.1 z.2.2.2.2.2.2.2.2.2.2.2.2.2.1 t t2))) 73 [some (.ref (E.1 286)), some (.int (b2i (allB (fun i => fitB 24 (sbS z.1 z.2.1 z.2.2.2.2.2.2.2.2.2.2.2.2.2.1 i (i + 1))) t))), some (.int (nI t)), some (.int (nI t2)), none] []
          refine r_iconst (pc := 73) (v := nI 0) C dX8_step_73 (by decide +kernel) ?_
          refine r_istore (pc := 74) C dX8_step_74 (by decide) ?_
          refine G.eq (pc' := 76) (vs' := [some (.ref (E.1 286)), some (.int (b2i (allB (fun i => fitB 24 (sbS z.1 z.2.1 z.2.2.2.2.2.2.2.2.2.2.2.2.2.1 i (i + 1))) t))), some (.int (nI t)), some (.int (nI t2)), some (.int (nI 0))]) (st' := []) ?_
          refine bk (P := fun t3 => G M S E (0, 0) (va_up (va_up (va_up h 293 (xJ S 24 (it (fun q1 f => vp_updL f q1 (f q1 + (sbW z.1 z.2.1 z.2.2.2.2.2.2.2.2.2.2.2.2.2.1 t t2) q1)) t3 (sbS z.1 z.2.1 z.2.2.2.2.2.2.2.2.2.2.2.2.2.1 t t2)))) 294 (xJ S 120 (stR (saZ z.1 z.2.1 z.2.2.2.2.2.2.2.2.2.2.2.2.1 z.2.2.2.2.2.2.2.2.2.2.2.2.2.2.2.2.2.2.1 t) t (swZ z.1 (z.2.1 * t + t * t) z.2.2.2.2.2.2.2.2.2.2.2.2.1 t)))) 292 (xJ S 24 (sbW z.1 z.2.1 z.2.2.2.2.2.2.2.2.2.2.2.2.2.1 t t2))) 76 [some (.ref (E.1 286)), some (.int (b2i (allB (fun i => fitB 24 (sbS z.1 z.2.1 z.2.2.2.2.2.2.2.2.2.2.2.2.2.1 i (i + 1))) t))), some (.int (nI t)), some (.int (nI t2)), some (.int (nI t3))] []) (T := z.1) ?_ (fun t3 ht ih => ?_)
          · show G M S E (0, 0) (va_up (va_up (va_up h 293 (xJ S 24 (it (fun q1 f => vp_updL f q1 (f q1 + (sbW z.1 z.2.1 z.2.2.2.2.2.2.2.2.2.2.2.2.2.1 t t2) q1)) z.1 (sbS z.1 z.2.1 z.2.2.2.2.2.2.2.2.2.2.2.2.2.1 t t2)))) 294 (xJ S 120 (stR (saZ z.1 z.2.1 z.2.2.2.2.2.2.2.2.2.2.2.2.1 z.2.2.2.2.2.2.2.2.2.2.2.2.2.2.2.2.2.2.1 t) t (swZ z.1 (z.2.1 * t + t * t) z.2.2.2.2.2.2.2.2.2.2.2.2.1 t)))) 292 (xJ S 24 (sbW z.1 z.2.1 z.2.2.2.2.2.2.2.2.2.2.2.2.2.1 t t2))) 76 [some (.ref (E.1 286)), some (.int (b2i (allB (fun i => fitB 24 (sbS z.1 z.2.1 z.2.2.2.2.2.2.2.2.2.2.2.2.2.1 i (i + 1))) t))), some (.int (nI t)), some (.int (nI t2)), some (.int (nI z.1))] []
            refine r_iload (pc := 76) C dX8_step_76 rfl ?_
            refine r_aload_n (pc := 78) C dX8_step_78 rfl ?_
            refine r_getf (pc := 79) C dX8_step_79 fl_RX8_17 (Ce.up (Ce.up (Ce.up hM.1 (by decide)) (by decide)) (by decide)) rfl ?_
            refine r_icmp_ge (pc := 82) (tgt := 108) C dX8_step_82 (by decide) (fun h82 => ?_) (fun h82 => ?_)
            · have h82 := c_le (by omega) (by omega) h82
              refine r_iinc (pc := 108) (v := nI (t2 + 1)) C dX8_step_108 rfl (nI_i1 _) (by decide) ?_
              refine G.eq (pc' := 111) (vs' := [some (.ref (E.1 286)), some (.int (b2i (allB (fun i => fitB 24 (sbS z.1 z.2.1 z.2.2.2.2.2.2.2.2.2.2.2.2.2.1 i (i + 1))) t))), some (.int (nI t)), some (.int (nI (t2 + 1))), some (.int (nI z.1))]) (st' := []) ?_
              refine r_goto (pc := 111) (tgt := 42) C dX8_step_111 (by decide) ?_
              refine G.wk (vs' := [some (.ref (E.1 286)), some (.int (b2i (allB (fun i => fitB 24 (sbS z.1 z.2.1 z.2.2.2.2.2.2.2.2.2.2.2.2.2.1 i (i + 1))) t))), some (.int (nI t)), some (.int (nI (t2 + 1))), none]) ⟨rfl, rfl, rfl, rfl, trivial⟩ ?_
              exact ih
            · have h82 := c_nle (by omega) (by omega) h82
              omega
          · show G M S E (0, 0) (va_up (va_up (va_up h 293 (xJ S 24 (it (fun q1 f => vp_updL f q1 (f q1 + (sbW z.1 z.2.1 z.2.2.2.2.2.2.2.2.2.2.2.2.2.1 t t2) q1)) t3 (sbS z.1 z.2.1 z.2.2.2.2.2.2.2.2.2.2.2.2.2.1 t t2)))) 294 (xJ S 120 (stR (saZ z.1 z.2.1 z.2.2.2.2.2.2.2.2.2.2.2.2.1 z.2.2.2.2.2.2.2.2.2.2.2.2.2.2.2.2.2.2.1 t) t (swZ z.1 (z.2.1 * t + t * t) z.2.2.2.2.2.2.2.2.2.2.2.2.1 t)))) 292 (xJ S 24 (sbW z.1 z.2.1 z.2.2.2.2.2.2.2.2.2.2.2.2.2.1 t t2))) 76 [some (.ref (E.1 286)), some (.int (b2i (allB (fun i => fitB 24 (sbS z.1 z.2.1 z.2.2.2.2.2.2.2.2.2.2.2.2.2.1 i (i + 1))) t))), some (.int (nI t)), some (.int (nI t2)), some (.int (nI t3))] []
            refine r_iload (pc := 76) C dX8_step_76 rfl ?_
            refine r_aload_n (pc := 78) C dX8_step_78 rfl ?_
            refine r_getf (pc := 79) C dX8_step_79 fl_RX8_17 (Ce.up (Ce.up (Ce.up hM.1 (by decide)) (by decide)) (by decide)) rfl ?_
            refine r_icmp_ge (pc := 82) (tgt := 108) C dX8_step_82 (by decide) (fun h82 => ?_) (fun h82 => ?_)
            · have h82 := c_le (by omega) (by omega) h82
              omega
            · have h82 := c_nle (by omega) (by omega) h82
              refine r_aload_n (pc := 85) C dX8_step_85 rfl ?_
              refine r_getf (pc := 86) C dX8_step_86 fl_RX8_40 (Ce.up (Ce.up (Ce.up hM.1 (by decide)) (by decide)) (by decide)) rfl ?_
              refine r_iload (pc := 89) C dX8_step_89 rfl ?_
              refine r_dup2 (pc := 91) C dX8_step_91 rfl rfl ?_
              refine r_lald (pc := 92) C dX8_step_92 (Ce.up (Ce.up (Ce.new hM.2.2.2.2.2.2.2.1) (by decide)) (by decide)) rfl (by omega) (by omega) ?_
              refine r_aload_n (pc := 93) C dX8_step_93 rfl ?_
              refine r_getf (pc := 94) C dX8_step_94 fl_RX8_37 (Ce.up (Ce.up (Ce.up hM.1 (by decide)) (by decide)) (by decide)) rfl ?_
              refine r_iload (pc := 97) C dX8_step_97 rfl ?_
              refine r_lald (pc := 99) C dX8_step_99 (Ce.new (Ce.up (Ce.up hM.2.2.2.2.2.2.1 (by decide)) (by decide))) rfl (by omega) (by omega) ?_
              refine r_ladd (pc := 100) C dX8_step_100 ?_
              refine r_last (pc := 101) C dX8_step_101 (Ce.up (Ce.up (Ce.new hM.2.2.2.2.2.2.2.1) (by decide)) (by decide)) rfl (by omega) (by omega) ?_
              refine r_iinc (pc := 102) (v := nI (t3 + 1)) C dX8_step_102 rfl (nI_i1 _) (by decide) ?_
              refine G.eq (pc' := 105) (vs' := [some (.ref (E.1 286)), some (.int (b2i (allB (fun i => fitB 24 (sbS z.1 z.2.1 z.2.2.2.2.2.2.2.2.2.2.2.2.2.1 i (i + 1))) t))), some (.int (nI t)), some (.int (nI t2)), some (.int (nI (t3 + 1)))]) (st' := []) ?_
              refine r_goto (pc := 105) (tgt := 76) C dX8_step_105 (by decide) ?_
              refine G.heap (show (va_up (va_up (va_up (va_up h 293 (xJ S 24 (it (fun q1 f => vp_updL f q1 (f q1 + (sbW z.1 z.2.1 z.2.2.2.2.2.2.2.2.2.2.2.2.2.1 t t2) q1)) t3 (sbS z.1 z.2.1 z.2.2.2.2.2.2.2.2.2.2.2.2.2.1 t t2)))) 294 (xJ S 120 (stR (saZ z.1 z.2.1 z.2.2.2.2.2.2.2.2.2.2.2.2.1 z.2.2.2.2.2.2.2.2.2.2.2.2.2.2.2.2.2.2.1 t) t (swZ z.1 (z.2.1 * t + t * t) z.2.2.2.2.2.2.2.2.2.2.2.2.1 t)))) 292 (xJ S 24 (sbW z.1 z.2.1 z.2.2.2.2.2.2.2.2.2.2.2.2.2.1 t t2))) 293 (xJ S 24 (vp_updL (it (fun q1 f => vp_updL f q1 (f q1 + (sbW z.1 z.2.1 z.2.2.2.2.2.2.2.2.2.2.2.2.2.1 t t2) q1)) t3 (sbS z.1 z.2.1 z.2.2.2.2.2.2.2.2.2.2.2.2.2.1 t t2)) t3 (((it (fun q1 f => vp_updL f q1 (f q1 + (sbW z.1 z.2.1 z.2.2.2.2.2.2.2.2.2.2.2.2.2.1 t t2) q1)) t3 (sbS z.1 z.2.1 z.2.2.2.2.2.2.2.2.2.2.2.2.2.1 t t2)) t3) + ((sbW z.1 z.2.1 z.2.2.2.2.2.2.2.2.2.2.2.2.2.1 t t2) t3))))) = (va_up (va_up (va_up h 293 (xJ S 24 (vp_updL (it (fun q1 f => vp_updL f q1 (f q1 + (sbW z.1 z.2.1 z.2.2.2.2.2.2.2.2.2.2.2.2.2.1 t t2) q1)) t3 (sbS z.1 z.2.1 z.2.2.2.2.2.2.2.2.2.2.2.2.2.1 t t2)) t3 (((it (fun q1 f => vp_updL f q1 (f q1 + (sbW z.1 z.2.1 z.2.2.2.2.2.2.2.2.2.2.2.2.2.1 t t2) q1)) t3 (sbS z.1 z.2.1 z.2.2.2.2.2.2.2.2.2.2.2.2.2.1 t t2)) t3) + ((sbW z.1 z.2.1 z.2.2.2.2.2.2.2.2.2.2.2.2.2.1 t t2) t3))))) 294 (xJ S 120 (stR (saZ z.1 z.2.1 z.2.2.2.2.2.2.2.2.2.2.2.2.1 z.2.2.2.2.2.2.2.2.2.2.2.2.2.2.2.2.2.2.1 t) t (swZ z.1 (z.2.1 * t + t * t) z.2.2.2.2.2.2.2.2.2.2.2.2.1 t)))) 292 (xJ S 24 (sbW z.1 z.2.1 z.2.2.2.2.2.2.2.2.2.2.2.2.2.1 t t2))) from by funext q; simp only [va_up]; (repeat' split) <;> first | rfl | omega) ?_
              exact ih
