def aOkZ (n r : Nat) (h f : Nat → Int64) : Bool := allB (fun i => fitB 24 (aZ n r h (naZ n r h f i) i)) 5
def bOkZ (n r : Nat) (f : Nat → Int64) : Bool := allB (fun i => fitB 24 (bZ n r f i (i + 1))) 5
def s_u (z : MZ) (x_fa : (Nat → Int64)) (x_fb : (Nat → Int64)) (x_len : Int32) (x_rem : Nat) (x_f2 : (Nat → Int64)) (x_f3 : (Nat → Int64)) (x_f4 : (Nat → Int64)) (x_f5 : (Nat → Int64)) : MZ := (z.1, z.2.1, x_len, x_rem, z.2.2.2.2.1, z.2.2.2.2.2.1, z.2.2.2.2.2.2.1, z.2.2.2.2.2.2.2.1, z.2.2.2.2.2.2.2.2.1, z.2.2.2.2.2.2.2.2.2.1, z.2.2.2.2.2.2.2.2.2.2.1, z.2.2.2.2.2.2.2.2.2.2.2.1, x_fa, x_fb, z.2.2.2.2.2.2.2.2.2.2.2.2.2.2.1, z.2.2.2.2.2.2.2.2.2.2.2.2.2.2.2.1, x_f2, x_f3, x_f4, x_f5, z.2.2.2.2.2.2.2.2.2.2.2.2.2.2.2.2.2.2.2.2.1, z.2.2.2.2.2.2.2.2.2.2.2.2.2.2.2.2.2.2.2.2.2.1, z.2.2.2.2.2.2.2.2.2.2.2.2.2.2.2.2.2.2.2.2.2.2.1, z.2.2.2.2.2.2.2.2.2.2.2.2.2.2.2.2.2.2.2.2.2.2.2.1, z.2.2.2.2.2.2.2.2.2.2.2.2.2.2.2.2.2.2.2.2.2.2.2.2.1, z.2.2.2.2.2.2.2.2.2.2.2.2.2.2.2.2.2.2.2.2.2.2.2.2.2.1, z.2.2.2.2.2.2.2.2.2.2.2.2.2.2.2.2.2.2.2.2.2.2.2.2.2.2.1, z.2.2.2.2.2.2.2.2.2.2.2.2.2.2.2.2.2.2.2.2.2.2.2.2.2.2.2.1, z.2.2.2.2.2.2.2.2.2.2.2.2.2.2.2.2.2.2.2.2.2.2.2.2.2.2.2.2.1, z.2.2.2.2.2.2.2.2.2.2.2.2.2.2.2.2.2.2.2.2.2.2.2.2.2.2.2.2.2.1, z.2.2.2.2.2.2.2.2.2.2.2.2.2.2.2.2.2.2.2.2.2.2.2.2.2.2.2.2.2.2.1, z.2.2.2.2.2.2.2.2.2.2.2.2.2.2.2.2.2.2.2.2.2.2.2.2.2.2.2.2.2.2.2)
def s_nr (z : MZ) (x_n : Nat) (x_r : Nat) (x_fr : (Nat → Int64)) : MZ := (x_n, x_r, z.2.2.1, z.2.2.2.1, z.2.2.2.2.1, z.2.2.2.2.2.1, z.2.2.2.2.2.2.1, z.2.2.2.2.2.2.2.1, z.2.2.2.2.2.2.2.2.1, z.2.2.2.2.2.2.2.2.2.1, z.2.2.2.2.2.2.2.2.2.2.1, x_fr, z.2.2.2.2.2.2.2.2.2.2.2.2.1, z.2.2.2.2.2.2.2.2.2.2.2.2.2.1, z.2.2.2.2.2.2.2.2.2.2.2.2.2.2.1, z.2.2.2.2.2.2.2.2.2.2.2.2.2.2.2.1, z.2.2.2.2.2.2.2.2.2.2.2.2.2.2.2.2.1, z.2.2.2.2.2.2.2.2.2.2.2.2.2.2.2.2.2.1, z.2.2.2.2.2.2.2.2.2.2.2.2.2.2.2.2.2.2.1, z.2.2.2.2.2.2.2.2.2.2.2.2.2.2.2.2.2.2.2.1, z.2.2.2.2.2.2.2.2.2.2.2.2.2.2.2.2.2.2.2.2.1, z.2.2.2.2.2.2.2.2.2.2.2.2.2.2.2.2.2.2.2.2.2.1, z.2.2.2.2.2.2.2.2.2.2.2.2.2.2.2.2.2.2.2.2.2.2.1, z.2.2.2.2.2.2.2.2.2.2.2.2.2.2.2.2.2.2.2.2.2.2.2.1, z.2.2.2.2.2.2.2.2.2.2.2.2.2.2.2.2.2.2.2.2.2.2.2.2.1, z.2.2.2.2.2.2.2.2.2.2.2.2.2.2.2.2.2.2.2.2.2.2.2.2.2.1, z.2.2.2.2.2.2.2.2.2.2.2.2.2.2.2.2.2.2.2.2.2.2.2.2.2.2.1, z.2.2.2.2.2.2.2.2.2.2.2.2.2.2.2.2.2.2.2.2.2.2.2.2.2.2.2.1, z.2.2.2.2.2.2.2.2.2.2.2.2.2.2.2.2.2.2.2.2.2.2.2.2.2.2.2.2.1, z.2.2.2.2.2.2.2.2.2.2.2.2.2.2.2.2.2.2.2.2.2.2.2.2.2.2.2.2.2.1, z.2.2.2.2.2.2.2.2.2.2.2.2.2.2.2.2.2.2.2.2.2.2.2.2.2.2.2.2.2.2.1, z.2.2.2.2.2.2.2.2.2.2.2.2.2.2.2.2.2.2.2.2.2.2.2.2.2.2.2.2.2.2.2)
def UnZ : Prop := ∀ (n r : Nat) (f : Nat → Int64), 4 ≤ n → n ≤ 24 → r ≤ 1 → aOkZ n r oneF f = true
def unZ (z : MZ) : MZ := s_tnp z (cp120 (naZ z.1 z.2.1 oneF z.2.2.2.2.2.2.2.2.2.2.2.2.2.2.2.2.2.2.1 5) 0 z.2.2.2.2.2.2.2.2.2.2.2.2.1 0) (cp120 oneF 0 z.2.2.2.2.2.2.2.2.2.2.2.2.2.1 0) (nI 0) 0
def rpZ (f fr : Nat → Int64) (i t : Nat) : Nat → Int64 := fun j => if 24 * i ≤ j ∧ j < 24 * i + 24 then fr (24 * t + (j - 24 * i)) else f j
theorem it_rp (c : Nat → Int64) (h : Nat → Int64) (b a : Nat) : ∀ t j : Nat, it (fun k h => vp_updL h (b + k) (c (a + k))) t h j = if b ≤ j ∧ j < b + t then c (a + (j - b)) else h j := it_cp c a h b
theorem chZ_s (f fr : Nat → Int64) (i t k : Nat) : chZ f fr i t (k + 1) = if f (24 * i + k) = fr (24 * t + k) then chZ f fr i t k else nI 1 := rfl
def rpI (f fr : Nat → Int64) (i t k : Nat) : Nat → Int64 := it (fun k h => vp_updL h (24 * i + k) (fr (24 * t + k))) k f
theorem rpI_s (f fr : Nat → Int64) (i t k : Nat) : rpI f fr i t (k + 1) = vp_updL (rpI f fr i t k) (24 * i + k) (fr (24 * t + k)) := rfl
theorem rpI_at (f fr : Nat → Int64) (i t k : Nat) : rpI f fr i t k (24 * i + k) = f (24 * i + k) := by
  unfold rpI
  rw [it_cp, if_neg (by omega)]
theorem rpI_end (f fr : Nat → Int64) (i t j : Nat) : rpI f fr i t 24 j = rpZ f fr i t j := by
  unfold rpI rpZ
  rw [it_cp]
theorem oneF_fill (c : Nat → Int64) (j : Nat) (hj : j < 120) : it (fun t h => vp_updL h t (oneF t)) 120 c j = oneF j := by
  rw [it_putL]
  exact if_pos hj
set_option maxHeartbeats 4000000 in
set_option maxRecDepth 100000 in
theorem c_X8_makeUnitPair {S : ST} {E : ET} {g : Nat → va_E} {z : MZ} (hM : MC S E g z) (hN : z.1 ≤ 24) (hr : z.2.1 ≤ 1) (hU : aOkZ z.1 z.2.1 oneF z.2.2.2.2.2.2.2.2.2.2.2.2.2.2.2.2.2.2.1 = true) : CtV S E yX8_makeUnitPair cX8_makeUnitPair 2 none rmX8_makeUnitPair [.ref (E.1 286)] g (fun g' => (∃ z', MC S E g' z' ∧ Sv z' (unZ z)) ∧ Fr g g' 286 308) := by
  refine Ct.of RX8 (by decide +kernel) rfl (Nat.le_of_ble_eq_true rfl) (fun M C Z => ?_)
  refine G.eq (pc' := 0) (vs' := [some (.ref (E.1 286)), none]) (st' := []) ?_
  refine r_iconst (pc := 0) (v := nI 0) C dX8_makeUnitPair_0 (by decide +kernel) ?_
  refine r_istore_n (pc := 1) C dX8_makeUnitPair_1 (by decide) ?_
  refine G.eq (pc' := 2) (vs' := [some (.ref (E.1 286)), some (.int (nI 0))]) (st' := []) ?_
  refine G.heap (Ce.id hM.2.2.2.2.2.2.2.2.2.1) ?_
  refine bk (P := fun t2 => G M S E (0, 0) (va_up g 295 (xJ S 120 (it (fun t h => vp_updL h t (oneF t)) t2 z.2.2.2.2.2.2.2.2.2.2.2.2.2.2.2.2.2.2.2.1))) 2 [some (.ref (E.1 286)), some (.int (nI t2))] []) (T := 120) ?_ (fun t2 ht ih => ?_)
  · show G M S E (0, 0) (va_up g 295 (xJ S 120 (it (fun t h => vp_updL h t (oneF t)) 120 z.2.2.2.2.2.2.2.2.2.2.2.2.2.2.2.2.2.2.2.1))) 2 [some (.ref (E.1 286)), some (.int (nI 120))] []
    refine r_iload_n (pc := 2) C dX8_makeUnitPair_2 rfl ?_
    refine r_bipush (pc := 3) (v := nI 120) C dX8_makeUnitPair_3 (by decide +kernel) ?_
    refine r_icmp_ge (pc := 5) (tgt := 29) C dX8_makeUnitPair_5 (by decide) (fun h5 => ?_) (fun h5 => ?_)
    · have h5 := c_le (by omega) (by omega) h5
      refine G.cJ (f' := oneF) (fun j hj => oneF_fill z.2.2.2.2.2.2.2.2.2.2.2.2.2.2.2.2.2.2.2.1 j hj) ?_
      refine r_aload_n (pc := 29) C dX8_makeUnitPair_29 rfl ?_
      have hf0 : Fr g (va_up g 295 (xJ S 120 oneF)) 286 308 := (Fr.rf.up (by omega) (by omega))
      refine r_callV (pc := 30) C dX8_makeUnitPair_30 cv_RX8_196 (c_X8_findAlpha ⟨_, (Ce.up hM.1 (by decide)), rfl, rfl, rfl, rfl, rfl, rfl, rfl, rfl, rfl, rfl, rfl, rfl, rfl, rfl, rfl, rfl, rfl, rfl, rfl, rfl, rfl, rfl, rfl⟩ hN hr (Ce.up hM.2.2.2.2.2.2.2.2.1 (by decide)) (Ce.new hM.2.2.2.2.2.2.2.2.2.1) (Ce.up hM.2.2.2.2.2.2.1 (by decide)) (Ce.up hM.2.2.2.2.2.2.2.1 (by decide))) ⟨rfl, rfl, by decide, by decide⟩ (Ce.up hM.1 (by decide)) rfl rfl (Nat.le_of_ble_eq_true rfl) ⟨Nat.zero_le _, Nat.zero_le _⟩ ?_
      rintro _ g2 ⟨_, rfl, rfl, ⟨a4, c4, e4⟩, c5, ⟨a2, c2⟩, ⟨a3, c3⟩, hf1⟩
      show G M S E (0, 0) g2 33 [some (.ref (E.1 286)), some (.int (nI 120))] [.int (b2i (aOkZ z.1 z.2.1 oneF z.2.2.2.2.2.2.2.2.2.2.2.2.2.2.2.2.2.2.1))]
      have e4 := e4 hU
      subst e4
      refine r_pop (pc := 33) C dX8_makeUnitPair_33 rfl ?_
      refine r_aload_n (pc := 34) C dX8_makeUnitPair_34 rfl ?_
      have hM1 : MC S E g2 (s_scr z a2 a3 (naZ z.1 z.2.1 oneF z.2.2.2.2.2.2.2.2.2.2.2.2.2.2.2.2.2.2.1 5) oneF) := (by simp only [MC, s_n, s_r, s_len, s_rem, s_pc, s_hd, s_at_, s_wr, s_cu, s_hs, s_sv, s_fr, s_fa, s_fb, s_fe, s_f1, s_f2, s_f3, s_f4, s_f5, s_f6, s_fp, s_fc, s_wd, s_bg, s_fi, s_fo, s_st, s_ss, s_fl, s_fm, s_fs, s_tnp, s_scr, s_f12, s_wr2, s_u, s_nr]; exact ⟨((Ce.up hM.1 (by decide)).fr hf1 (by omega)), ((Ce.up hM.2.1 (by decide)).fr hf1 (by omega)), ((Ce.up hM.2.2.1 (by decide)).fr hf1 (by omega)), ((Ce.up hM.2.2.2.1 (by decide)).fr hf1 (by omega)), ((Ce.up hM.2.2.2.2.1 (by decide)).fr hf1 (by omega)), ((Ce.up hM.2.2.2.2.2.1 (by decide)).fr hf1 (by omega)), c2, c3, c4, c5, ((Ce.up hM.2.2.2.2.2.2.2.2.2.2.1 (by decide)).fr hf1 (by omega)), ((Ce.up hM.2.2.2.2.2.2.2.2.2.2.2.1 (by decide)).fr hf1 (by omega)), ((Ce.up hM.2.2.2.2.2.2.2.2.2.2.2.2.1 (by decide)).fr hf1 (by omega)), ((Ce.up hM.2.2.2.2.2.2.2.2.2.2.2.2.2.1 (by decide)).fr hf1 (by omega)), ((Ce.up hM.2.2.2.2.2.2.2.2.2.2.2.2.2.2.1 (by decide)).fr hf1 (by omega)), ((Ce.up hM.2.2.2.2.2.2.2.2.2.2.2.2.2.2.2.1 (by decide)).fr hf1 (by omega)), ((Ce.up hM.2.2.2.2.2.2.2.2.2.2.2.2.2.2.2.2.1 (by decide)).fr hf1 (by omega)), ((Ce.up hM.2.2.2.2.2.2.2.2.2.2.2.2.2.2.2.2.2.1 (by decide)).fr hf1 (by omega)), ((Ce.up hM.2.2.2.2.2.2.2.2.2.2.2.2.2.2.2.2.2.2.1 (by decide)).fr hf1 (by omega)), ((Ce.up hM.2.2.2.2.2.2.2.2.2.2.2.2.2.2.2.2.2.2.2.1 (by decide)).fr hf1 (by omega)), ((Ce.up hM.2.2.2.2.2.2.2.2.2.2.2.2.2.2.2.2.2.2.2.2.1 (by decide)).fr hf1 (by omega)), ((Ce.up hM.2.2.2.2.2.2.2.2.2.2.2.2.2.2.2.2.2.2.2.2.2 (by decide)).fr hf1 (by omega))⟩)
      refine r_callV (pc := 35) C dX8_makeUnitPair_35 cv_RX8_200 (c_X8_takesNewPair hM1) ⟨rfl, rfl, by decide, by decide⟩ ((Ce.up hM.1 (by decide)).fr hf1 (by omega)) rfl rfl (Nat.le_of_ble_eq_true rfl) ⟨Nat.zero_le _, Nat.zero_le _⟩ ?_
      rintro _ g3 ⟨rfl, hM2, hF2⟩
      show G M S E (0, 0) g3 38 [some (.ref (E.1 286)), some (.int (nI 120))] []
      exact r_vret (pc := 38) C Z dX8_makeUnitPair_38 (⟨⟨_, hM2, (by simp only [Sv, s_n, s_r, s_len, s_rem, s_pc, s_hd, s_at_, s_wr, s_cu, s_hs, s_sv, s_fr, s_fa, s_fb, s_fe, s_f1, s_f2, s_f3, s_f4, s_f5, s_f6, s_fp, s_fc, s_wd, s_bg, s_fi, s_fo, s_st, s_ss, s_fl, s_fm, s_fs, s_tnp, s_scr, s_f12, s_wr2, s_u, s_nr, unZ, and_self])⟩, hf0.tr ((hf1.wide (lo' := 286) (hi' := 308) (by omega) (by omega)).tr hF2 (by omega) (by omega)) (by omega) (by omega)⟩)
    · have h5 := c_nle (by omega) (by omega) h5
      omega
  · show G M S E (0, 0) (va_up g 295 (xJ S 120 (it (fun t h => vp_updL h t (oneF t)) t2 z.2.2.2.2.2.2.2.2.2.2.2.2.2.2.2.2.2.2.2.1))) 2 [some (.ref (E.1 286)), some (.int (nI t2))] []
    refine r_iload_n (pc := 2) C dX8_makeUnitPair_2 rfl ?_
    refine r_bipush (pc := 3) (v := nI 120) C dX8_makeUnitPair_3 (by decide +kernel) ?_
    refine r_icmp_ge (pc := 5) (tgt := 29) C dX8_makeUnitPair_5 (by decide) (fun h5 => ?_) (fun h5 => ?_)
    · have h5 := c_le (by omega) (by omega) h5
      omega
    · have h5 := c_nle (by omega) (by omega) h5
      refine r_aload_n (pc := 8) C dX8_makeUnitPair_8 rfl ?_
      refine r_getf (pc := 9) C dX8_makeUnitPair_9 fl_RX8_46 (Ce.up hM.1 (by decide)) rfl ?_
      refine r_iload_n (pc := 12) C dX8_makeUnitPair_12 rfl ?_
      refine r_iload_n (pc := 13) C dX8_makeUnitPair_13 rfl ?_
      refine r_if_ne (pc := 14) (tgt := 21) C dX8_makeUnitPair_14 (by decide) (fun h14 => ?_) (fun h14 => ?_)
      · have h14 := z_ne (by omega) h14
        refine r_lconst (pc := 21) (v := 0) C dX8_makeUnitPair_21 rfl ?_
        refine r_tl (oneF t2) (if_neg h14).symm ?_
        refine r_last2 (pc := 22) C dX8_makeUnitPair_22 hM.2.2.2.2.2.2.2.2.2.1.1 rfl (by omega) (by omega) ?_
        refine r_iinc (pc := 23) (v := nI (t2 + 1)) C dX8_makeUnitPair_23 rfl (nI_i1 _) (by decide) ?_
        refine G.eq (pc' := 26) (vs' := [some (.ref (E.1 286)), some (.int (nI (t2 + 1)))]) (st' := []) ?_
        refine r_goto (pc := 26) (tgt := 2) C dX8_makeUnitPair_26 (by decide) ?_
        exact ih
      · have h14 := z_eq (by omega) h14
        refine r_lconst (pc := 17) (v := 1) C dX8_makeUnitPair_17 rfl ?_
        refine r_goto (pc := 18) (tgt := 22) C dX8_makeUnitPair_18 (by decide) ?_
        refine r_tl (oneF t2) (if_pos h14).symm ?_
        refine r_last2 (pc := 22) C dX8_makeUnitPair_22 hM.2.2.2.2.2.2.2.2.2.1.1 rfl (by omega) (by omega) ?_
        refine r_iinc (pc := 23) (v := nI (t2 + 1)) C dX8_makeUnitPair_23 rfl (nI_i1 _) (by decide) ?_
        refine G.eq (pc' := 26) (vs' := [some (.ref (E.1 286)), some (.int (nI (t2 + 1)))]) (st' := []) ?_
        refine r_goto (pc := 26) (tgt := 2) C dX8_makeUnitPair_26 (by decide) ?_
        exact ih
