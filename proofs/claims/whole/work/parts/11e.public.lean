def apI (x : Int32) (c : Nat) (v : Nat × (Nat → Nat)) (t : Nat) : Nat × (Nat → Nat) := it (fun j s => (s.1 + 1, va_up s.2 s.1 (iN (byO x (nI (c - j - 1)))))) t v
theorem apI_1 (x : Int32) (c : Nat) (v : Nat × (Nat → Nat)) : ∀ t : Nat, (apI x c v t).1 = v.1 + t
  | 0 => rfl
  | t + 1 => by
    show (apI x c v t).1 + 1 = _
    rw [apI_1 x c v t]; omega
theorem by_ge (a : Int32) : ¬ (a &&& 255) < 0 := by
  rw [Int32.lt_iff_toInt_lt]
  have e : (a &&& 255).toBitVec.toNat ≤ 255 := by
    rw [Int32.toBitVec_and, BitVec.toNat_and]
    exact Nat.and_le_right
  have h : (a &&& 255).toInt = ((a &&& 255).toBitVec.toNat : Int) := by
    show (a &&& 255).toBitVec.toInt = _
    exact BitVec.toInt_eq_toNat_of_lt (by omega)
  rw [h]
  show ¬ _ < (0 : Int)
  omega
theorem by_eq (x p : Int32) : byO x p = nI (iN (byO x p)) := by
  obtain ⟨t, ht, hl⟩ := nat_ge0 (x := byO x p) (by_ge _)
  rw [ht, iN_nI hl]
theorem by_lt {x p : Int32} (h : byO x p ≤ nI 127) : iN (byO x p) < 128 := by
  obtain ⟨t, ht, hl⟩ := nat_ge0 (x := byO x p) (by_ge _)
  rw [ht] at h ⊢
  rw [iN_nI hl]
  have := c_le hl (by decide) h
  omega
theorem apI_128 {x : Int32} {c : Nat} {v : Nat × (Nat → Nat)} (h : ∀ k, v.2 k < 128) (hb : ∀ j, j < c → byO x (nI j) ≤ nI 127) : ∀ t : Nat, t ≤ c → ∀ k, (apI x c v t).2 k < 128
  | 0, _, k => h k
  | t + 1, ht, k => by
    show va_up (apI x c v t).2 (apI x c v t).1 (iN (byO x (nI (c - t - 1)))) k < 128
    by_cases e : k = (apI x c v t).1
    · subst e; rw [va_up_self]; exact by_lt (hb _ (by omega))
    · rw [va_up_ne _ _ e]; exact apI_128 h hb t (by omega) k
def oApp (k : KV) (x y : Int32) : Int32 × KV := if y < nI 1 then (-1, k) else if y ≤ nI 4 then (bif allB (fun j => decide (byO x (nI j) ≤ nI 127)) (iN y) then (if k.2.2.2.2.2.2.1.1 + iN y ≤ 60 then (nI (apI x (iN y) k.2.2.2.2.2.2.1 (iN y)).1, kIn k (apI x (iN y) k.2.2.2.2.2.2.1 (iN y))) else (-6, k)) else (-1, k)) else (-1, k)
def kPt (k : KV) (v : Nat × (Nat → Nat)) : KV := (k.1, k.2.1, k.2.2.1, k.2.2.2.1, k.2.2.2.2.1, v, k.2.2.2.2.2.2)
/-- how many partitions a number has -/
def pcN (m : Nat) : Nat := [1, 1, 2, 3, 5, 7, 11, 15, 22, 30, 42, 56, 77, 101, 135, 176, 231].getD m 1
theorem pcN_b {m : Nat} (h : m ≤ 16) : 1 ≤ pcN m ∧ pcN m ≤ 231 := (show ∀ m : Nat, m < 17 → 1 ≤ pcN m ∧ pcN m ≤ 231 by decide) m (by omega)
def PtOk : Prop := ∀ (m : Nat) (y : Nat → Nat), 1 ≤ m → m ≤ 16 → (∀ t, t < pcN m - 1 → lpN (fun k => ysF m y t ((1 + t - 1) * 16 + k)) 16 ≠ 0) ∧ (pcN m - 1 + 1 < 231 → lpN (fun k => ysF m y (pcN m - 1) ((1 + (pcN m - 1) - 1) * 16 + k)) 16 = 0)
def oLst (k : KV) (x : Int32) : Int32 × KV := if x < nI 1 then (-1, k) else if x ≤ nI 16 then (nI (1 + (pcN (iN x) - 1)), kPt k (1 + (pcN (iN x) - 1), ysF (iN x) k.2.2.2.2.2.1.2 (pcN (iN x) - 1))) else (-1, k)
set_option maxHeartbeats 4000000 in
set_option maxRecDepth 100000 in
theorem c_X7_append {S : ST} {E : ET} {g : Nat → va_E} {hsn : Bool} {v v2 : SV} {rem rem2 : Nat → PV} {pt inp : Nat × (Nat → Nat)} {out : BV} {sl : Nat → SlV} (hB : BC S E g (hsn, v, rem, v2, rem2, pt, inp, out, sl)) (hO : SOk v) (x y : Int32) : CtI S E yX7_append cX7_append 4 (Option.some FieldType.int) rmX7_append [.ref (E.1 0), .int x, .int y] g (fun u g' => u = (oApp (hsn, v, rem, v2, rem2, pt, inp, out, sl) x y).1 ∧ BC S E g' (oApp (hsn, v, rem, v2, rem2, pt, inp, out, sl) x y).2 ∧ Fr g g' 0 286) := by
  refine Ct.of RX7 (by decide +kernel) rfl (Nat.le_of_ble_eq_true rfl) (fun M C Z => ?_)
  refine G.eq (pc' := 0) (vs' := [some (.ref (E.1 0)), some (.int x), some (.int y), none]) (st' := []) ?_
  obtain ⟨ho, hL, hV, hSc, hWy, hPt, hIn, hOu, hSl⟩ := id hB
  have ho : Ce E g 0 (.inr (7, [.ref (E.1 1), .ref (E.1 127), .int (b2i hsn), .ref (E.1 253), .ref (E.1 266), .ref (E.1 268), .ref (E.1 270), .ref (E.1 271), .ref (E.1 273), .ref (E.1 275), .ref (E.1 277)])) := ho
  have hL : StL S E g 1 v rem := hL
  obtain ⟨pi, ra, hs, hl⟩ := id hL
  obtain ⟨hN4, hN, hr1⟩ := id hO
  have hIn : InAt S E g inp := hIn
  obtain ⟨⟨p0, hq⟩, hx, h128, hi60⟩ := id hIn
  refine r_iload_n (pc := 0) C dX7_append_0 rfl ?_
  refine r_iconst (pc := 1) (v := nI 1) C dX7_append_1 (by decide +kernel) ?_
  refine r_icmp_lt (pc := 2) (tgt := 10) C dX7_append_2 (by decide) (fun h2 => ?_) (fun h2 => ?_)
  · refine r_iconst (pc := 10) (v := (-1)) C dX7_append_10 (by decide +kernel) ?_
    exact r_iret (pc := 11) C Z dX7_append_11 rfl (by rw [show oApp (hsn, v, rem, v2, rem2, pt, inp, out, sl) x y = (-1, (hsn, v, rem, v2, rem2, pt, inp, out, sl)) by simp only [oApp, h2, cond_true, cond_false, if_true, if_false, not_true_eq_false, not_false_eq_true, ↓reduceIte]]; exact ⟨rfl, hB, Fr.rf⟩)
  · refine r_iload_n (pc := 5) C dX7_append_5 rfl ?_
    refine r_iconst (pc := 6) (v := nI 4) C dX7_append_6 (by decide +kernel) ?_
    refine r_icmp_le (pc := 7) (tgt := 12) C dX7_append_7 (by decide) (fun h7 => ?_) (fun h7 => ?_)
    · obtain ⟨c, rfl, hc1, hc⟩ := nat_ge (by decide) h2
      have hc4 := c_le hc (by decide) h7
      refine r_iconst (pc := 12) (v := nI 0) C dX7_append_12 (by decide +kernel) ?_
      refine r_istore_n (pc := 13) C dX7_append_13 (by decide) ?_
      refine G.eq (pc' := 14) (vs' := [some (.ref (E.1 0)), some (.int x), some (.int (nI c)), some (.int (nI 0))]) (st' := []) ?_
      refine bk (P := fun t2 => (∀ j : Nat, j < t2 → byO x (nI j) ≤ nI 127) → G M S E (0, 0) g 14 [some (.ref (E.1 0)), some (.int x), some (.int (nI c)), some (.int (nI t2))] []) (T := c) (fun hh => ?_) (fun t2 ht ih hh => ?_) (fun j hj => absurd hj (Nat.not_lt_zero j))
      · show G M S E (0, 0) g 14 [some (.ref (E.1 0)), some (.int x), some (.int (nI c)), some (.int (nI c))] []
        refine r_iload_n (pc := 14) C dX7_append_14 rfl ?_
        refine r_iload_n (pc := 15) C dX7_append_15 rfl ?_
        refine r_icmp_ge (pc := 16) (tgt := 37) C dX7_append_16 (by decide) (fun h16 => ?_) (fun h16 => ?_)
        · have h16 := c_le (by omega) (by omega) h16
          have hal : allB (fun j => decide (byO x (nI j) ≤ nI 127)) c = true := allB_t fun j hj => decide_eq_true (hh j hj)
          refine r_aload_n (pc := 37) C dX7_append_37 rfl ?_
          refine r_getf (pc := 38) C dX7_append_38 fl_RX7_56 ho rfl ?_
          refine r_getf (pc := 41) C dX7_append_41 fl_RX7_234 hq rfl ?_
          refine r_iload_n (pc := 44) C dX7_append_44 rfl ?_
          refine r_iadd (pc := 45) C dX7_append_45 ?_
          refine r_ti (nI (inp.1 + c)) (nI_add _ _) ?_
          refine r_bipush (pc := 46) (v := nI 60) C dX7_append_46 (by decide +kernel) ?_
          refine r_icmp_le (pc := 48) (tgt := 54) C dX7_append_48 (by decide) (fun h48 => ?_) (fun h48 => ?_)
          · have h48 := c_le (by omega) (by omega) h48
            refine r_iload_n (pc := 54) C dX7_append_54 rfl ?_
            refine r_iconst (pc := 55) (v := nI 1) C dX7_append_55 (by decide +kernel) ?_
            refine r_isub (pc := 56) C dX7_append_56 ?_
            refine r_ti (mI c) rfl ?_
            refine r_istore_n (pc := 57) C dX7_append_57 (by decide) ?_
            refine G.eq (pc' := 58) (vs' := [some (.ref (E.1 0)), some (.int x), some (.int (nI c)), some (.int (mI c))]) (st' := []) ?_
            refine G.heap (Ce.id hx) ?_
            refine G.heap (Ce.id (Ce.up hq (by omega))) ?_
            refine bk (P := fun t2 => G M S E (0, 0) (va_up (va_up g (273 + 1) (xB S 60 (fun k => nI ((apI x c inp t2).2 k)))) 273 (.inr (0, [.ref (E.1 (273 + 1)), .int (nI ((apI x c inp t2).1)), .int (nI p0)]))) 58 [some (.ref (E.1 0)), some (.int x), some (.int (nI c)), some (.int (mI (c - t2)))] []) (T := c) ?_ (fun t2 ht ih => ?_)
            · show G M S E (0, 0) (va_up (va_up g (273 + 1) (xB S 60 (fun k => nI ((apI x c inp c).2 k)))) 273 (.inr (0, [.ref (E.1 (273 + 1)), .int (nI ((apI x c inp c).1)), .int (nI p0)]))) 58 [some (.ref (E.1 0)), some (.int x), some (.int (nI c)), some (.int (mI (c - c)))] []
              refine r_iload_n (pc := 58) C dX7_append_58 rfl ?_
              refine r_if_lt (pc := 59) (tgt := 80) C dX7_append_59 (by decide) (fun h59 => ?_) (fun h59 => ?_)
              · have h59 := m_lt0 (by omega) h59
                refine r_aload_n (pc := 80) C dX7_append_80 rfl ?_
                refine r_getf (pc := 81) C dX7_append_81 fl_RX7_56 (Ce.up (Ce.up ho (by omega)) (by decide)) rfl ?_
                refine r_getf (pc := 84) C dX7_append_84 fl_RX7_234 (Ce.new (Ce.up hq (by omega))) rfl ?_
                have ha1 := apI_1 x c inp c
                have ha8 := apI_128 h128 hh c (Nat.le_refl _)
                have hf2 : Fr g (va_up (va_up g (273 + 1) (xB S 60 (fun k => nI ((apI x c inp c).2 k)))) 273 (.inr (0, [.ref (E.1 (273 + 1)), .int (nI ((apI x c inp c).1)), .int (nI p0)]))) 273 275 := ((Fr.rf.up (by omega) (by omega)).up (by omega) (by omega))
                have hB2 := hB.inp hf2 (show InAt S E (va_up (va_up g (273 + 1) (xB S 60 (fun k => nI ((apI x c inp c).2 k)))) 273 (.inr (0, [.ref (E.1 (273 + 1)), .int (nI ((apI x c inp c).1)), .int (nI p0)]))) (apI x c inp c) from ⟨⟨p0, (Ce.new (Ce.up hq (by omega)))⟩, (Ce.up (Ce.new hx) (by omega)), ha8, by omega⟩)
                exact r_iret (pc := 87) C Z dX7_append_87 rfl (by rw [show oApp (hsn, v, rem, v2, rem2, pt, inp, out, sl) x (nI c) = (nI (apI x c inp c).1, kIn (hsn, v, rem, v2, rem2, pt, inp, out, sl) (apI x c inp c)) by simp only [oApp, h2, h7, hal, h48, iN_nI hc, cond_true, cond_false, if_true, if_false, not_true_eq_false, not_false_eq_true, ↓reduceIte]]; exact ⟨rfl, hB2, hf2.wide (by omega) (by omega)⟩)
              · have h59 := m_nlt0 (by omega) h59
                omega
            · show G M S E (0, 0) (va_up (va_up g (273 + 1) (xB S 60 (fun k => nI ((apI x c inp t2).2 k)))) 273 (.inr (0, [.ref (E.1 (273 + 1)), .int (nI ((apI x c inp t2).1)), .int (nI p0)]))) 58 [some (.ref (E.1 0)), some (.int x), some (.int (nI c)), some (.int (mI (c - t2)))] []
              refine r_iload_n (pc := 58) C dX7_append_58 rfl ?_
              refine r_if_lt (pc := 59) (tgt := 80) C dX7_append_59 (by decide) (fun h59 => ?_) (fun h59 => ?_)
              · have h59 := m_lt0 (by omega) h59
                omega
              · have h59 := m_nlt0 (by omega) h59
                rw [show c - t2 = c - t2 - 1 + 1 by omega, mI_s]
                refine r_aload_n (pc := 62) C dX7_append_62 rfl ?_
                refine r_getf (pc := 63) C dX7_append_63 fl_RX7_56 (Ce.up (Ce.up ho (by omega)) (by decide)) rfl ?_
                refine r_iload_n (pc := 66) C dX7_append_66 rfl ?_
                refine r_iload_n (pc := 67) C dX7_append_67 rfl ?_
                refine r_callS (pc := 68) C dX7_append_68 cs_RX7_242 (c_X7_byteOf x (nI (c - t2 - 1))) ⟨rfl, rfl, by decide, by decide⟩ rfl rfl (Nat.le_of_ble_eq_true rfl) ⟨Nat.zero_le _, Nat.zero_le _⟩ ?_
                rintro _ _ ⟨_, rfl, rfl, rfl⟩
                show G M S E (0, 0) (va_up (va_up g (273 + 1) (xB S 60 (fun k => nI ((apI x c inp t2).2 k)))) 273 (.inr (0, [.ref (E.1 (273 + 1)), .int (nI ((apI x c inp t2).1)), .int (nI p0)]))) 71 [some (.ref (E.1 0)), some (.int x), some (.int (nI c)), some (.int (nI (c - t2 - 1)))] [.int (byO x (nI (c - t2 - 1))), .ref (E.1 273)]
                refine r_ti (nI (iN (byO x (nI (c - t2 - 1))))) (by_eq _ _) ?_
                have ha1 := apI_1 x c inp t2
                have ha8 := apI_128 h128 hh t2 (by omega)
                refine r_callV (pc := 71) C dX7_append_71 cv_RX7_245 (c_X0_put (Ce.new (Ce.up hq (by omega))) (Ce.up (Ce.new hx) (by omega)) (by omega) ha8 (iN (byO x (nI (c - t2 - 1)))) (by_lt (hh _ (by omega))) (by omega)) ⟨rfl, rfl, by decide, by decide⟩ (Ce.new (Ce.up hq (by omega))) rfl rfl (Nat.le_of_ble_eq_true rfl) ⟨Nat.zero_le _, Nat.zero_le _⟩ ?_
                rintro _ _ ⟨rfl, rfl⟩
                show G M S E (0, 0) (va_up (va_up (va_up (va_up g (273 + 1) (xB S 60 (fun k => nI ((apI x c inp t2).2 k)))) 273 (.inr (0, [.ref (E.1 (273 + 1)), .int (nI ((apI x c inp t2).1)), .int (nI p0)]))) (273 + 1) (xB S 60 (fun j => nI (va_up (apI x c inp t2).2 (apI x c inp t2).1 (iN (byO x (nI (c - t2 - 1)))) j)))) 273 (.inr (0, [.ref (E.1 (273 + 1)), .int (nI ((apI x c inp t2).1 + 1)), .int (nI p0)]))) 74 [some (.ref (E.1 0)), some (.int x), some (.int (nI c)), some (.int (nI (c - t2 - 1)))] []
                refine G.heap (show (va_up (va_up (va_up (va_up g (273 + 1) (xB S 60 (fun k => nI ((apI x c inp t2).2 k)))) 273 (.inr (0, [.ref (E.1 (273 + 1)), .int (nI ((apI x c inp t2).1)), .int (nI p0)]))) (273 + 1) (xB S 60 (fun j => nI (va_up (apI x c inp t2).2 (apI x c inp t2).1 (iN (byO x (nI (c - t2 - 1)))) j)))) 273 (.inr (0, [.ref (E.1 (273 + 1)), .int (nI ((apI x c inp t2).1 + 1)), .int (nI p0)]))) = (va_up (va_up g (273 + 1) (xB S 60 (fun j => nI (va_up (apI x c inp t2).2 (apI x c inp t2).1 (iN (byO x (nI (c - t2 - 1)))) j)))) 273 (.inr (0, [.ref (E.1 (273 + 1)), .int (nI ((apI x c inp t2).1 + 1)), .int (nI p0)]))) from by funext q; simp only [va_up]; (repeat' split) <;> first | rfl | omega) ?_
                refine r_iinc (pc := 74) (v := mI (c - t2 - 1)) C dX7_append_74 rfl (nI_m1 _) (by decide) ?_
                refine G.eq (pc' := 77) (vs' := [some (.ref (E.1 0)), some (.int x), some (.int (nI c)), some (.int (mI (c - t2 - 1)))]) (st' := []) ?_
                refine r_goto (pc := 77) (tgt := 58) C dX7_append_77 (by decide) ?_
                exact ih
          · have h48 := c_nle (by omega) (by omega) h48
            refine r_bipush (pc := 51) (v := (-6)) C dX7_append_51 (by decide +kernel) ?_
            have h48' : ¬ inp.1 + c ≤ 60 := by omega
            exact r_iret (pc := 53) C Z dX7_append_53 rfl (by rw [show oApp (hsn, v, rem, v2, rem2, pt, inp, out, sl) x (nI c) = (-6, (hsn, v, rem, v2, rem2, pt, inp, out, sl)) by simp only [oApp, h2, h7, hal, h48', iN_nI hc, cond_true, cond_false, if_true, if_false, not_true_eq_false, not_false_eq_true, ↓reduceIte]]; exact ⟨rfl, hB, Fr.rf⟩)
        · have h16 := c_nle (by omega) (by omega) h16
          omega
      · show G M S E (0, 0) g 14 [some (.ref (E.1 0)), some (.int x), some (.int (nI c)), some (.int (nI t2))] []
        refine r_iload_n (pc := 14) C dX7_append_14 rfl ?_
        refine r_iload_n (pc := 15) C dX7_append_15 rfl ?_
        refine r_icmp_ge (pc := 16) (tgt := 37) C dX7_append_16 (by decide) (fun h16 => ?_) (fun h16 => ?_)
        · have h16 := c_le (by omega) (by omega) h16
          omega
        · have h16 := c_nle (by omega) (by omega) h16
          refine r_iload_n (pc := 19) C dX7_append_19 rfl ?_
          refine r_iload_n (pc := 20) C dX7_append_20 rfl ?_
          refine r_callS (pc := 21) C dX7_append_21 cs_RX7_242 (c_X7_byteOf x (nI t2)) ⟨rfl, rfl, by decide, by decide⟩ rfl rfl (Nat.le_of_ble_eq_true rfl) ⟨Nat.zero_le _, Nat.zero_le _⟩ ?_
          rintro _ _ ⟨_, rfl, rfl, rfl⟩
          show G M S E (0, 0) g 24 [some (.ref (E.1 0)), some (.int x), some (.int (nI c)), some (.int (nI t2))] [.int (byO x (nI t2))]
          refine r_bipush (pc := 24) (v := nI 127) C dX7_append_24 (by decide +kernel) ?_
          refine r_icmp_le (pc := 26) (tgt := 31) C dX7_append_26 (by decide) (fun h26 => ?_) (fun h26 => ?_)
          · refine r_iinc (pc := 31) (v := nI (t2 + 1)) C dX7_append_31 rfl (nI_i1 _) (by decide) ?_
            refine G.eq (pc' := 34) (vs' := [some (.ref (E.1 0)), some (.int x), some (.int (nI c)), some (.int (nI (t2 + 1)))]) (st' := []) ?_
            refine r_goto (pc := 34) (tgt := 14) C dX7_append_34 (by decide) ?_
            exact (ih (lt_s hh h26))
          · refine r_iconst (pc := 29) (v := (-1)) C dX7_append_29 (by decide +kernel) ?_
            have hal : allB (fun j => decide (byO x (nI j) ≤ nI 127)) c = false := allB_f ht (decide_eq_false h26)
            exact r_iret (pc := 30) C Z dX7_append_30 rfl (by rw [show oApp (hsn, v, rem, v2, rem2, pt, inp, out, sl) x (nI c) = (-1, (hsn, v, rem, v2, rem2, pt, inp, out, sl)) by simp only [oApp, h2, h7, hal, iN_nI hc, cond_true, cond_false, if_true, if_false, not_true_eq_false, not_false_eq_true, ↓reduceIte]]; exact ⟨rfl, hB, Fr.rf⟩)
    · refine r_iconst (pc := 10) (v := (-1)) C dX7_append_10 (by decide +kernel) ?_
      exact r_iret (pc := 11) C Z dX7_append_11 rfl (by rw [show oApp (hsn, v, rem, v2, rem2, pt, inp, out, sl) x y = (-1, (hsn, v, rem, v2, rem2, pt, inp, out, sl)) by simp only [oApp, h2, h7, cond_true, cond_false, if_true, if_false, not_true_eq_false, not_false_eq_true, ↓reduceIte]]; exact ⟨rfl, hB, Fr.rf⟩)
set_option maxHeartbeats 4000000 in
set_option maxRecDepth 100000 in
theorem c_X7_listPartitions {S : ST} {E : ET} {g : Nat → va_E} {hsn : Bool} {v v2 : SV} {rem rem2 : Nat → PV} {pt inp : Nat × (Nat → Nat)} {out : BV} {sl : Nat → SlV} (hB : BC S E g (hsn, v, rem, v2, rem2, pt, inp, out, sl)) (hO : SOk v) (hP : PtOk) (x : Int32) : CtI S E yX7_listPartitions cX7_listPartitions 2 (Option.some FieldType.int) rmX7_listPartitions [.ref (E.1 0), .int x] g (fun u g' => u = (oLst (hsn, v, rem, v2, rem2, pt, inp, out, sl) x).1 ∧ BC S E g' (oLst (hsn, v, rem, v2, rem2, pt, inp, out, sl) x).2 ∧ Fr g g' 0 286) := by
  refine Ct.of RX7 (by decide +kernel) rfl (Nat.le_of_ble_eq_true rfl) (fun M C Z => ?_)
  refine G.eq (pc' := 0) (vs' := [some (.ref (E.1 0)), some (.int x)]) (st' := []) ?_
  obtain ⟨ho, hL, hV, hSc, hWy, hPt, hIn, hOu, hSl⟩ := id hB
  have ho : Ce E g 0 (.inr (7, [.ref (E.1 1), .ref (E.1 127), .int (b2i hsn), .ref (E.1 253), .ref (E.1 266), .ref (E.1 268), .ref (E.1 270), .ref (E.1 271), .ref (E.1 273), .ref (E.1 275), .ref (E.1 277)])) := ho
  have hL : StL S E g 1 v rem := hL
  obtain ⟨pi, ra, hs, hl⟩ := id hL
  obtain ⟨hN4, hN, hr1⟩ := id hO
  have hPt : PtAt S E g pt := hPt
  refine r_iload_n (pc := 0) C dX7_listPartitions_0 rfl ?_
  refine r_iconst (pc := 1) (v := nI 1) C dX7_listPartitions_1 (by decide +kernel) ?_
  refine r_icmp_lt (pc := 2) (tgt := 11) C dX7_listPartitions_2 (by decide) (fun h2 => ?_) (fun h2 => ?_)
  · refine r_iconst (pc := 11) (v := (-1)) C dX7_listPartitions_11 (by decide +kernel) ?_
    exact r_iret (pc := 12) C Z dX7_listPartitions_12 rfl (by rw [show oLst (hsn, v, rem, v2, rem2, pt, inp, out, sl) x = (-1, (hsn, v, rem, v2, rem2, pt, inp, out, sl)) by simp only [oLst, h2, cond_true, cond_false, if_true, if_false, not_true_eq_false, not_false_eq_true, ↓reduceIte]]; exact ⟨rfl, hB, Fr.rf⟩)
  · refine r_iload_n (pc := 5) C dX7_listPartitions_5 rfl ?_
    refine r_bipush (pc := 6) (v := nI 16) C dX7_listPartitions_6 (by decide +kernel) ?_
    refine r_icmp_le (pc := 8) (tgt := 13) C dX7_listPartitions_8 (by decide) (fun h8 => ?_) (fun h8 => ?_)
    · obtain ⟨m, rfl, hm1, hm⟩ := nat_ge (by decide) h2
      have hm2 := c_le hm (by decide) h8
      have hpc := pcN_b hm2
      refine r_aload_n (pc := 13) C dX7_listPartitions_13 rfl ?_
      refine r_getf (pc := 14) C dX7_listPartitions_14 fl_RX7_49 ho rfl ?_
      refine r_iload_n (pc := 17) C dX7_listPartitions_17 rfl ?_
      refine r_callV (pc := 18) C dX7_listPartitions_18 cv_RX7_224 (c_X3_fillWith hPt.1 hPt.2.1 hPt.2.2.1 m hm2 (pcN m - 1) (by omega) (hP m pt.2 hm1 hm2).1 (hP m pt.2 hm1 hm2).2) ⟨rfl, rfl, by decide, by decide⟩ hPt.1 rfl rfl (Nat.le_of_ble_eq_true rfl) ⟨Nat.zero_le _, Nat.zero_le _⟩ ?_
      rintro _ _ ⟨rfl, rfl⟩
      show G M S E (0, 0) (va_up (va_up g (271 + 1) (xB S 3696 (fun k => nI (ysF m pt.2 (pcN m - 1) k)))) 271 (.inr (3, [.ref (E.1 (271 + 1)), .int (nI (1 + (pcN m - 1)))]))) 21 [some (.ref (E.1 0)), some (.int (nI m))] []
      refine r_aload_n (pc := 21) C dX7_listPartitions_21 rfl ?_
      refine r_getf (pc := 22) C dX7_listPartitions_22 fl_RX7_49 (Ce.up (Ce.up ho (by omega)) (by decide)) rfl ?_
      refine r_getf (pc := 25) C dX7_listPartitions_25 fl_RX7_227 (Ce.new (Ce.up hPt.1 (by omega))) rfl ?_
      have hf2 : Fr g (va_up (va_up g (271 + 1) (xB S 3696 (fun k => nI (ysF m pt.2 (pcN m - 1) k)))) 271 (.inr (3, [.ref (E.1 (271 + 1)), .int (nI (1 + (pcN m - 1)))]))) 271 273 := ((Fr.rf.up (by omega) (by omega)).up (by omega) (by omega))
      have hB2 := hB.pt hf2 (show PtAt S E (va_up (va_up g (271 + 1) (xB S 3696 (fun k => nI (ysF m pt.2 (pcN m - 1) k)))) 271 (.inr (3, [.ref (E.1 (271 + 1)), .int (nI (1 + (pcN m - 1)))]))) (1 + (pcN m - 1), ysF m pt.2 (pcN m - 1)) from ⟨(Ce.new (Ce.up hPt.1 (by omega))), (Ce.up (Ce.new hPt.2.1) (by omega)), ysF_le hPt.2.2.1 hm2 _, show 1 + (pcN m - 1) ≤ 231 by omega⟩)
      exact r_iret (pc := 28) C Z dX7_listPartitions_28 rfl (by rw [show oLst (hsn, v, rem, v2, rem2, pt, inp, out, sl) (nI m) = (nI (1 + (pcN m - 1)), kPt (hsn, v, rem, v2, rem2, pt, inp, out, sl) (1 + (pcN m - 1), ysF m pt.2 (pcN m - 1))) by simp only [oLst, h2, h8, iN_nI hm, cond_true, cond_false, if_true, if_false, not_true_eq_false, not_false_eq_true, ↓reduceIte]]; exact ⟨rfl, hB2, hf2.wide (by omega) (by omega)⟩)
    · refine r_iconst (pc := 11) (v := (-1)) C dX7_listPartitions_11 (by decide +kernel) ?_
      exact r_iret (pc := 12) C Z dX7_listPartitions_12 rfl (by rw [show oLst (hsn, v, rem, v2, rem2, pt, inp, out, sl) x = (-1, (hsn, v, rem, v2, rem2, pt, inp, out, sl)) by simp only [oLst, h2, h8, cond_true, cond_false, if_true, if_false, not_true_eq_false, not_false_eq_true, ↓reduceIte]]; exact ⟨rfl, hB, Fr.rf⟩)
