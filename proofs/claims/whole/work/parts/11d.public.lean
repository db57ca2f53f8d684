def kSl (k : KV) (j : Nat) (v : SlV) : KV := (k.1, k.2.1, k.2.2.1, k.2.2.2.1, k.2.2.2.2.1, k.2.2.2.2.2.1, k.2.2.2.2.2.2.1, k.2.2.2.2.2.2.2.1, va_up k.2.2.2.2.2.2.2.2 j v)
def kOu (k : KV) (b : BV) : KV := (k.1, k.2.1, k.2.2.1, k.2.2.2.1, k.2.2.2.2.1, k.2.2.2.2.2.1, k.2.2.2.2.2.2.1, b, k.2.2.2.2.2.2.2.2)
def oRel (k : KV) (x : Int32) : Int32 × KV := bif hix 4 x then (bif (k.2.2.2.2.2.2.2.2 (iN x)).1 then (nI 1, kSl k (iN x) (false, (k.2.2.2.2.2.2.2.2 (iN x)).2)) else (nI 0, k)) else (-1, k)
def oAll (k : KV) (x y z : Int32) : Int32 × KV := bif hix 4 x then (if y < 0 then (-1, k) else if nI 3 < y then (-1, k) else if z ≤ nI 40 then (if 0 ≤ z then (z, kSl k (iN x) (true, iN y, iN z, (fun _ => 0))) else (-14, k)) else (-1, k)) else (-1, k)
def oPut (k : KV) (x y : Int32) (z : Int64) : Int32 × KV := bif hix 4 x then (bif (k.2.2.2.2.2.2.2.2 (iN x)).1 then (bif hix (k.2.2.2.2.2.2.2.2 (iN x)).2.2.1 y then (nI 1, kSl k (iN x) (true, (k.2.2.2.2.2.2.2.2 (iN x)).2.1, (k.2.2.2.2.2.2.2.2 (iN x)).2.2.1, vp_updL (k.2.2.2.2.2.2.2.2 (iN x)).2.2.2 (iN y) (nrw (k.2.2.2.2.2.2.2.2 (iN x)).2.1 z))) else (-13, k)) else (-11, k)) else (-1, k)
def oEle (k : KV) (x y : Int32) : Int64 := bif hix 4 x then (bif (k.2.2.2.2.2.2.2.2 (iN x)).1 then (bif hix (k.2.2.2.2.2.2.2.2 (iN x)).2.2.1 y then (k.2.2.2.2.2.2.2.2 (iN x)).2.2.2 (iN y) else -9223372036854775808) else -9223372036854775808) else -9223372036854775808
def oCpy (k : KV) (x a y b c : Int32) : Int32 × KV := bif hix 4 x then (bif hix 4 y then (bif (k.2.2.2.2.2.2.2.2 (iN x)).1 then (bif (k.2.2.2.2.2.2.2.2 (iN y)).1 then (if (k.2.2.2.2.2.2.2.2 (iN x)).2.1 = (k.2.2.2.2.2.2.2.2 (iN y)).2.1 then (bif hrg (k.2.2.2.2.2.2.2.2 (iN x)).2.2.1 a c then (bif hrg (k.2.2.2.2.2.2.2.2 (iN y)).2.2.1 b c then (c, kSl k (iN y) (true, (k.2.2.2.2.2.2.2.2 (iN y)).2.1, (k.2.2.2.2.2.2.2.2 (iN y)).2.2.1, va_cpy (k.2.2.2.2.2.2.2.2 (iN x)).2.2.2 (k.2.2.2.2.2.2.2.2 (iN y)).2.2.2 (iN a) (iN b) (iN c))) else (-13, k)) else (-13, k)) else (-12, k)) else (-11, k)) else (-11, k)) else (-1, k)) else (-1, k)
def oCmp (k : KV) (x y : Int32) : Int32 := bif hix 4 x then (bif hix 6 y then (bif (k.2.2.2.2.2.2.2.2 (iN x)).1 then fd (fun j => decide (¬ (k.2.2.2.2.2.2.2.2 (iN x)).2.2.2 j = (k.2.1.2.1 (iN y) j).toInt64)) (if (k.2.2.2.2.2.2.2.2 (iN x)).2.2.1 = k.2.1.1 then -7 else nI (min (k.2.2.2.2.2.2.2.2 (iN x)).2.2.1 k.2.1.1)) (min (k.2.2.2.2.2.2.2.2 (iN x)).2.2.1 k.2.1.1) 0 else -11) else -2) else -1
def oFmt (k : KV) (x : Int32) : Int32 × KV := bif hix 6 x then (nI (wser (k.2.1.2.1 (iN x)) k.2.1.1 k.2.2.2.2.2.2.2.1.2).1, kOu k (wser (k.2.1.2.1 (iN x)) k.2.1.1 k.2.2.2.2.2.2.2.1.2)) else (-2, k)
def oPar (k : KV) (x : Int32) : Int32 × KV := bif hix 6 x then (bif (rser k.2.2.2.2.2.2.1.1 k.2.2.2.2.2.2.1.2 k.2.1.1 (fun _ => 0)).1 then kp (kIn k (0, k.2.2.2.2.2.2.1.2)) (rser k.2.2.2.2.2.2.1.1 k.2.2.2.2.2.2.1.2 k.2.1.1 (fun _ => 0)).2.2 (iN x) else (-1000 - nI (rser k.2.2.2.2.2.2.1.1 k.2.2.2.2.2.2.1.2 k.2.1.1 (fun _ => 0)).2.1, kIn k (0, k.2.2.2.2.2.2.1.2))) else (-2, k)
theorem wser_len (a : Nat → Int32) (N : Nat) (hN : N ≤ 24) (f : Nat → Int32) : (wser a N f).1 ≤ 336 := by
  have := wsI_len a f N hN
  unfold wser
  split
  · show (it (wsF a) N (0, f)).1 + 1 ≤ 336
    omega
  · omega
theorem hrg_nat {n : Nat} {x k : Int32} (h : hrg n x k = true) (hn : n ≤ 40) : ∃ a c : Nat, x = nI a ∧ k = nI c ∧ a + c ≤ n := by
  unfold hrg at h
  rw [Bool.and_eq_true, Bool.and_eq_true] at h
  obtain ⟨h1, h2, h3⟩ := h
  obtain ⟨a, rfl, ha⟩ := nat_ge0 (of_decide_eq_true h1)
  obtain ⟨c, rfl, hc⟩ := nat_ge0 (of_decide_eq_true h2)
  refine ⟨a, c, rfl, rfl, ?_⟩
  have h4 := Int64.le_iff_toInt_le.mp (Int64.not_lt.mp (of_decide_eq_true h3))
  rw [Int64.toInt_add, Int32.toInt_toInt64, Int32.toInt_toInt64, Int32.toInt_toInt64, nI_toInt ha, nI_toInt hc, nI_toInt (by omega)] at h4
  have e : ((a : Int) + (c : Int)).bmod (2 ^ 64) = (a : Int) + (c : Int) := by
    apply Int.bmod_eq_of_le <;> omega
  rw [e] at h4
  omega
set_option maxHeartbeats 4000000 in
set_option maxRecDepth 100000 in
theorem c_X7_release {S : ST} {E : ET} {g : Nat → va_E} {hsn : Bool} {v v2 : SV} {rem rem2 : Nat → PV} {pt inp : Nat × (Nat → Nat)} {out : BV} {sl : Nat → SlV} (hB : BC S E g (hsn, v, rem, v2, rem2, pt, inp, out, sl)) (hO : SOk v) (x : Int32) : CtI S E yX7_release cX7_release 2 (Option.some FieldType.int) rmX7_release [.ref (E.1 0), .int x] g (fun u g' => u = (oRel (hsn, v, rem, v2, rem2, pt, inp, out, sl) x).1 ∧ BC S E g' (oRel (hsn, v, rem, v2, rem2, pt, inp, out, sl) x).2 ∧ Fr g g' 0 286) := by
  refine Ct.of RX7 (by decide +kernel) rfl (Nat.le_of_ble_eq_true rfl) (fun M C Z => ?_)
  refine G.eq (pc' := 0) (vs' := [some (.ref (E.1 0)), some (.int x)]) (st' := []) ?_
  obtain ⟨ho, hL, hV, hSc, hWy, hPt, hIn, hOu, hSl⟩ := id hB
  have ho : Ce E g 0 (.inr (7, [.ref (E.1 1), .ref (E.1 127), .int (b2i hsn), .ref (E.1 253), .ref (E.1 266), .ref (E.1 268), .ref (E.1 270), .ref (E.1 271), .ref (E.1 273), .ref (E.1 275), .ref (E.1 277)])) := ho
  have hL : StL S E g 1 v rem := hL
  obtain ⟨pi, ra, hs, hl⟩ := id hL
  obtain ⟨hN4, hN, hr1⟩ := id hO
  have hSl : SsAt S E g sl := hSl
  refine r_iload_n (pc := 0) C dX7_release_0 rfl ?_
  refine r_callS (pc := 1) C dX7_release_1 cs_RX7_263 (c_X7_isSlot x) ⟨rfl, rfl, by decide, by decide⟩ rfl rfl (Nat.le_of_ble_eq_true rfl) ⟨Nat.zero_le _, Nat.zero_le _⟩ ?_
  rintro _ _ ⟨_, rfl, rfl, rfl⟩
  show G M S E (0, 0) g 4 [some (.ref (E.1 0)), some (.int x)] [.int (b2i (hix 4 x))]
  refine r_if_ne (pc := 4) (tgt := 9) C dX7_release_4 (by decide) (fun h4 => ?_) (fun h4 => ?_)
  · have h4 := b_t h4
    obtain ⟨t, rfl, ht⟩ := hix_nat h4 (by omega)
    have hSt := hSl.2 t ht
    obtain ⟨hSot, hSet, hStt, hSzt⟩ := id hSt
    refine r_aload_n (pc := 9) C dX7_release_9 rfl ?_
    refine r_getf (pc := 10) C dX7_release_10 fl_RX7_69 ho rfl ?_
    refine r_iload_n (pc := 13) C dX7_release_13 rfl ?_
    refine r_aald (pc := 14) C dX7_release_14 hSl.1 rfl rfl rfl (by omega) (by omega) rfl ?_
    refine r_getf (pc := 15) C dX7_release_15 fl_RX7_269 hSot rfl ?_
    refine r_if_ne (pc := 18) (tgt := 23) C dX7_release_18 (by decide) (fun h18 => ?_) (fun h18 => ?_)
    · have h18 := b_t h18
      refine r_aload_n (pc := 23) C dX7_release_23 rfl ?_
      refine r_getf (pc := 24) C dX7_release_24 fl_RX7_69 ho rfl ?_
      refine r_iload_n (pc := 27) C dX7_release_27 rfl ?_
      refine r_aald (pc := 28) C dX7_release_28 hSl.1 rfl rfl rfl (by omega) (by omega) rfl ?_
      refine r_iconst (pc := 29) (v := nI 0) C dX7_release_29 (by decide +kernel) ?_
      refine r_putf (pc := 30) C dX7_release_30 fp_RX7_269 hSot rfl rfl (Nat.le_of_ble_eq_true rfl) ?_
      refine r_iconst (pc := 33) (v := nI 1) C dX7_release_33 (by decide +kernel) ?_
      have hf2 : Fr g (va_up g (278 + 2 * t) (.inr (4, [.ref (E.1 (278 + 2 * t + 1)), .int (nI 0), .int (nI ((sl t).2.1)), .int (nI ((sl t).2.2.1))]))) (278 + 2 * t) (278 + 2 * t + 2) := (Fr.rf.up (by omega) (by omega))
      have hB2 := hB.slt (hf2.wide (by omega) (by omega)) (hSl.set ht hf2 (v := (false, (sl t).2)) ⟨(Ce.new hSot), (Ce.up hSet (by omega)), by first | assumption | omega, by first | assumption | omega⟩)
      exact r_iret (pc := 34) C Z dX7_release_34 rfl (by rw [show oRel (hsn, v, rem, v2, rem2, pt, inp, out, sl) (nI t) = (nI 1, kSl (hsn, v, rem, v2, rem2, pt, inp, out, sl) t (false, (sl t).2)) by simp only [oRel, h4, h18, iN_nI (show t < 2 ^ 31 by omega), cond_true, cond_false, if_true, if_false, not_true_eq_false, not_false_eq_true, ↓reduceIte]]; exact ⟨rfl, hB2, hf2.wide (by omega) (by omega)⟩)
    · have h18 := b_f h18
      refine r_iconst (pc := 21) (v := nI 0) C dX7_release_21 (by decide +kernel) ?_
      exact r_iret (pc := 22) C Z dX7_release_22 rfl (by rw [show oRel (hsn, v, rem, v2, rem2, pt, inp, out, sl) (nI t) = (nI 0, (hsn, v, rem, v2, rem2, pt, inp, out, sl)) by simp only [oRel, h4, h18, iN_nI (show t < 2 ^ 31 by omega), cond_true, cond_false, if_true, if_false, not_true_eq_false, not_false_eq_true, ↓reduceIte]]; exact ⟨rfl, hB, Fr.rf⟩)
  · have h4 := b_f h4
    refine r_iconst (pc := 7) (v := (-1)) C dX7_release_7 (by decide +kernel) ?_
    exact r_iret (pc := 8) C Z dX7_release_8 rfl (by rw [show oRel (hsn, v, rem, v2, rem2, pt, inp, out, sl) x = (-1, (hsn, v, rem, v2, rem2, pt, inp, out, sl)) by simp only [oRel, h4, cond_true, cond_false, if_true, if_false, not_true_eq_false, not_false_eq_true, ↓reduceIte]]; exact ⟨rfl, hB, Fr.rf⟩)
set_option maxHeartbeats 4000000 in
set_option maxRecDepth 100000 in
theorem c_X7_allocate {S : ST} {E : ET} {g : Nat → va_E} {hsn : Bool} {v v2 : SV} {rem rem2 : Nat → PV} {pt inp : Nat × (Nat → Nat)} {out : BV} {sl : Nat → SlV} (hB : BC S E g (hsn, v, rem, v2, rem2, pt, inp, out, sl)) (hO : SOk v) (x y z : Int32) : CtI S E yX7_allocate cX7_allocate 4 (Option.some FieldType.int) rmX7_allocate [.ref (E.1 0), .int x, .int y, .int z] g (fun u g' => u = (oAll (hsn, v, rem, v2, rem2, pt, inp, out, sl) x y z).1 ∧ BC S E g' (oAll (hsn, v, rem, v2, rem2, pt, inp, out, sl) x y z).2 ∧ Fr g g' 0 286) := by
  refine Ct.of RX7 (by decide +kernel) rfl (Nat.le_of_ble_eq_true rfl) (fun M C Z => ?_)
  refine G.eq (pc' := 0) (vs' := [some (.ref (E.1 0)), some (.int x), some (.int y), some (.int z)]) (st' := []) ?_
  obtain ⟨ho, hL, hV, hSc, hWy, hPt, hIn, hOu, hSl⟩ := id hB
  have ho : Ce E g 0 (.inr (7, [.ref (E.1 1), .ref (E.1 127), .int (b2i hsn), .ref (E.1 253), .ref (E.1 266), .ref (E.1 268), .ref (E.1 270), .ref (E.1 271), .ref (E.1 273), .ref (E.1 275), .ref (E.1 277)])) := ho
  have hL : StL S E g 1 v rem := hL
  obtain ⟨pi, ra, hs, hl⟩ := id hL
  obtain ⟨hN4, hN, hr1⟩ := id hO
  have hSl : SsAt S E g sl := hSl
  refine r_iload_n (pc := 0) C dX7_allocate_0 rfl ?_
  refine r_callS (pc := 1) C dX7_allocate_1 cs_RX7_263 (c_X7_isSlot x) ⟨rfl, rfl, by decide, by decide⟩ rfl rfl (Nat.le_of_ble_eq_true rfl) ⟨Nat.zero_le _, Nat.zero_le _⟩ ?_
  rintro _ _ ⟨_, rfl, rfl, rfl⟩
  show G M S E (0, 0) g 4 [some (.ref (E.1 0)), some (.int x), some (.int y), some (.int z)] [.int (b2i (hix 4 x))]
  refine r_if_eq (pc := 4) (tgt := 22) C dX7_allocate_4 (by decide) (fun h4 => ?_) (fun h4 => ?_)
  · have h4 := b_f h4
    refine r_iconst (pc := 22) (v := (-1)) C dX7_allocate_22 (by decide +kernel) ?_
    exact r_iret (pc := 23) C Z dX7_allocate_23 rfl (by rw [show oAll (hsn, v, rem, v2, rem2, pt, inp, out, sl) x y z = (-1, (hsn, v, rem, v2, rem2, pt, inp, out, sl)) by simp only [oAll, h4, cond_true, cond_false, if_true, if_false, not_true_eq_false, not_false_eq_true, ↓reduceIte]]; exact ⟨rfl, hB, Fr.rf⟩)
  · have h4 := b_t h4
    refine r_iload_n (pc := 7) C dX7_allocate_7 rfl ?_
    refine r_if_lt (pc := 8) (tgt := 22) C dX7_allocate_8 (by decide) (fun h8 => ?_) (fun h8 => ?_)
    · refine r_iconst (pc := 22) (v := (-1)) C dX7_allocate_22 (by decide +kernel) ?_
      exact r_iret (pc := 23) C Z dX7_allocate_23 rfl (by rw [show oAll (hsn, v, rem, v2, rem2, pt, inp, out, sl) x y z = (-1, (hsn, v, rem, v2, rem2, pt, inp, out, sl)) by simp only [oAll, h4, h8, cond_true, cond_false, if_true, if_false, not_true_eq_false, not_false_eq_true, ↓reduceIte]]; exact ⟨rfl, hB, Fr.rf⟩)
    · refine r_iload_n (pc := 11) C dX7_allocate_11 rfl ?_
      refine r_iconst (pc := 12) (v := nI 3) C dX7_allocate_12 (by decide +kernel) ?_
      refine r_icmp_gt (pc := 13) (tgt := 22) C dX7_allocate_13 (by decide) (fun h13 => ?_) (fun h13 => ?_)
      · refine r_iconst (pc := 22) (v := (-1)) C dX7_allocate_22 (by decide +kernel) ?_
        exact r_iret (pc := 23) C Z dX7_allocate_23 rfl (by rw [show oAll (hsn, v, rem, v2, rem2, pt, inp, out, sl) x y z = (-1, (hsn, v, rem, v2, rem2, pt, inp, out, sl)) by simp only [oAll, h4, h8, h13, cond_true, cond_false, if_true, if_false, not_true_eq_false, not_false_eq_true, ↓reduceIte]]; exact ⟨rfl, hB, Fr.rf⟩)
      · refine r_iload_n (pc := 16) C dX7_allocate_16 rfl ?_
        refine r_bipush (pc := 17) (v := nI 40) C dX7_allocate_17 (by decide +kernel) ?_
        refine r_icmp_le (pc := 19) (tgt := 24) C dX7_allocate_19 (by decide) (fun h19 => ?_) (fun h19 => ?_)
        · refine r_iload_n (pc := 24) C dX7_allocate_24 rfl ?_
          refine r_if_ge (pc := 25) (tgt := 31) C dX7_allocate_25 (by decide) (fun h25 => ?_) (fun h25 => ?_)
          · obtain ⟨t, rfl, ht⟩ := hix_nat h4 (by omega)
            have hSt := hSl.2 t ht
            obtain ⟨hSot, hSet, hStt, hSzt⟩ := id hSt
            obtain ⟨ty, rfl, hty⟩ := nat_ge0 h8
            obtain ⟨sz, rfl, hsz⟩ := nat_ge0 (Int32.not_lt.mpr h25)
            have hty2 := c_nlt (by decide) hty h13
            have hsz2 := c_le hsz (by decide) h19
            have hty3 : ty < 4 := by omega
            refine r_aload_n (pc := 31) C dX7_allocate_31 rfl ?_
            refine r_getf (pc := 32) C dX7_allocate_32 fl_RX7_69 ho rfl ?_
            refine r_iload_n (pc := 35) C dX7_allocate_35 rfl ?_
            refine r_aald (pc := 36) C dX7_allocate_36 hSl.1 rfl rfl rfl (by omega) (by omega) rfl ?_
            refine r_iload_n (pc := 37) C dX7_allocate_37 rfl ?_
            refine r_iload_n (pc := 38) C dX7_allocate_38 rfl ?_
            refine r_callV (pc := 39) C dX7_allocate_39 cv_RX7_266 (c_X4_fillNew hSot hSet ty sz) ⟨rfl, rfl, by decide, by decide⟩ hSot rfl rfl (Nat.le_of_ble_eq_true rfl) ⟨Nat.zero_le _, Nat.zero_le _⟩ ?_
            rintro _ _ ⟨rfl, rfl⟩
            show G M S E (0, 0) (va_up (va_up g (278 + 2 * t + 1) (xJ S 40 (fun _ => 0))) (278 + 2 * t) (.inr (4, [.ref (E.1 (278 + 2 * t + 1)), .int (b2i true), .int (nI ty), .int (nI sz)]))) 42 [some (.ref (E.1 0)), some (.int (nI t)), some (.int (nI ty)), some (.int (nI sz))] []
            refine r_iload_n (pc := 42) C dX7_allocate_42 rfl ?_
            have hf2 : Fr g (va_up (va_up g (278 + 2 * t + 1) (xJ S 40 (fun _ => 0))) (278 + 2 * t) (.inr (4, [.ref (E.1 (278 + 2 * t + 1)), .int (b2i true), .int (nI ty), .int (nI sz)]))) (278 + 2 * t) (278 + 2 * t + 2) := ((Fr.rf.up (by omega) (by omega)).up (by omega) (by omega))
            have hB2 := hB.slt (hf2.wide (by omega) (by omega)) (hSl.set ht hf2 (v := (true, ty, sz, (fun _ => 0))) ⟨(Ce.new (Ce.up hSot (by omega))), (Ce.up (Ce.new hSet) (by omega)), by first | assumption | omega, by first | assumption | omega⟩)
            exact r_iret (pc := 43) C Z dX7_allocate_43 rfl (by rw [show oAll (hsn, v, rem, v2, rem2, pt, inp, out, sl) (nI t) (nI ty) (nI sz) = (nI sz, kSl (hsn, v, rem, v2, rem2, pt, inp, out, sl) t (true, ty, sz, (fun _ => 0))) by simp only [oAll, h4, h8, h13, h19, h25, iN_nI (show t < 2 ^ 31 by omega), iN_nI hty, iN_nI hsz, cond_true, cond_false, if_true, if_false, not_true_eq_false, not_false_eq_true, ↓reduceIte]]; exact ⟨rfl, hB2, hf2.wide (by omega) (by omega)⟩)
          · refine r_bipush (pc := 28) (v := (-14)) C dX7_allocate_28 (by decide +kernel) ?_
            exact r_iret (pc := 30) C Z dX7_allocate_30 rfl (by rw [show oAll (hsn, v, rem, v2, rem2, pt, inp, out, sl) x y z = (-14, (hsn, v, rem, v2, rem2, pt, inp, out, sl)) by simp only [oAll, h4, h8, h13, h19, h25, cond_true, cond_false, if_true, if_false, not_true_eq_false, not_false_eq_true, ↓reduceIte]]; exact ⟨rfl, hB, Fr.rf⟩)
        · refine r_iconst (pc := 22) (v := (-1)) C dX7_allocate_22 (by decide +kernel) ?_
          exact r_iret (pc := 23) C Z dX7_allocate_23 rfl (by rw [show oAll (hsn, v, rem, v2, rem2, pt, inp, out, sl) x y z = (-1, (hsn, v, rem, v2, rem2, pt, inp, out, sl)) by simp only [oAll, h4, h8, h13, h19, cond_true, cond_false, if_true, if_false, not_true_eq_false, not_false_eq_true, ↓reduceIte]]; exact ⟨rfl, hB, Fr.rf⟩)
set_option maxHeartbeats 4000000 in
set_option maxRecDepth 100000 in
theorem c_X7_putElement {S : ST} {E : ET} {g : Nat → va_E} {hsn : Bool} {v v2 : SV} {rem rem2 : Nat → PV} {pt inp : Nat × (Nat → Nat)} {out : BV} {sl : Nat → SlV} (hB : BC S E g (hsn, v, rem, v2, rem2, pt, inp, out, sl)) (hO : SOk v) (x y : Int32) (z : Int64) : CtI S E yX7_putElement cX7_putElement 6 (Option.some FieldType.int) rmX7_putElement [.ref (E.1 0), .int x, .int y, .long z] g (fun u g' => u = (oPut (hsn, v, rem, v2, rem2, pt, inp, out, sl) x y z).1 ∧ BC S E g' (oPut (hsn, v, rem, v2, rem2, pt, inp, out, sl) x y z).2 ∧ Fr g g' 0 286) := by
  refine Ct.of RX7 (by decide +kernel) rfl (Nat.le_of_ble_eq_true rfl) (fun M C Z => ?_)
  refine G.eq (pc' := 0) (vs' := [some (.ref (E.1 0)), some (.int x), some (.int y), some (.long z), none, none]) (st' := []) ?_
  obtain ⟨ho, hL, hV, hSc, hWy, hPt, hIn, hOu, hSl⟩ := id hB
  have ho : Ce E g 0 (.inr (7, [.ref (E.1 1), .ref (E.1 127), .int (b2i hsn), .ref (E.1 253), .ref (E.1 266), .ref (E.1 268), .ref (E.1 270), .ref (E.1 271), .ref (E.1 273), .ref (E.1 275), .ref (E.1 277)])) := ho
  have hL : StL S E g 1 v rem := hL
  obtain ⟨pi, ra, hs, hl⟩ := id hL
  obtain ⟨hN4, hN, hr1⟩ := id hO
  have hSl : SsAt S E g sl := hSl
  refine r_iload_n (pc := 0) C dX7_putElement_0 rfl ?_
  refine r_callS (pc := 1) C dX7_putElement_1 cs_RX7_263 (c_X7_isSlot x) ⟨rfl, rfl, by decide, by decide⟩ rfl rfl (Nat.le_of_ble_eq_true rfl) ⟨Nat.zero_le _, Nat.zero_le _⟩ ?_
  rintro _ _ ⟨_, rfl, rfl, rfl⟩
  show G M S E (0, 0) g 4 [some (.ref (E.1 0)), some (.int x), some (.int y), some (.long z), none, none] [.int (b2i (hix 4 x))]
  refine r_if_ne (pc := 4) (tgt := 9) C dX7_putElement_4 (by decide) (fun h4 => ?_) (fun h4 => ?_)
  · have h4 := b_t h4
    obtain ⟨t, rfl, ht⟩ := hix_nat h4 (by omega)
    have hSt := hSl.2 t ht
    obtain ⟨hSot, hSet, hStt, hSzt⟩ := id hSt
    refine r_aload_n (pc := 9) C dX7_putElement_9 rfl ?_
    refine r_getf (pc := 10) C dX7_putElement_10 fl_RX7_69 ho rfl ?_
    refine r_iload_n (pc := 13) C dX7_putElement_13 rfl ?_
    refine r_aald (pc := 14) C dX7_putElement_14 hSl.1 rfl rfl rfl (by omega) (by omega) rfl ?_
    refine r_astore (pc := 15) C dX7_putElement_15 (by decide) ?_
    refine G.eq (pc' := 17) (vs' := [some (.ref (E.1 0)), some (.int (nI t)), some (.int y), some (.long z), none, some (.ref (E.1 (278 + 2 * t)))]) (st' := []) ?_
    refine r_aload (pc := 17) C dX7_putElement_17 rfl ?_
    refine r_getf (pc := 19) C dX7_putElement_19 fl_RX7_269 hSot rfl ?_
    refine r_if_ne (pc := 22) (tgt := 28) C dX7_putElement_22 (by decide) (fun h22 => ?_) (fun h22 => ?_)
    · have h22 := b_t h22
      refine r_aload (pc := 28) C dX7_putElement_28 rfl ?_
      refine r_iload_n (pc := 30) C dX7_putElement_30 rfl ?_
      refine r_callV (pc := 31) C dX7_putElement_31 cv_RX7_272 (c_X4_hasIndex hSot hSet y) ⟨rfl, rfl, by decide, by decide⟩ hSot rfl rfl (Nat.le_of_ble_eq_true rfl) ⟨Nat.zero_le _, Nat.zero_le _⟩ ?_
      rintro _ _ ⟨_, rfl, rfl, rfl⟩
      show G M S E (0, 0) g 34 [some (.ref (E.1 0)), some (.int (nI t)), some (.int y), some (.long z), none, some (.ref (E.1 (278 + 2 * t)))] [.int (b2i (hix (sl t).2.2.1 y))]
      refine r_if_ne (pc := 34) (tgt := 40) C dX7_putElement_34 (by decide) (fun h34 => ?_) (fun h34 => ?_)
      · have h34 := b_t h34
        obtain ⟨p, rfl, hp⟩ := hix_nat h34 (by omega)
        refine r_aload (pc := 40) C dX7_putElement_40 rfl ?_
        refine r_getf (pc := 42) C dX7_putElement_42 fl_RX7_275 hSot rfl ?_
        refine r_iload_n (pc := 45) C dX7_putElement_45 rfl ?_
        refine r_aload (pc := 46) C dX7_putElement_46 rfl ?_
        refine r_lload_n (pc := 48) C dX7_putElement_48 rfl ?_
        refine r_callV (pc := 49) C dX7_putElement_49 cv_RX7_278 (c_X4_narrowed hSot hSet hStt z) ⟨rfl, rfl, by decide, by decide⟩ hSot rfl rfl (Nat.le_of_ble_eq_true rfl) ⟨Nat.zero_le _, Nat.zero_le _⟩ ?_
        rintro _ _ ⟨_, rfl, rfl, rfl⟩
        show G M S E (0, 0) g 52 [some (.ref (E.1 0)), some (.int (nI t)), some (.int (nI p)), some (.long z), none, some (.ref (E.1 (278 + 2 * t)))] [.long (nrw (sl t).2.1 z), .int (nI p), .ref (E.1 (278 + 2 * t + 1))]
        refine r_last (pc := 52) C dX7_putElement_52 hSet rfl (by omega) (by omega) ?_
        refine r_iconst (pc := 53) (v := nI 1) C dX7_putElement_53 (by decide +kernel) ?_
        have hSo2 : Ce E g (278 + 2 * t) (.inr (4, [.ref (E.1 (278 + 2 * t + 1)), .int (b2i true), .int (nI (sl t).2.1), .int (nI (sl t).2.2.1)])) := by rw [← h22]; exact hSot
        have hf2 : Fr g (va_up g (278 + 2 * t + 1) (xJ S 40 (vp_updL ((sl t).2.2.2) p (nrw (sl t).2.1 z)))) (278 + 2 * t) (278 + 2 * t + 2) := (Fr.rf.up (by omega) (by omega))
        have hB2 := hB.slt (hf2.wide (by omega) (by omega)) (hSl.set ht hf2 (v := (true, (sl t).2.1, (sl t).2.2.1, vp_updL (sl t).2.2.2 p (nrw (sl t).2.1 z))) ⟨(Ce.up hSo2 (by omega)), (Ce.new hSet), by first | assumption | omega, by first | assumption | omega⟩)
        exact r_iret (pc := 54) C Z dX7_putElement_54 rfl (by rw [show oPut (hsn, v, rem, v2, rem2, pt, inp, out, sl) (nI t) (nI p) z = (nI 1, kSl (hsn, v, rem, v2, rem2, pt, inp, out, sl) t (true, (sl t).2.1, (sl t).2.2.1, vp_updL (sl t).2.2.2 p (nrw (sl t).2.1 z))) by simp only [oPut, h4, h22, h34, iN_nI (show t < 2 ^ 31 by omega), iN_nI (show p < 2 ^ 31 by omega), cond_true, cond_false, if_true, if_false, not_true_eq_false, not_false_eq_true, ↓reduceIte]]; exact ⟨rfl, hB2, hf2.wide (by omega) (by omega)⟩)
      · have h34 := b_f h34
        refine r_bipush (pc := 37) (v := (-13)) C dX7_putElement_37 (by decide +kernel) ?_
        exact r_iret (pc := 39) C Z dX7_putElement_39 rfl (by rw [show oPut (hsn, v, rem, v2, rem2, pt, inp, out, sl) (nI t) y z = (-13, (hsn, v, rem, v2, rem2, pt, inp, out, sl)) by simp only [oPut, h4, h22, h34, iN_nI (show t < 2 ^ 31 by omega), cond_true, cond_false, if_true, if_false, not_true_eq_false, not_false_eq_true, ↓reduceIte]]; exact ⟨rfl, hB, Fr.rf⟩)
    · have h22 := b_f h22
      refine r_bipush (pc := 25) (v := (-11)) C dX7_putElement_25 (by decide +kernel) ?_
      exact r_iret (pc := 27) C Z dX7_putElement_27 rfl (by rw [show oPut (hsn, v, rem, v2, rem2, pt, inp, out, sl) (nI t) y z = (-11, (hsn, v, rem, v2, rem2, pt, inp, out, sl)) by simp only [oPut, h4, h22, iN_nI (show t < 2 ^ 31 by omega), cond_true, cond_false, if_true, if_false, not_true_eq_false, not_false_eq_true, ↓reduceIte]]; exact ⟨rfl, hB, Fr.rf⟩)
  · have h4 := b_f h4
    refine r_iconst (pc := 7) (v := (-1)) C dX7_putElement_7 (by decide +kernel) ?_
    exact r_iret (pc := 8) C Z dX7_putElement_8 rfl (by rw [show oPut (hsn, v, rem, v2, rem2, pt, inp, out, sl) x y z = (-1, (hsn, v, rem, v2, rem2, pt, inp, out, sl)) by simp only [oPut, h4, cond_true, cond_false, if_true, if_false, not_true_eq_false, not_false_eq_true, ↓reduceIte]]; exact ⟨rfl, hB, Fr.rf⟩)
set_option maxHeartbeats 4000000 in
set_option maxRecDepth 100000 in
theorem c_X7_element {S : ST} {E : ET} {g : Nat → va_E} {hsn : Bool} {v v2 : SV} {rem rem2 : Nat → PV} {pt inp : Nat × (Nat → Nat)} {out : BV} {sl : Nat → SlV} (hB : BC S E g (hsn, v, rem, v2, rem2, pt, inp, out, sl)) (hO : SOk v) (x y : Int32) : CtL S E yX7_element cX7_element 4 (Option.some FieldType.long) rmX7_element [.ref (E.1 0), .int x, .int y] g (fun u g' => u = oEle (hsn, v, rem, v2, rem2, pt, inp, out, sl) x y ∧ g = g') := by
  refine Ct.of RX7 (by decide +kernel) rfl (Nat.le_of_ble_eq_true rfl) (fun M C Z => ?_)
  refine G.eq (pc' := 0) (vs' := [some (.ref (E.1 0)), some (.int x), some (.int y), none]) (st' := []) ?_
  obtain ⟨ho, hL, hV, hSc, hWy, hPt, hIn, hOu, hSl⟩ := id hB
  have ho : Ce E g 0 (.inr (7, [.ref (E.1 1), .ref (E.1 127), .int (b2i hsn), .ref (E.1 253), .ref (E.1 266), .ref (E.1 268), .ref (E.1 270), .ref (E.1 271), .ref (E.1 273), .ref (E.1 275), .ref (E.1 277)])) := ho
  have hL : StL S E g 1 v rem := hL
  obtain ⟨pi, ra, hs, hl⟩ := id hL
  obtain ⟨hN4, hN, hr1⟩ := id hO
  have hSl : SsAt S E g sl := hSl
  refine r_iload_n (pc := 0) C dX7_element_0 rfl ?_
  refine r_callS (pc := 1) C dX7_element_1 cs_RX7_263 (c_X7_isSlot x) ⟨rfl, rfl, by decide, by decide⟩ rfl rfl (Nat.le_of_ble_eq_true rfl) ⟨Nat.zero_le _, Nat.zero_le _⟩ ?_
  rintro _ _ ⟨_, rfl, rfl, rfl⟩
  show G M S E (0, 0) g 4 [some (.ref (E.1 0)), some (.int x), some (.int y), none] [.int (b2i (hix 4 x))]
  refine r_if_ne (pc := 4) (tgt := 11) C dX7_element_4 (by decide) (fun h4 => ?_) (fun h4 => ?_)
  · have h4 := b_t h4
    obtain ⟨t, rfl, ht⟩ := hix_nat h4 (by omega)
    have hSt := hSl.2 t ht
    obtain ⟨hSot, hSet, hStt, hSzt⟩ := id hSt
    refine r_aload_n (pc := 11) C dX7_element_11 rfl ?_
    refine r_getf (pc := 12) C dX7_element_12 fl_RX7_69 ho rfl ?_
    refine r_iload_n (pc := 15) C dX7_element_15 rfl ?_
    refine r_aald (pc := 16) C dX7_element_16 hSl.1 rfl rfl rfl (by omega) (by omega) rfl ?_
    refine r_astore_n (pc := 17) C dX7_element_17 (by decide) ?_
    refine G.eq (pc' := 18) (vs' := [some (.ref (E.1 0)), some (.int (nI t)), some (.int y), some (.ref (E.1 (278 + 2 * t)))]) (st' := []) ?_
    refine r_aload_n (pc := 18) C dX7_element_18 rfl ?_
    refine r_getf (pc := 19) C dX7_element_19 fl_RX7_269 hSot rfl ?_
    refine r_if_eq (pc := 22) (tgt := 33) C dX7_element_22 (by decide) (fun h22 => ?_) (fun h22 => ?_)
    · have h22 := b_f h22
      refine r_ldc2 (pc := 33) C dX7_element_33 qK_RX7_95 ?_
      exact r_lret (pc := 36) C Z dX7_element_36 (by rw [show oEle (hsn, v, rem, v2, rem2, pt, inp, out, sl) (nI t) y = (-9223372036854775808) by simp only [oEle, h4, h22, iN_nI (show t < 2 ^ 31 by omega), cond_true, cond_false, if_true, if_false, not_true_eq_false, not_false_eq_true, ↓reduceIte]]; exact ⟨rfl, rfl⟩)
    · have h22 := b_t h22
      refine r_aload_n (pc := 25) C dX7_element_25 rfl ?_
      refine r_iload_n (pc := 26) C dX7_element_26 rfl ?_
      refine r_callV (pc := 27) C dX7_element_27 cv_RX7_272 (c_X4_hasIndex hSot hSet y) ⟨rfl, rfl, by decide, by decide⟩ hSot rfl rfl (Nat.le_of_ble_eq_true rfl) ⟨Nat.zero_le _, Nat.zero_le _⟩ ?_
      rintro _ _ ⟨_, rfl, rfl, rfl⟩
      show G M S E (0, 0) g 30 [some (.ref (E.1 0)), some (.int (nI t)), some (.int y), some (.ref (E.1 (278 + 2 * t)))] [.int (b2i (hix (sl t).2.2.1 y))]
      refine r_if_ne (pc := 30) (tgt := 37) C dX7_element_30 (by decide) (fun h30 => ?_) (fun h30 => ?_)
      · have h30 := b_t h30
        obtain ⟨p, rfl, hp⟩ := hix_nat h30 (by omega)
        refine r_aload_n (pc := 37) C dX7_element_37 rfl ?_
        refine r_getf (pc := 38) C dX7_element_38 fl_RX7_275 hSot rfl ?_
        refine r_iload_n (pc := 41) C dX7_element_41 rfl ?_
        refine r_lald (pc := 42) C dX7_element_42 hSet rfl (by omega) (by omega) ?_
        exact r_lret (pc := 43) C Z dX7_element_43 (by rw [show oEle (hsn, v, rem, v2, rem2, pt, inp, out, sl) (nI t) (nI p) = (sl t).2.2.2 p by simp only [oEle, h4, h22, h30, iN_nI (show t < 2 ^ 31 by omega), iN_nI (show p < 2 ^ 31 by omega), cond_true, cond_false, if_true, if_false, not_true_eq_false, not_false_eq_true, ↓reduceIte]]; exact ⟨rfl, rfl⟩)
      · have h30 := b_f h30
        refine r_ldc2 (pc := 33) C dX7_element_33 qK_RX7_95 ?_
        exact r_lret (pc := 36) C Z dX7_element_36 (by rw [show oEle (hsn, v, rem, v2, rem2, pt, inp, out, sl) (nI t) y = (-9223372036854775808) by simp only [oEle, h4, h22, h30, iN_nI (show t < 2 ^ 31 by omega), cond_true, cond_false, if_true, if_false, not_true_eq_false, not_false_eq_true, ↓reduceIte]]; exact ⟨rfl, rfl⟩)
  · have h4 := b_f h4
    refine r_ldc2 (pc := 7) C dX7_element_7 qK_RX7_95 ?_
    exact r_lret (pc := 10) C Z dX7_element_10 (by rw [show oEle (hsn, v, rem, v2, rem2, pt, inp, out, sl) x y = (-9223372036854775808) by simp only [oEle, h4, cond_true, cond_false, if_true, if_false, not_true_eq_false, not_false_eq_true, ↓reduceIte]]; exact ⟨rfl, rfl⟩)
set_option maxHeartbeats 4000000 in
set_option maxRecDepth 100000 in
theorem c_X7_copyElements {S : ST} {E : ET} {g : Nat → va_E} {hsn : Bool} {v v2 : SV} {rem rem2 : Nat → PV} {pt inp : Nat × (Nat → Nat)} {out : BV} {sl : Nat → SlV} (hB : BC S E g (hsn, v, rem, v2, rem2, pt, inp, out, sl)) (hO : SOk v) (x a y b c : Int32) : CtI S E yX7_copyElements cX7_copyElements 8 (Option.some FieldType.int) rmX7_copyElements [.ref (E.1 0), .int x, .int a, .int y, .int b, .int c] g (fun u g' => u = (oCpy (hsn, v, rem, v2, rem2, pt, inp, out, sl) x a y b c).1 ∧ BC S E g' (oCpy (hsn, v, rem, v2, rem2, pt, inp, out, sl) x a y b c).2 ∧ Fr g g' 0 286) := by
  refine Ct.of RX7 (by decide +kernel) rfl (Nat.le_of_ble_eq_true rfl) (fun M C Z => ?_)
  refine G.eq (pc' := 0) (vs' := [some (.ref (E.1 0)), some (.int x), some (.int a), some (.int y), some (.int b), some (.int c), none, none]) (st' := []) ?_
  obtain ⟨ho, hL, hV, hSc, hWy, hPt, hIn, hOu, hSl⟩ := id hB
  have ho : Ce E g 0 (.inr (7, [.ref (E.1 1), .ref (E.1 127), .int (b2i hsn), .ref (E.1 253), .ref (E.1 266), .ref (E.1 268), .ref (E.1 270), .ref (E.1 271), .ref (E.1 273), .ref (E.1 275), .ref (E.1 277)])) := ho
  have hL : StL S E g 1 v rem := hL
  obtain ⟨pi, ra, hs, hl⟩ := id hL
  obtain ⟨hN4, hN, hr1⟩ := id hO
  have hSl : SsAt S E g sl := hSl
  refine r_iload_n (pc := 0) C dX7_copyElements_0 rfl ?_
  refine r_callS (pc := 1) C dX7_copyElements_1 cs_RX7_263 (c_X7_isSlot x) ⟨rfl, rfl, by decide, by decide⟩ rfl rfl (Nat.le_of_ble_eq_true rfl) ⟨Nat.zero_le _, Nat.zero_le _⟩ ?_
  rintro _ _ ⟨_, rfl, rfl, rfl⟩
  show G M S E (0, 0) g 4 [some (.ref (E.1 0)), some (.int x), some (.int a), some (.int y), some (.int b), some (.int c), none, none] [.int (b2i (hix 4 x))]
  refine r_if_eq (pc := 4) (tgt := 14) C dX7_copyElements_4 (by decide) (fun h4 => ?_) (fun h4 => ?_)
  · have h4 := b_f h4
    refine r_iconst (pc := 14) (v := (-1)) C dX7_copyElements_14 (by decide +kernel) ?_
    exact r_iret (pc := 15) C Z dX7_copyElements_15 rfl (by rw [show oCpy (hsn, v, rem, v2, rem2, pt, inp, out, sl) x a y b c = (-1, (hsn, v, rem, v2, rem2, pt, inp, out, sl)) by simp only [oCpy, h4, cond_true, cond_false, if_true, if_false, not_true_eq_false, not_false_eq_true, ↓reduceIte]]; exact ⟨rfl, hB, Fr.rf⟩)
  · have h4 := b_t h4
    refine r_iload_n (pc := 7) C dX7_copyElements_7 rfl ?_
    refine r_callS (pc := 8) C dX7_copyElements_8 cs_RX7_263 (c_X7_isSlot y) ⟨rfl, rfl, by decide, by decide⟩ rfl rfl (Nat.le_of_ble_eq_true rfl) ⟨Nat.zero_le _, Nat.zero_le _⟩ ?_
    rintro _ _ ⟨_, rfl, rfl, rfl⟩
    show G M S E (0, 0) g 11 [some (.ref (E.1 0)), some (.int x), some (.int a), some (.int y), some (.int b), some (.int c), none, none] [.int (b2i (hix 4 y))]
    refine r_if_ne (pc := 11) (tgt := 16) C dX7_copyElements_11 (by decide) (fun h11 => ?_) (fun h11 => ?_)
    · have h11 := b_t h11
      obtain ⟨t, rfl, ht⟩ := hix_nat h4 (by omega)
      obtain ⟨p, rfl, hp⟩ := hix_nat h11 (by omega)
      have hSt := hSl.2 t ht
      obtain ⟨hSot, hSet, hStt, hSzt⟩ := id hSt
      have hSp := hSl.2 p hp
      obtain ⟨hSop, hSep, hStp, hSzp⟩ := id hSp
      refine r_aload_n (pc := 16) C dX7_copyElements_16 rfl ?_
      refine r_getf (pc := 17) C dX7_copyElements_17 fl_RX7_69 ho rfl ?_
      refine r_iload_n (pc := 20) C dX7_copyElements_20 rfl ?_
      refine r_aald (pc := 21) C dX7_copyElements_21 hSl.1 rfl rfl rfl (by omega) (by omega) rfl ?_
      refine r_astore (pc := 22) C dX7_copyElements_22 (by decide) ?_
      refine G.eq (pc' := 24) (vs' := [some (.ref (E.1 0)), some (.int (nI t)), some (.int a), some (.int (nI p)), some (.int b), some (.int c), some (.ref (E.1 (278 + 2 * t))), none]) (st' := []) ?_
      refine r_aload_n (pc := 24) C dX7_copyElements_24 rfl ?_
      refine r_getf (pc := 25) C dX7_copyElements_25 fl_RX7_69 ho rfl ?_
      refine r_iload_n (pc := 28) C dX7_copyElements_28 rfl ?_
      refine r_aald (pc := 29) C dX7_copyElements_29 hSl.1 rfl rfl rfl (by omega) (by omega) rfl ?_
      refine r_astore (pc := 30) C dX7_copyElements_30 (by decide) ?_
      refine G.eq (pc' := 32) (vs' := [some (.ref (E.1 0)), some (.int (nI t)), some (.int a), some (.int (nI p)), some (.int b), some (.int c), some (.ref (E.1 (278 + 2 * t))), some (.ref (E.1 (278 + 2 * p)))]) (st' := []) ?_
      refine r_aload (pc := 32) C dX7_copyElements_32 rfl ?_
      refine r_getf (pc := 34) C dX7_copyElements_34 fl_RX7_269 hSot rfl ?_
      refine r_if_eq (pc := 37) (tgt := 48) C dX7_copyElements_37 (by decide) (fun h37 => ?_) (fun h37 => ?_)
      · have h37 := b_f h37
        refine r_bipush (pc := 48) (v := (-11)) C dX7_copyElements_48 (by decide +kernel) ?_
        exact r_iret (pc := 50) C Z dX7_copyElements_50 rfl (by rw [show oCpy (hsn, v, rem, v2, rem2, pt, inp, out, sl) (nI t) a (nI p) b c = (-11, (hsn, v, rem, v2, rem2, pt, inp, out, sl)) by simp only [oCpy, h4, h11, h37, iN_nI (show t < 2 ^ 31 by omega), iN_nI (show p < 2 ^ 31 by omega), cond_true, cond_false, if_true, if_false, not_true_eq_false, not_false_eq_true, ↓reduceIte]]; exact ⟨rfl, hB, Fr.rf⟩)
      · have h37 := b_t h37
        refine r_aload (pc := 40) C dX7_copyElements_40 rfl ?_
        refine r_getf (pc := 42) C dX7_copyElements_42 fl_RX7_269 hSop rfl ?_
        refine r_if_ne (pc := 45) (tgt := 51) C dX7_copyElements_45 (by decide) (fun h45 => ?_) (fun h45 => ?_)
        · have h45 := b_t h45
          refine r_aload (pc := 51) C dX7_copyElements_51 rfl ?_
          refine r_getf (pc := 53) C dX7_copyElements_53 fl_RX7_282 hSot rfl ?_
          refine r_aload (pc := 56) C dX7_copyElements_56 rfl ?_
          refine r_getf (pc := 58) C dX7_copyElements_58 fl_RX7_282 hSop rfl ?_
          refine r_icmp_eq (pc := 61) (tgt := 67) C dX7_copyElements_61 (by decide) (fun h61 => ?_) (fun h61 => ?_)
          · have h61 := c_eq (by omega) (by omega) h61
            refine r_aload (pc := 67) C dX7_copyElements_67 rfl ?_
            refine r_iload_n (pc := 69) C dX7_copyElements_69 rfl ?_
            refine r_iload (pc := 70) C dX7_copyElements_70 rfl ?_
            refine r_callV (pc := 72) C dX7_copyElements_72 cv_RX7_285 (c_X4_hasRange hSot hSet a c) ⟨rfl, rfl, by decide, by decide⟩ hSot rfl rfl (Nat.le_of_ble_eq_true rfl) ⟨Nat.zero_le _, Nat.zero_le _⟩ ?_
            rintro _ _ ⟨_, rfl, rfl, rfl⟩
            show G M S E (0, 0) g 75 [some (.ref (E.1 0)), some (.int (nI t)), some (.int a), some (.int (nI p)), some (.int b), some (.int c), some (.ref (E.1 (278 + 2 * t))), some (.ref (E.1 (278 + 2 * p)))] [.int (b2i (hrg (sl t).2.2.1 a c))]
            refine r_if_eq (pc := 75) (tgt := 90) C dX7_copyElements_75 (by decide) (fun h75 => ?_) (fun h75 => ?_)
            · have h75 := b_f h75
              refine r_bipush (pc := 90) (v := (-13)) C dX7_copyElements_90 (by decide +kernel) ?_
              exact r_iret (pc := 92) C Z dX7_copyElements_92 rfl (by rw [show oCpy (hsn, v, rem, v2, rem2, pt, inp, out, sl) (nI t) a (nI p) b c = (-13, (hsn, v, rem, v2, rem2, pt, inp, out, sl)) by simp only [oCpy, h4, h11, h37, h45, h61, h75, iN_nI (show t < 2 ^ 31 by omega), iN_nI (show p < 2 ^ 31 by omega), cond_true, cond_false, if_true, if_false, not_true_eq_false, not_false_eq_true, ↓reduceIte]]; exact ⟨rfl, hB, Fr.rf⟩)
            · have h75 := b_t h75
              refine r_aload (pc := 78) C dX7_copyElements_78 rfl ?_
              refine r_iload (pc := 80) C dX7_copyElements_80 rfl ?_
              refine r_iload (pc := 82) C dX7_copyElements_82 rfl ?_
              refine r_callV (pc := 84) C dX7_copyElements_84 cv_RX7_285 (c_X4_hasRange hSop hSep b c) ⟨rfl, rfl, by decide, by decide⟩ hSop rfl rfl (Nat.le_of_ble_eq_true rfl) ⟨Nat.zero_le _, Nat.zero_le _⟩ ?_
              rintro _ _ ⟨_, rfl, rfl, rfl⟩
              show G M S E (0, 0) g 87 [some (.ref (E.1 0)), some (.int (nI t)), some (.int a), some (.int (nI p)), some (.int b), some (.int c), some (.ref (E.1 (278 + 2 * t))), some (.ref (E.1 (278 + 2 * p)))] [.int (b2i (hrg (sl p).2.2.1 b c))]
              refine r_if_ne (pc := 87) (tgt := 93) C dX7_copyElements_87 (by decide) (fun h87 => ?_) (fun h87 => ?_)
              · have h87 := b_t h87
                obtain ⟨sa, kc, rfl, rfl, hr⟩ := hrg_nat h75 hSzt
                obtain ⟨sb, kd, rfl, hkd, hr2⟩ := hrg_nat h87 hSzp
                obtain rfl := (nI_eq (by omega) (by omega)).mp hkd
                refine r_aload (pc := 93) C dX7_copyElements_93 rfl ?_
                refine r_getf (pc := 95) C dX7_copyElements_95 fl_RX7_275 hSot rfl ?_
                refine r_iload_n (pc := 98) C dX7_copyElements_98 rfl ?_
                refine r_aload (pc := 99) C dX7_copyElements_99 rfl ?_
                refine r_getf (pc := 101) C dX7_copyElements_101 fl_RX7_275 hSop rfl ?_
                refine r_iload (pc := 104) C dX7_copyElements_104 rfl ?_
                refine r_iload (pc := 106) C dX7_copyElements_106 rfl ?_
                refine r_acJ (pc := 108) C dX7_copyElements_108 qM_RX7_288 hSet hSep (show sa + kc ≤ 40 by omega) (show sb + kc ≤ 40 by omega) (by decide) (by decide) (by decide) (Nat.le_of_ble_eq_true rfl) ?_
                refine r_iload (pc := 111) C dX7_copyElements_111 rfl ?_
                have hSo2 : Ce E g (278 + 2 * p) (.inr (4, [.ref (E.1 (278 + 2 * p + 1)), .int (b2i true), .int (nI (sl p).2.1), .int (nI (sl p).2.2.1)])) := by rw [← h45]; exact hSop
                have hf2 : Fr g (va_up g (278 + 2 * p + 1) (xJ S 40 (va_cpy (sl t).2.2.2 (sl p).2.2.2 sa sb kc))) (278 + 2 * p) (278 + 2 * p + 2) := (Fr.rf.up (by omega) (by omega))
                have hB2 := hB.slt (hf2.wide (by omega) (by omega)) (hSl.set hp hf2 (v := (true, (sl p).2.1, (sl p).2.2.1, va_cpy (sl t).2.2.2 (sl p).2.2.2 sa sb kc)) ⟨(Ce.up hSo2 (by omega)), (Ce.new hSep), by first | assumption | omega, by first | assumption | omega⟩)
                exact r_iret (pc := 113) C Z dX7_copyElements_113 rfl (by rw [show oCpy (hsn, v, rem, v2, rem2, pt, inp, out, sl) (nI t) (nI sa) (nI p) (nI sb) (nI kc) = (nI kc, kSl (hsn, v, rem, v2, rem2, pt, inp, out, sl) p (true, (sl p).2.1, (sl p).2.2.1, va_cpy (sl t).2.2.2 (sl p).2.2.2 sa sb kc)) by simp only [oCpy, h4, h11, h37, h45, h61, h75, h87, iN_nI (show t < 2 ^ 31 by omega), iN_nI (show p < 2 ^ 31 by omega), iN_nI (show sa < 2 ^ 31 by omega), iN_nI (show sb < 2 ^ 31 by omega), iN_nI (show kc < 2 ^ 31 by omega), cond_true, cond_false, if_true, if_false, not_true_eq_false, not_false_eq_true, ↓reduceIte]]; exact ⟨rfl, hB2, hf2.wide (by omega) (by omega)⟩)
              · have h87 := b_f h87
                refine r_bipush (pc := 90) (v := (-13)) C dX7_copyElements_90 (by decide +kernel) ?_
                exact r_iret (pc := 92) C Z dX7_copyElements_92 rfl (by rw [show oCpy (hsn, v, rem, v2, rem2, pt, inp, out, sl) (nI t) a (nI p) b c = (-13, (hsn, v, rem, v2, rem2, pt, inp, out, sl)) by simp only [oCpy, h4, h11, h37, h45, h61, h75, h87, iN_nI (show t < 2 ^ 31 by omega), iN_nI (show p < 2 ^ 31 by omega), cond_true, cond_false, if_true, if_false, not_true_eq_false, not_false_eq_true, ↓reduceIte]]; exact ⟨rfl, hB, Fr.rf⟩)
          · have h61 := c_ne (by omega) (by omega) h61
            refine r_bipush (pc := 64) (v := (-12)) C dX7_copyElements_64 (by decide +kernel) ?_
            exact r_iret (pc := 66) C Z dX7_copyElements_66 rfl (by rw [show oCpy (hsn, v, rem, v2, rem2, pt, inp, out, sl) (nI t) a (nI p) b c = (-12, (hsn, v, rem, v2, rem2, pt, inp, out, sl)) by simp only [oCpy, h4, h11, h37, h45, h61, iN_nI (show t < 2 ^ 31 by omega), iN_nI (show p < 2 ^ 31 by omega), cond_true, cond_false, if_true, if_false, not_true_eq_false, not_false_eq_true, ↓reduceIte]]; exact ⟨rfl, hB, Fr.rf⟩)
        · have h45 := b_f h45
          refine r_bipush (pc := 48) (v := (-11)) C dX7_copyElements_48 (by decide +kernel) ?_
          exact r_iret (pc := 50) C Z dX7_copyElements_50 rfl (by rw [show oCpy (hsn, v, rem, v2, rem2, pt, inp, out, sl) (nI t) a (nI p) b c = (-11, (hsn, v, rem, v2, rem2, pt, inp, out, sl)) by simp only [oCpy, h4, h11, h37, h45, iN_nI (show t < 2 ^ 31 by omega), iN_nI (show p < 2 ^ 31 by omega), cond_true, cond_false, if_true, if_false, not_true_eq_false, not_false_eq_true, ↓reduceIte]]; exact ⟨rfl, hB, Fr.rf⟩)
    · have h11 := b_f h11
      refine r_iconst (pc := 14) (v := (-1)) C dX7_copyElements_14 (by decide +kernel) ?_
      exact r_iret (pc := 15) C Z dX7_copyElements_15 rfl (by rw [show oCpy (hsn, v, rem, v2, rem2, pt, inp, out, sl) x a y b c = (-1, (hsn, v, rem, v2, rem2, pt, inp, out, sl)) by simp only [oCpy, h4, h11, cond_true, cond_false, if_true, if_false, not_true_eq_false, not_false_eq_true, ↓reduceIte]]; exact ⟨rfl, hB, Fr.rf⟩)
set_option maxHeartbeats 4000000 in
set_option maxRecDepth 100000 in
theorem c_X7_compareWithArray {S : ST} {E : ET} {g : Nat → va_E} {hsn : Bool} {v v2 : SV} {rem rem2 : Nat → PV} {pt inp : Nat × (Nat → Nat)} {out : BV} {sl : Nat → SlV} (hB : BC S E g (hsn, v, rem, v2, rem2, pt, inp, out, sl)) (hO : SOk v) (x y : Int32) : CtI S E yX7_compareWithArray cX7_compareWithArray 7 (Option.some FieldType.int) rmX7_compareWithArray [.ref (E.1 0), .int x, .int y] g (fun u g' => u = oCmp (hsn, v, rem, v2, rem2, pt, inp, out, sl) x y ∧ g = g') := by
  refine Ct.of RX7 (by decide +kernel) rfl (Nat.le_of_ble_eq_true rfl) (fun M C Z => ?_)
  refine G.eq (pc' := 0) (vs' := [some (.ref (E.1 0)), some (.int x), some (.int y), none, none, none, none]) (st' := []) ?_
  obtain ⟨ho, hL, hV, hSc, hWy, hPt, hIn, hOu, hSl⟩ := id hB
  have ho : Ce E g 0 (.inr (7, [.ref (E.1 1), .ref (E.1 127), .int (b2i hsn), .ref (E.1 253), .ref (E.1 266), .ref (E.1 268), .ref (E.1 270), .ref (E.1 271), .ref (E.1 273), .ref (E.1 275), .ref (E.1 277)])) := ho
  have hL : StL S E g 1 v rem := hL
  obtain ⟨pi, ra, hs, hl⟩ := id hL
  obtain ⟨hN4, hN, hr1⟩ := id hO
  have hSl : SsAt S E g sl := hSl
  refine r_iload_n (pc := 0) C dX7_compareWithArray_0 rfl ?_
  refine r_callS (pc := 1) C dX7_compareWithArray_1 cs_RX7_263 (c_X7_isSlot x) ⟨rfl, rfl, by decide, by decide⟩ rfl rfl (Nat.le_of_ble_eq_true rfl) ⟨Nat.zero_le _, Nat.zero_le _⟩ ?_
  rintro _ _ ⟨_, rfl, rfl, rfl⟩
  show G M S E (0, 0) g 4 [some (.ref (E.1 0)), some (.int x), some (.int y), none, none, none, none] [.int (b2i (hix 4 x))]
  refine r_if_ne (pc := 4) (tgt := 9) C dX7_compareWithArray_4 (by decide) (fun h4 => ?_) (fun h4 => ?_)
  · have h4 := b_t h4
    refine r_iload_n (pc := 9) C dX7_compareWithArray_9 rfl ?_
    refine r_callS (pc := 10) C dX7_compareWithArray_10 cs_RX7_82 (c_X7_isRegister y) ⟨rfl, rfl, by decide, by decide⟩ rfl rfl (Nat.le_of_ble_eq_true rfl) ⟨Nat.zero_le _, Nat.zero_le _⟩ ?_
    rintro _ _ ⟨_, rfl, rfl, rfl⟩
    show G M S E (0, 0) g 13 [some (.ref (E.1 0)), some (.int x), some (.int y), none, none, none, none] [.int (b2i (hix 6 y))]
    refine r_if_ne (pc := 13) (tgt := 19) C dX7_compareWithArray_13 (by decide) (fun h13 => ?_) (fun h13 => ?_)
    · have h13 := b_t h13
      obtain ⟨t, rfl, ht⟩ := hix_nat h4 (by omega)
      obtain ⟨p, rfl, hp⟩ := hix_nat h13 (by omega)
      have hSt := hSl.2 t ht
      obtain ⟨hSot, hSet, hStt, hSzt⟩ := id hSt
      refine r_aload_n (pc := 19) C dX7_compareWithArray_19 rfl ?_
      refine r_getf (pc := 20) C dX7_compareWithArray_20 fl_RX7_69 ho rfl ?_
      refine r_iload_n (pc := 23) C dX7_compareWithArray_23 rfl ?_
      refine r_aald (pc := 24) C dX7_compareWithArray_24 hSl.1 rfl rfl rfl (by omega) (by omega) rfl ?_
      refine r_astore_n (pc := 25) C dX7_compareWithArray_25 (by decide) ?_
      refine G.eq (pc' := 26) (vs' := [some (.ref (E.1 0)), some (.int (nI t)), some (.int (nI p)), some (.ref (E.1 (278 + 2 * t))), none, none, none]) (st' := []) ?_
      refine r_aload_n (pc := 26) C dX7_compareWithArray_26 rfl ?_
      refine r_getf (pc := 27) C dX7_compareWithArray_27 fl_RX7_269 hSot rfl ?_
      refine r_if_ne (pc := 30) (tgt := 36) C dX7_compareWithArray_30 (by decide) (fun h30 => ?_) (fun h30 => ?_)
      · have h30 := b_t h30
        refine r_aload_n (pc := 36) C dX7_compareWithArray_36 rfl ?_
        refine r_getf (pc := 37) C dX7_compareWithArray_37 fl_RX7_14 ho rfl ?_
        refine r_getf (pc := 40) C dX7_compareWithArray_40 fl_RX7_91 hs.1 rfl ?_
        refine r_iload_n (pc := 43) C dX7_compareWithArray_43 rfl ?_
        refine r_aald (pc := 44) C dX7_compareWithArray_44 hs.2.1 rfl rfl rfl (by omega) (by omega) rfl ?_
        refine r_astore (pc := 45) C dX7_compareWithArray_45 (by decide) ?_
        refine G.eq (pc' := 47) (vs' := [some (.ref (E.1 0)), some (.int (nI t)), some (.int (nI p)), some (.ref (E.1 (278 + 2 * t))), some (.ref (E.1 (1 + 2 + p))), none, none]) (st' := []) ?_
        refine r_aload_n (pc := 47) C dX7_compareWithArray_47 rfl ?_
        refine r_getf (pc := 48) C dX7_compareWithArray_48 fl_RX7_294 hSot rfl ?_
        refine r_aload_n (pc := 51) C dX7_compareWithArray_51 rfl ?_
        refine r_getf (pc := 52) C dX7_compareWithArray_52 fl_RX7_14 ho rfl ?_
        refine r_getf (pc := 55) C dX7_compareWithArray_55 fl_RX7_78 hs.1 rfl ?_
        refine r_mmin (pc := 58) C dX7_compareWithArray_58 qM_RX7_297 (by decide) (Nat.le_of_ble_eq_true rfl) ⟨Nat.zero_le _, Nat.zero_le _⟩ ?_
        rw [mn_nI (by omega) (by omega)]
        refine G.eq (pc' := 61) (vs' := [some (.ref (E.1 0)), some (.int (nI t)), some (.int (nI p)), some (.ref (E.1 (278 + 2 * t))), some (.ref (E.1 (1 + 2 + p))), none, none]) (st' := [.int (nI (min (sl t).2.2.1 v.1))]) ?_
        refine r_istore (pc := 61) C dX7_compareWithArray_61 (by decide) ?_
        refine G.eq (pc' := 63) (vs' := [some (.ref (E.1 0)), some (.int (nI t)), some (.int (nI p)), some (.ref (E.1 (278 + 2 * t))), some (.ref (E.1 (1 + 2 + p))), some (.int (nI (min (sl t).2.2.1 v.1))), none]) (st' := []) ?_
        refine r_iconst (pc := 63) (v := nI 0) C dX7_compareWithArray_63 (by decide +kernel) ?_
        refine r_istore (pc := 64) C dX7_compareWithArray_64 (by decide) ?_
        refine G.eq (pc' := 66) (vs' := [some (.ref (E.1 0)), some (.int (nI t)), some (.int (nI p)), some (.ref (E.1 (278 + 2 * t))), some (.ref (E.1 (1 + 2 + p))), some (.int (nI (min (sl t).2.2.1 v.1))), some (.int (nI 0))]) (st' := []) ?_
        have hmn : min (sl t).2.2.1 v.1 ≤ 24 ∧ min (sl t).2.2.1 v.1 ≤ 40 := ⟨Nat.le_trans (Nat.min_le_right _ _) hN, Nat.le_trans (Nat.min_le_left _ _) hSzt⟩
        refine bk (P := fun t2 => (∀ j : Nat, j < t2 → (fun j => decide (¬ (sl t).2.2.2 j = (v.2.1 p j).toInt64)) j = false) → G M S E (0, 0) g 66 [some (.ref (E.1 0)), some (.int (nI t)), some (.int (nI p)), some (.ref (E.1 (278 + 2 * t))), some (.ref (E.1 (1 + 2 + p))), some (.int (nI (min (sl t).2.2.1 v.1))), some (.int (nI t2))] []) (T := min (sl t).2.2.1 v.1) (fun hh => ?_) (fun t2 ht ih hh => ?_) (fun j hj => absurd hj (Nat.not_lt_zero j))
        · show G M S E (0, 0) g 66 [some (.ref (E.1 0)), some (.int (nI t)), some (.int (nI p)), some (.ref (E.1 (278 + 2 * t))), some (.ref (E.1 (1 + 2 + p))), some (.int (nI (min (sl t).2.2.1 v.1))), some (.int (nI (min (sl t).2.2.1 v.1)))] []
          refine r_iload (pc := 66) C dX7_compareWithArray_66 rfl ?_
          refine r_iload (pc := 68) C dX7_compareWithArray_68 rfl ?_
          refine r_icmp_ge (pc := 70) (tgt := 99) C dX7_compareWithArray_70 (by decide) (fun h70 => ?_) (fun h70 => ?_)
          · have h70 := c_le (by omega) (by omega) h70
            refine r_aload_n (pc := 99) C dX7_compareWithArray_99 rfl ?_
            refine r_getf (pc := 100) C dX7_compareWithArray_100 fl_RX7_294 hSot rfl ?_
            refine r_aload_n (pc := 103) C dX7_compareWithArray_103 rfl ?_
            refine r_getf (pc := 104) C dX7_compareWithArray_104 fl_RX7_14 ho rfl ?_
            refine r_getf (pc := 107) C dX7_compareWithArray_107 fl_RX7_78 hs.1 rfl ?_
            refine r_icmp_ne (pc := 110) (tgt := 118) C dX7_compareWithArray_110 (by decide) (fun h110 => ?_) (fun h110 => ?_)
            · have h110 := c_ne (by omega) (by omega) h110
              refine r_iload (pc := 118) C dX7_compareWithArray_118 rfl ?_
              exact r_iret (pc := 120) C Z dX7_compareWithArray_120 rfl (⟨by rw [show oCmp (hsn, v, rem, v2, rem2, pt, inp, out, sl) (nI t) (nI p) = fd (fun j => decide (¬ (sl t).2.2.2 j = (v.2.1 p j).toInt64)) (if (sl t).2.2.1 = v.1 then -7 else nI (min (sl t).2.2.1 v.1)) (min (sl t).2.2.1 v.1) 0 by simp only [oCmp, h4, h13, h30, cond_true, iN_nI (show t < 2 ^ 31 by omega), iN_nI (show p < 2 ^ 31 by omega)]]; refine Eq.trans ?_ (fd_none (p := (fun j => decide (¬ (sl t).2.2.2 j = (v.2.1 p j).toInt64))) (fun j _ hj => hh j (by omega))).symm; rw [if_neg h110], rfl⟩)
            · have h110 := c_eq (by omega) (by omega) h110
              refine r_bipush (pc := 113) (v := (-7)) C dX7_compareWithArray_113 (by decide +kernel) ?_
              refine r_goto (pc := 115) (tgt := 120) C dX7_compareWithArray_115 (by decide) ?_
              exact r_iret (pc := 120) C Z dX7_compareWithArray_120 rfl (⟨by rw [show oCmp (hsn, v, rem, v2, rem2, pt, inp, out, sl) (nI t) (nI p) = fd (fun j => decide (¬ (sl t).2.2.2 j = (v.2.1 p j).toInt64)) (if (sl t).2.2.1 = v.1 then -7 else nI (min (sl t).2.2.1 v.1)) (min (sl t).2.2.1 v.1) 0 by simp only [oCmp, h4, h13, h30, cond_true, iN_nI (show t < 2 ^ 31 by omega), iN_nI (show p < 2 ^ 31 by omega)]]; refine Eq.trans ?_ (fd_none (p := (fun j => decide (¬ (sl t).2.2.2 j = (v.2.1 p j).toInt64))) (fun j _ hj => hh j (by omega))).symm; rw [if_pos h110], rfl⟩)
          · have h70 := c_nle (by omega) (by omega) h70
            omega
        · show G M S E (0, 0) g 66 [some (.ref (E.1 0)), some (.int (nI t)), some (.int (nI p)), some (.ref (E.1 (278 + 2 * t))), some (.ref (E.1 (1 + 2 + p))), some (.int (nI (min (sl t).2.2.1 v.1))), some (.int (nI t2))] []
          refine r_iload (pc := 66) C dX7_compareWithArray_66 rfl ?_
          refine r_iload (pc := 68) C dX7_compareWithArray_68 rfl ?_
          refine r_icmp_ge (pc := 70) (tgt := 99) C dX7_compareWithArray_70 (by decide) (fun h70 => ?_) (fun h70 => ?_)
          · have h70 := c_le (by omega) (by omega) h70
            omega
          · have h70 := c_nle (by omega) (by omega) h70
            refine r_aload_n (pc := 73) C dX7_compareWithArray_73 rfl ?_
            refine r_getf (pc := 74) C dX7_compareWithArray_74 fl_RX7_275 hSot rfl ?_
            refine r_iload (pc := 77) C dX7_compareWithArray_77 rfl ?_
            refine r_lald (pc := 79) C dX7_compareWithArray_79 hSet rfl (by omega) (by omega) ?_
            refine r_aload (pc := 80) C dX7_compareWithArray_80 rfl ?_
            refine r_iload (pc := 82) C dX7_compareWithArray_82 rfl ?_
            refine r_iald (pc := 84) C dX7_compareWithArray_84 (hs.2.2.2.1 p (by omega)) rfl (by omega) (by omega) ?_
            refine r_i2l (pc := 85) C dX7_compareWithArray_85 ?_
            refine r_lcmp (pc := 86) C dX7_compareWithArray_86 ?_
            refine r_if_eq (pc := 87) (tgt := 93) C dX7_compareWithArray_87 (by decide) (fun h87 => ?_) (fun h87 => ?_)
            · have h87 := k_eq h87
              refine r_iinc (pc := 93) (v := nI (t2 + 1)) C dX7_compareWithArray_93 rfl (nI_i1 _) (by decide) ?_
              refine G.eq (pc' := 96) (vs' := [some (.ref (E.1 0)), some (.int (nI t)), some (.int (nI p)), some (.ref (E.1 (278 + 2 * t))), some (.ref (E.1 (1 + 2 + p))), some (.int (nI (min (sl t).2.2.1 v.1))), some (.int (nI (t2 + 1)))]) (st' := []) ?_
              refine r_goto (pc := 96) (tgt := 66) C dX7_compareWithArray_96 (by decide) ?_
              exact (ih (lt_s hh (decide_eq_false (fun q => q h87))))
            · have h87 := k_ne h87
              refine r_iload (pc := 90) C dX7_compareWithArray_90 rfl ?_
              exact r_iret (pc := 92) C Z dX7_compareWithArray_92 rfl (⟨by rw [show oCmp (hsn, v, rem, v2, rem2, pt, inp, out, sl) (nI t) (nI p) = fd (fun j => decide (¬ (sl t).2.2.2 j = (v.2.1 p j).toInt64)) (if (sl t).2.2.1 = v.1 then -7 else nI (min (sl t).2.2.1 v.1)) (min (sl t).2.2.1 v.1) 0 by simp only [oCmp, h4, h13, h30, cond_true, iN_nI (show t < 2 ^ 31 by omega), iN_nI (show p < 2 ^ 31 by omega)]]; exact (fd_first (p := (fun j => decide (¬ (sl t).2.2.2 j = (v.2.1 p j).toInt64))) (fun j _ hj => hh j hj) (decide_eq_true h87) (Nat.zero_le _) (by omega)).symm, rfl⟩)
      · have h30 := b_f h30
        refine r_bipush (pc := 33) (v := (-11)) C dX7_compareWithArray_33 (by decide +kernel) ?_
        exact r_iret (pc := 35) C Z dX7_compareWithArray_35 rfl (by rw [show oCmp (hsn, v, rem, v2, rem2, pt, inp, out, sl) (nI t) (nI p) = -11 by simp only [oCmp, h4, h13, h30, iN_nI (show t < 2 ^ 31 by omega), iN_nI (show p < 2 ^ 31 by omega), cond_true, cond_false, if_true, if_false, not_true_eq_false, not_false_eq_true, ↓reduceIte]]; exact ⟨rfl, rfl⟩)
    · have h13 := b_f h13
      refine r_bipush (pc := 16) (v := (-2)) C dX7_compareWithArray_16 (by decide +kernel) ?_
      exact r_iret (pc := 18) C Z dX7_compareWithArray_18 rfl (by rw [show oCmp (hsn, v, rem, v2, rem2, pt, inp, out, sl) x y = -2 by simp only [oCmp, h4, h13, cond_true, cond_false, if_true, if_false, not_true_eq_false, not_false_eq_true, ↓reduceIte]]; exact ⟨rfl, rfl⟩)
  · have h4 := b_f h4
    refine r_iconst (pc := 7) (v := (-1)) C dX7_compareWithArray_7 (by decide +kernel) ?_
    exact r_iret (pc := 8) C Z dX7_compareWithArray_8 rfl (by rw [show oCmp (hsn, v, rem, v2, rem2, pt, inp, out, sl) x y = -1 by simp only [oCmp, h4, cond_true, cond_false, if_true, if_false, not_true_eq_false, not_false_eq_true, ↓reduceIte]]; exact ⟨rfl, rfl⟩)
set_option maxHeartbeats 4000000 in
set_option maxRecDepth 100000 in
theorem c_X7_part {S : ST} {E : ET} {g : Nat → va_E} {hsn : Bool} {v v2 : SV} {rem rem2 : Nat → PV} {pt inp : Nat × (Nat → Nat)} {out : BV} {sl : Nat → SlV} (hB : BC S E g (hsn, v, rem, v2, rem2, pt, inp, out, sl)) (hO : SOk v) (x y : Int32) : CtI S E yX7_part cX7_part 4 (Option.some FieldType.int) rmX7_part [.ref (E.1 0), .int x, .int y] g (fun u g' => u = oPrt (hsn, v, rem, v2, rem2, pt, inp, out, sl) x y ∧ g = g') := by
  refine Ct.of RX7 (by decide +kernel) rfl (Nat.le_of_ble_eq_true rfl) (fun M C Z => ?_)
  refine G.eq (pc' := 0) (vs' := [some (.ref (E.1 0)), some (.int x), some (.int y), none]) (st' := []) ?_
  obtain ⟨ho, hL, hV, hSc, hWy, hPt, hIn, hOu, hSl⟩ := id hB
  have ho : Ce E g 0 (.inr (7, [.ref (E.1 1), .ref (E.1 127), .int (b2i hsn), .ref (E.1 253), .ref (E.1 266), .ref (E.1 268), .ref (E.1 270), .ref (E.1 271), .ref (E.1 273), .ref (E.1 275), .ref (E.1 277)])) := ho
  have hL : StL S E g 1 v rem := hL
  obtain ⟨pi, ra, hs, hl⟩ := id hL
  obtain ⟨hN4, hN, hr1⟩ := id hO
  have hPt : PtAt S E g pt := hPt
  refine r_iload_n (pc := 0) C dX7_part_0 rfl ?_
  refine r_if_lt (pc := 1) (tgt := 8) C dX7_part_1 (by decide) (fun h1 => ?_) (fun h1 => ?_)
  · refine r_iconst (pc := 8) (v := (-1)) C dX7_part_8 (by decide +kernel) ?_
    exact r_iret (pc := 9) C Z dX7_part_9 rfl (by rw [show oPrt (hsn, v, rem, v2, rem2, pt, inp, out, sl) x y = -1 by simp only [oPrt, h1, cond_true, cond_false, if_true, if_false, not_true_eq_false, not_false_eq_true, ↓reduceIte]]; exact ⟨rfl, rfl⟩)
  · refine r_iload_n (pc := 4) C dX7_part_4 rfl ?_
    refine r_if_ge (pc := 5) (tgt := 10) C dX7_part_5 (by decide) (fun h5 => ?_) (fun h5 => ?_)
    · obtain ⟨a, rfl, ha⟩ := nat_ge0 h1
      obtain ⟨b, rfl, hb⟩ := nat_ge0 (Int32.not_lt.mpr h5)
      have hpc := hPt.2.2.2
      refine r_iload_n (pc := 10) C dX7_part_10 rfl ?_
      refine r_aload_n (pc := 11) C dX7_part_11 rfl ?_
      refine r_getf (pc := 12) C dX7_part_12 fl_RX7_49 ho rfl ?_
      refine r_getf (pc := 15) C dX7_part_15 fl_RX7_227 hPt.1 rfl ?_
      refine r_icmp_ge (pc := 18) (tgt := 27) C dX7_part_18 (by decide) (fun h18 => ?_) (fun h18 => ?_)
      · have h18 := c_le (by omega) (by omega) h18
        refine r_bipush (pc := 27) (v := (-7)) C dX7_part_27 (by decide +kernel) ?_
        exact r_iret (pc := 29) C Z dX7_part_29 rfl (by rw [show oPrt (hsn, v, rem, v2, rem2, pt, inp, out, sl) (nI a) (nI b) = -7 by simp only [oPrt, h1, h5, h18, iN_nI ha, iN_nI hb, cond_true, cond_false, if_true, if_false, not_true_eq_false, not_false_eq_true, ↓reduceIte]]; exact ⟨rfl, rfl⟩)
      · have h18 := c_nle (by omega) (by omega) h18
        refine r_iload_n (pc := 21) C dX7_part_21 rfl ?_
        refine r_bipush (pc := 22) (v := nI 16) C dX7_part_22 (by decide +kernel) ?_
        have h18' : ¬ pt.1 ≤ a := by omega
        refine r_icmp_lt (pc := 24) (tgt := 30) C dX7_part_24 (by decide) (fun h24 => ?_) (fun h24 => ?_)
        · have h24 := c_lt (by omega) (by omega) h24
          refine r_aload_n (pc := 30) C dX7_part_30 rfl ?_
          refine r_getf (pc := 31) C dX7_part_31 fl_RX7_49 ho rfl ?_
          refine r_iload_n (pc := 34) C dX7_part_34 rfl ?_
          refine r_iload_n (pc := 35) C dX7_part_35 rfl ?_
          refine r_callV (pc := 36) C dX7_part_36 cv_RX7_238 (c_X3_at hPt.1 hPt.2.1 hPt.2.2.1 a b (by omega) (by omega)) ⟨rfl, rfl, by decide, by decide⟩ hPt.1 rfl rfl (Nat.le_of_ble_eq_true rfl) ⟨Nat.zero_le _, Nat.zero_le _⟩ ?_
          rintro _ _ ⟨_, rfl, rfl, rfl⟩
          show G M S E (0, 0) g 39 [some (.ref (E.1 0)), some (.int (nI a)), some (.int (nI b)), none] [.int (nI (pt.2 (a * 16 + b)))]
          have hv := hPt.2.2.1 (a * 16 + b)
          refine r_istore_n (pc := 39) C dX7_part_39 (by decide) ?_
          refine G.eq (pc' := 40) (vs' := [some (.ref (E.1 0)), some (.int (nI a)), some (.int (nI b)), some (.int (nI (pt.2 (a * 16 + b))))]) (st' := []) ?_
          refine r_iload_n (pc := 40) C dX7_part_40 rfl ?_
          have h18' : ¬ pt.1 ≤ a := by omega
          refine r_if_ne (pc := 41) (tgt := 49) C dX7_part_41 (by decide) (fun h41 => ?_) (fun h41 => ?_)
          · have h41 := z_ne (by omega) h41
            refine r_iload_n (pc := 49) C dX7_part_49 rfl ?_
            exact r_iret (pc := 50) C Z dX7_part_50 rfl (by rw [show oPrt (hsn, v, rem, v2, rem2, pt, inp, out, sl) (nI a) (nI b) = nI (pt.2 (a * 16 + b)) by simp only [oPrt, h1, h5, h18', h24, h41, iN_nI ha, iN_nI hb, cond_true, cond_false, if_true, if_false, not_true_eq_false, not_false_eq_true, ↓reduceIte]]; exact ⟨rfl, rfl⟩)
          · have h41 := z_eq (by omega) h41
            refine r_bipush (pc := 44) (v := (-7)) C dX7_part_44 (by decide +kernel) ?_
            refine r_goto (pc := 46) (tgt := 50) C dX7_part_46 (by decide) ?_
            exact r_iret (pc := 50) C Z dX7_part_50 rfl (by rw [show oPrt (hsn, v, rem, v2, rem2, pt, inp, out, sl) (nI a) (nI b) = -7 by simp only [oPrt, h1, h5, h18', h24, iN_nI ha, iN_nI hb, if_true, if_false]; rw [if_pos h41]]; exact ⟨rfl, rfl⟩)
        · have h24 := c_nlt (by omega) (by omega) h24
          refine r_bipush (pc := 27) (v := (-7)) C dX7_part_27 (by decide +kernel) ?_
          have h24' : ¬ b < 16 := by omega
          exact r_iret (pc := 29) C Z dX7_part_29 rfl (by rw [show oPrt (hsn, v, rem, v2, rem2, pt, inp, out, sl) (nI a) (nI b) = -7 by simp only [oPrt, h1, h5, h18', h24', iN_nI ha, iN_nI hb, cond_true, cond_false, if_true, if_false, not_true_eq_false, not_false_eq_true, ↓reduceIte]]; exact ⟨rfl, rfl⟩)
    · refine r_iconst (pc := 8) (v := (-1)) C dX7_part_8 (by decide +kernel) ?_
      exact r_iret (pc := 9) C Z dX7_part_9 rfl (by rw [show oPrt (hsn, v, rem, v2, rem2, pt, inp, out, sl) x y = -1 by simp only [oPrt, h1, h5, cond_true, cond_false, if_true, if_false, not_true_eq_false, not_false_eq_true, ↓reduceIte]]; exact ⟨rfl, rfl⟩)
set_option maxHeartbeats 4000000 in
set_option maxRecDepth 100000 in
theorem c_X7_clearInput {S : ST} {E : ET} {g : Nat → va_E} {hsn : Bool} {v v2 : SV} {rem rem2 : Nat → PV} {pt inp : Nat × (Nat → Nat)} {out : BV} {sl : Nat → SlV} (hB : BC S E g (hsn, v, rem, v2, rem2, pt, inp, out, sl)) (hO : SOk v) : CtI S E yX7_clearInput cX7_clearInput 2 (Option.some FieldType.int) rmX7_clearInput [.ref (E.1 0)] g (fun u g' => u = (oClr (hsn, v, rem, v2, rem2, pt, inp, out, sl)).1 ∧ BC S E g' (oClr (hsn, v, rem, v2, rem2, pt, inp, out, sl)).2 ∧ Fr g g' 0 286) := by
  refine Ct.of RX7 (by decide +kernel) rfl (Nat.le_of_ble_eq_true rfl) (fun M C Z => ?_)
  refine G.eq (pc' := 0) (vs' := [some (.ref (E.1 0)), none]) (st' := []) ?_
  obtain ⟨ho, hL, hV, hSc, hWy, hPt, hIn, hOu, hSl⟩ := id hB
  have ho : Ce E g 0 (.inr (7, [.ref (E.1 1), .ref (E.1 127), .int (b2i hsn), .ref (E.1 253), .ref (E.1 266), .ref (E.1 268), .ref (E.1 270), .ref (E.1 271), .ref (E.1 273), .ref (E.1 275), .ref (E.1 277)])) := ho
  have hL : StL S E g 1 v rem := hL
  obtain ⟨pi, ra, hs, hl⟩ := id hL
  obtain ⟨hN4, hN, hr1⟩ := id hO
  have hIn : InAt S E g inp := hIn
  obtain ⟨⟨p0, hq⟩, hx, h128, hi60⟩ := id hIn
  refine r_aload_n (pc := 0) C dX7_clearInput_0 rfl ?_
  refine r_getf (pc := 1) C dX7_clearInput_1 fl_RX7_56 ho rfl ?_
  refine r_getf (pc := 4) C dX7_clearInput_4 fl_RX7_234 hq rfl ?_
  refine r_istore_n (pc := 7) C dX7_clearInput_7 (by decide) ?_
  refine G.eq (pc' := 8) (vs' := [some (.ref (E.1 0)), some (.int (nI inp.1))]) (st' := []) ?_
  refine r_aload_n (pc := 8) C dX7_clearInput_8 rfl ?_
  refine r_getf (pc := 9) C dX7_clearInput_9 fl_RX7_56 ho rfl ?_
  refine r_iconst (pc := 12) (v := nI 0) C dX7_clearInput_12 (by decide +kernel) ?_
  refine r_putf (pc := 13) C dX7_clearInput_13 fp_RX7_234 hq rfl rfl (Nat.le_of_ble_eq_true rfl) ?_
  refine r_iload_n (pc := 16) C dX7_clearInput_16 rfl ?_
  have hB3 := hB.inp (h := (va_up g 273 (.inr (0, [.ref (E.1 (273 + 1)), .int (nI 0), .int (nI p0)])))) (Fr.up Fr.rf (by omega) (by omega)) (show InAt S E (va_up g 273 (.inr (0, [.ref (E.1 (273 + 1)), .int (nI 0), .int (nI p0)]))) (0, inp.2) from ⟨⟨_, (Ce.new hq)⟩, (Ce.up hx (by omega)), h128, Nat.zero_le _⟩)
  exact r_iret (pc := 17) C Z dX7_clearInput_17 rfl (⟨rfl, hB3, Fr.up Fr.rf (by omega) (by omega)⟩)
set_option maxHeartbeats 4000000 in
set_option maxRecDepth 100000 in
theorem c_X7_outputByte {S : ST} {E : ET} {g : Nat → va_E} {hsn : Bool} {v v2 : SV} {rem rem2 : Nat → PV} {pt inp : Nat × (Nat → Nat)} {out : BV} {sl : Nat → SlV} (hB : BC S E g (hsn, v, rem, v2, rem2, pt, inp, out, sl)) (hO : SOk v) (x : Int32) : CtI S E yX7_outputByte cX7_outputByte 2 (Option.some FieldType.int) rmX7_outputByte [.ref (E.1 0), .int x] g (fun u g' => u = oOut (hsn, v, rem, v2, rem2, pt, inp, out, sl) x ∧ g = g') := by
  refine Ct.of RX7 (by decide +kernel) rfl (Nat.le_of_ble_eq_true rfl) (fun M C Z => ?_)
  refine G.eq (pc' := 0) (vs' := [some (.ref (E.1 0)), some (.int x)]) (st' := []) ?_
  obtain ⟨ho, hL, hV, hSc, hWy, hPt, hIn, hOu, hSl⟩ := id hB
  have ho : Ce E g 0 (.inr (7, [.ref (E.1 1), .ref (E.1 127), .int (b2i hsn), .ref (E.1 253), .ref (E.1 266), .ref (E.1 268), .ref (E.1 270), .ref (E.1 271), .ref (E.1 273), .ref (E.1 275), .ref (E.1 277)])) := ho
  have hL : StL S E g 1 v rem := hL
  obtain ⟨pi, ra, hs, hl⟩ := id hL
  obtain ⟨hN4, hN, hr1⟩ := id hO
  have hOu : OuAt S E g out := hOu
  refine r_iload_n (pc := 0) C dX7_outputByte_0 rfl ?_
  refine r_if_lt (pc := 1) (tgt := 15) C dX7_outputByte_1 (by decide) (fun h1 => ?_) (fun h1 => ?_)
  · refine r_bipush (pc := 15) (v := (-7)) C dX7_outputByte_15 (by decide +kernel) ?_
    exact r_iret (pc := 17) C Z dX7_outputByte_17 rfl (by rw [show oOut (hsn, v, rem, v2, rem2, pt, inp, out, sl) x = -7 by simp only [oOut, h1, cond_true, cond_false, if_true, if_false, not_true_eq_false, not_false_eq_true, ↓reduceIte]]; exact ⟨rfl, rfl⟩)
  · obtain ⟨a, rfl, ha⟩ := nat_ge0 h1
    have hol := hOu.2.2
    refine r_iload_n (pc := 4) C dX7_outputByte_4 rfl ?_
    refine r_aload_n (pc := 5) C dX7_outputByte_5 rfl ?_
    refine r_getf (pc := 6) C dX7_outputByte_6 fl_RX7_63 ho rfl ?_
    refine r_getf (pc := 9) C dX7_outputByte_9 fl_RX7_258 hOu.1 rfl ?_
    refine r_icmp_lt (pc := 12) (tgt := 18) C dX7_outputByte_12 (by decide) (fun h12 => ?_) (fun h12 => ?_)
    · have h12 := c_lt (by omega) (by omega) h12
      refine r_aload_n (pc := 18) C dX7_outputByte_18 rfl ?_
      refine r_getf (pc := 19) C dX7_outputByte_19 fl_RX7_63 ho rfl ?_
      refine r_getf (pc := 22) C dX7_outputByte_22 fl_RX7_259 hOu.1 rfl ?_
      refine r_iload_n (pc := 25) C dX7_outputByte_25 rfl ?_
      refine r_bald (pc := 26) C dX7_outputByte_26 hOu.2.1 rfl (by omega) (by omega) ?_
      exact r_iret (pc := 27) C Z dX7_outputByte_27 rfl (by rw [show oOut (hsn, v, rem, v2, rem2, pt, inp, out, sl) (nI a) = out.2 a by simp only [oOut, h1, h12, iN_nI ha, cond_true, cond_false, if_true, if_false, not_true_eq_false, not_false_eq_true, ↓reduceIte]]; exact ⟨rfl, rfl⟩)
    · have h12 := c_nlt (by omega) (by omega) h12
      refine r_bipush (pc := 15) (v := (-7)) C dX7_outputByte_15 (by decide +kernel) ?_
      have h12' : ¬ a < out.1 := by omega
      exact r_iret (pc := 17) C Z dX7_outputByte_17 rfl (by rw [show oOut (hsn, v, rem, v2, rem2, pt, inp, out, sl) (nI a) = -7 by simp only [oOut, h1, h12', iN_nI ha, cond_true, cond_false, if_true, if_false, not_true_eq_false, not_false_eq_true, ↓reduceIte]]; exact ⟨rfl, rfl⟩)
set_option maxHeartbeats 4000000 in
set_option maxRecDepth 100000 in
theorem c_X7_snapshot {S : ST} {E : ET} {g : Nat → va_E} {hsn : Bool} {v v2 : SV} {rem rem2 : Nat → PV} {pt inp : Nat × (Nat → Nat)} {out : BV} {sl : Nat → SlV} (hB : BC S E g (hsn, v, rem, v2, rem2, pt, inp, out, sl)) (hO : SOk v) : CtI S E yX7_snapshot cX7_snapshot 1 (Option.some FieldType.int) rmX7_snapshot [.ref (E.1 0)] g (fun u g' => u = (oSnp (hsn, v, rem, v2, rem2, pt, inp, out, sl)).1 ∧ BC S E g' (oSnp (hsn, v, rem, v2, rem2, pt, inp, out, sl)).2 ∧ Fr g g' 0 286) := by
  refine Ct.of RX7 (by decide +kernel) rfl (Nat.le_of_ble_eq_true rfl) (fun M C Z => ?_)
  refine G.eq (pc' := 0) (vs' := [some (.ref (E.1 0))]) (st' := []) ?_
  obtain ⟨ho, hL, hV, hSc, hWy, hPt, hIn, hOu, hSl⟩ := id hB
  have ho : Ce E g 0 (.inr (7, [.ref (E.1 1), .ref (E.1 127), .int (b2i hsn), .ref (E.1 253), .ref (E.1 266), .ref (E.1 268), .ref (E.1 270), .ref (E.1 271), .ref (E.1 273), .ref (E.1 275), .ref (E.1 277)])) := ho
  have hL : StL S E g 1 v rem := hL
  obtain ⟨pi, ra, hs, hl⟩ := id hL
  obtain ⟨hN4, hN, hr1⟩ := id hO
  have hV : StL S E g 127 v2 rem2 := hV
  obtain ⟨pj, rb, hs2, hl2⟩ := id hV
  refine r_aload_n (pc := 0) C dX7_snapshot_0 rfl ?_
  refine r_getf (pc := 1) C dX7_snapshot_1 fl_RX7_18 ho rfl ?_
  refine r_aload_n (pc := 4) C dX7_snapshot_4 rfl ?_
  refine r_getf (pc := 5) C dX7_snapshot_5 fl_RX7_14 ho rfl ?_
  refine r_callV (pc := 8) C dX7_snapshot_8 cv_RX7_300 (c_X5_copyFrom hV hL (by omega)) ⟨rfl, rfl, by decide, by decide⟩ hs2.1 rfl rfl (Nat.le_of_ble_eq_true rfl) ⟨Nat.zero_le _, Nat.zero_le _⟩ ?_
  rintro _ g2 ⟨rfl, hL2, hF⟩
  have hB2 := hB.sv hF hL2
  show G M S E (0, 0) g2 11 [some (.ref (E.1 0))] []
  clear ho hL hV hSc hWy hPt hIn hOu hSl hs hl
  obtain ⟨ho, hL, hV, hSc, hWy, hPt, hIn, hOu, hSl⟩ := id hB2
  have ho : Ce E g2 0 (.inr (7, [.ref (E.1 1), .ref (E.1 127), .int (b2i hsn), .ref (E.1 253), .ref (E.1 266), .ref (E.1 268), .ref (E.1 270), .ref (E.1 271), .ref (E.1 273), .ref (E.1 275), .ref (E.1 277)])) := ho
  obtain ⟨pi, ra, hs, hl⟩ := id hL
  refine r_aload_n (pc := 11) C dX7_snapshot_11 rfl ?_
  refine r_iconst (pc := 12) (v := nI 1) C dX7_snapshot_12 (by decide +kernel) ?_
  refine r_putf (pc := 13) C dX7_snapshot_13 fp_RX7_21 ho rfl rfl (Nat.le_of_ble_eq_true rfl) ?_
  refine r_aload_n (pc := 16) C dX7_snapshot_16 rfl ?_
  refine r_getf (pc := 17) C dX7_snapshot_17 fl_RX7_14 (Ce.new ho) rfl ?_
  refine r_getf (pc := 20) C dX7_snapshot_20 fl_RX7_78 (Ce.up hs.1 (by decide)) rfl ?_
  have hB3 := hB2.snap (hs := true) (h := (va_up g2 0 (.inr (7, [.ref (E.1 1), .ref (E.1 127), .int (nI 1), .ref (E.1 253), .ref (E.1 266), .ref (E.1 268), .ref (E.1 270), .ref (E.1 271), .ref (E.1 273), .ref (E.1 275), .ref (E.1 277)])))) (Fr.up Fr.rf (by omega) (by omega)) (show ObAt E (va_up g2 0 (.inr (7, [.ref (E.1 1), .ref (E.1 127), .int (nI 1), .ref (E.1 253), .ref (E.1 266), .ref (E.1 268), .ref (E.1 270), .ref (E.1 271), .ref (E.1 273), .ref (E.1 275), .ref (E.1 277)]))) true from (Ce.new ho))
  exact r_iret (pc := 23) C Z dX7_snapshot_23 rfl (⟨rfl, hB3, (hF.wide (by omega) (by omega)).tr (Fr.up (lo := 0) (hi := 286) Fr.rf (by omega) (by omega)) (by omega) (by omega)⟩)
set_option maxHeartbeats 4000000 in
set_option maxRecDepth 100000 in
theorem c_X7_restore {S : ST} {E : ET} {g : Nat → va_E} {hsn : Bool} {v v2 : SV} {rem rem2 : Nat → PV} {pt inp : Nat × (Nat → Nat)} {out : BV} {sl : Nat → SlV} (hB : BC S E g (hsn, v, rem, v2, rem2, pt, inp, out, sl)) (hO : SOk v) : CtI S E yX7_restore cX7_restore 1 (Option.some FieldType.int) rmX7_restore [.ref (E.1 0)] g (fun u g' => u = (oRes (hsn, v, rem, v2, rem2, pt, inp, out, sl)).1 ∧ BC S E g' (oRes (hsn, v, rem, v2, rem2, pt, inp, out, sl)).2 ∧ Fr g g' 0 286) := by
  refine Ct.of RX7 (by decide +kernel) rfl (Nat.le_of_ble_eq_true rfl) (fun M C Z => ?_)
  refine G.eq (pc' := 0) (vs' := [some (.ref (E.1 0))]) (st' := []) ?_
  obtain ⟨ho, hL, hV, hSc, hWy, hPt, hIn, hOu, hSl⟩ := id hB
  have ho : Ce E g 0 (.inr (7, [.ref (E.1 1), .ref (E.1 127), .int (b2i hsn), .ref (E.1 253), .ref (E.1 266), .ref (E.1 268), .ref (E.1 270), .ref (E.1 271), .ref (E.1 273), .ref (E.1 275), .ref (E.1 277)])) := ho
  have hL : StL S E g 1 v rem := hL
  obtain ⟨pi, ra, hs, hl⟩ := id hL
  obtain ⟨hN4, hN, hr1⟩ := id hO
  have hV : StL S E g 127 v2 rem2 := hV
  obtain ⟨pj, rb, hs2, hl2⟩ := id hV
  refine r_aload_n (pc := 0) C dX7_restore_0 rfl ?_
  refine r_getf (pc := 1) C dX7_restore_1 fl_RX7_21 ho rfl ?_
  refine r_if_ne (pc := 4) (tgt := 10) C dX7_restore_4 (by decide) (fun h4 => ?_) (fun h4 => ?_)
  · have h4 := b_t h4
    refine r_aload_n (pc := 10) C dX7_restore_10 rfl ?_
    refine r_getf (pc := 11) C dX7_restore_11 fl_RX7_14 ho rfl ?_
    refine r_aload_n (pc := 14) C dX7_restore_14 rfl ?_
    refine r_getf (pc := 15) C dX7_restore_15 fl_RX7_18 ho rfl ?_
    refine r_callV (pc := 18) C dX7_restore_18 cv_RX7_300 (c_X5_copyFrom hL hV (by omega)) ⟨rfl, rfl, by decide, by decide⟩ hs.1 rfl rfl (Nat.le_of_ble_eq_true rfl) ⟨Nat.zero_le _, Nat.zero_le _⟩ ?_
    rintro _ g2 ⟨rfl, hL2, hF⟩
    have hB2 := hB.st hF hL2
    show G M S E (0, 0) g2 21 [some (.ref (E.1 0))] []
    clear ho hL hV hSc hWy hPt hIn hOu hSl hs hl
    obtain ⟨ho, hL, hV, hSc, hWy, hPt, hIn, hOu, hSl⟩ := id hB2
    have ho : Ce E g2 0 (.inr (7, [.ref (E.1 1), .ref (E.1 127), .int (b2i hsn), .ref (E.1 253), .ref (E.1 266), .ref (E.1 268), .ref (E.1 270), .ref (E.1 271), .ref (E.1 273), .ref (E.1 275), .ref (E.1 277)])) := ho
    obtain ⟨pi, ra, hs, hl⟩ := id hL
    refine r_aload_n (pc := 21) C dX7_restore_21 rfl ?_
    refine r_getf (pc := 22) C dX7_restore_22 fl_RX7_14 ho rfl ?_
    refine r_getf (pc := 25) C dX7_restore_25 fl_RX7_78 hs.1 rfl ?_
    exact r_iret (pc := 28) C Z dX7_restore_28 rfl (by rw [show oRes (hsn, v, rem, v2, rem2, pt, inp, out, sl) = (nI v2.1, (hsn, v2, rem2, v2, rem2, pt, inp, out, sl)) by subst h4; rfl]; exact ⟨rfl, hB2, hF.wide (by omega) (by omega)⟩)
  · have h4 := b_f h4
    refine r_bipush (pc := 7) (v := (-5)) C dX7_restore_7 (by decide +kernel) ?_
    exact r_iret (pc := 9) C Z dX7_restore_9 rfl (by rw [show oRes (hsn, v, rem, v2, rem2, pt, inp, out, sl) = (-5, (hsn, v, rem, v2, rem2, pt, inp, out, sl)) by subst h4; rfl]; exact ⟨rfl, hB, Fr.rf⟩)
set_option maxHeartbeats 4000000 in
set_option maxRecDepth 100000 in
theorem c_X7_format {S : ST} {E : ET} {g : Nat → va_E} {hsn : Bool} {v v2 : SV} {rem rem2 : Nat → PV} {pt inp : Nat × (Nat → Nat)} {out : BV} {sl : Nat → SlV} (hB : BC S E g (hsn, v, rem, v2, rem2, pt, inp, out, sl)) (hO : SOk v) (hR : ∀ t j : Nat, t < 6 → rgI (v.2.1 t j)) (x : Int32) : CtI S E yX7_format cX7_format 2 (Option.some FieldType.int) rmX7_format [.ref (E.1 0), .int x] g (fun u g' => u = (oFmt (hsn, v, rem, v2, rem2, pt, inp, out, sl) x).1 ∧ BC S E g' (oFmt (hsn, v, rem, v2, rem2, pt, inp, out, sl) x).2 ∧ Fr g g' 0 286) := by
  refine Ct.of RX7 (by decide +kernel) rfl (Nat.le_of_ble_eq_true rfl) (fun M C Z => ?_)
  refine G.eq (pc' := 0) (vs' := [some (.ref (E.1 0)), some (.int x)]) (st' := []) ?_
  obtain ⟨ho, hL, hV, hSc, hWy, hPt, hIn, hOu, hSl⟩ := id hB
  have ho : Ce E g 0 (.inr (7, [.ref (E.1 1), .ref (E.1 127), .int (b2i hsn), .ref (E.1 253), .ref (E.1 266), .ref (E.1 268), .ref (E.1 270), .ref (E.1 271), .ref (E.1 273), .ref (E.1 275), .ref (E.1 277)])) := ho
  have hL : StL S E g 1 v rem := hL
  obtain ⟨pi, ra, hs, hl⟩ := id hL
  obtain ⟨hN4, hN, hr1⟩ := id hO
  have hOu : OuAt S E g out := hOu
  refine r_iload_n (pc := 0) C dX7_format_0 rfl ?_
  refine r_callS (pc := 1) C dX7_format_1 cs_RX7_82 (c_X7_isRegister x) ⟨rfl, rfl, by decide, by decide⟩ rfl rfl (Nat.le_of_ble_eq_true rfl) ⟨Nat.zero_le _, Nat.zero_le _⟩ ?_
  rintro _ _ ⟨_, rfl, rfl, rfl⟩
  show G M S E (0, 0) g 4 [some (.ref (E.1 0)), some (.int x)] [.int (b2i (hix 6 x))]
  refine r_if_ne (pc := 4) (tgt := 10) C dX7_format_4 (by decide) (fun h4 => ?_) (fun h4 => ?_)
  · have h4 := b_t h4
    obtain ⟨t, rfl, ht⟩ := hix_nat h4 (by omega)
    refine r_aload_n (pc := 10) C dX7_format_10 rfl ?_
    refine r_getf (pc := 11) C dX7_format_11 fl_RX7_63 ho rfl ?_
    refine r_aload_n (pc := 14) C dX7_format_14 rfl ?_
    refine r_getf (pc := 15) C dX7_format_15 fl_RX7_14 ho rfl ?_
    refine r_getf (pc := 18) C dX7_format_18 fl_RX7_91 hs.1 rfl ?_
    refine r_iload_n (pc := 21) C dX7_format_21 rfl ?_
    refine r_aald (pc := 22) C dX7_format_22 hs.2.1 rfl rfl rfl (by omega) (by omega) rfl ?_
    refine r_aload_n (pc := 23) C dX7_format_23 rfl ?_
    refine r_getf (pc := 24) C dX7_format_24 fl_RX7_14 ho rfl ?_
    refine r_getf (pc := 27) C dX7_format_27 fl_RX7_78 hs.1 rfl ?_
    refine r_callV (pc := 30) C dX7_format_30 cv_RX7_255 (c_X1_writeSeries hOu.1 hOu.2.1 (hs.2.2.2.1 t (by omega)) (by omega) (by omega) v.1 hN (fun j _ => hR t j ht)) ⟨rfl, rfl, by decide, by decide⟩ hOu.1 rfl rfl (Nat.le_of_ble_eq_true rfl) ⟨Nat.zero_le _, Nat.zero_le _⟩ ?_
    rintro _ _ ⟨rfl, rfl⟩
    show G M S E (0, 0) (va_up (va_up g (275 + 1) (xB S 336 ((wser (v.2.1 t) v.1 out.2).2))) 275 (.inr (1, [.ref (E.1 (275 + 1)), .int (nI ((wser (v.2.1 t) v.1 out.2).1))]))) 33 [some (.ref (E.1 0)), some (.int (nI t))] []
    refine r_aload_n (pc := 33) C dX7_format_33 rfl ?_
    refine r_getf (pc := 34) C dX7_format_34 fl_RX7_63 (Ce.up (Ce.up ho (by omega)) (by decide)) rfl ?_
    refine r_getf (pc := 37) C dX7_format_37 fl_RX7_258 (Ce.new (Ce.up hOu.1 (by omega))) rfl ?_
    have hf2 : Fr g (va_up (va_up g (275 + 1) (xB S 336 ((wser (v.2.1 t) v.1 out.2).2))) 275 (.inr (1, [.ref (E.1 (275 + 1)), .int (nI ((wser (v.2.1 t) v.1 out.2).1))]))) 275 277 := ((Fr.rf.up (by omega) (by omega)).up (by omega) (by omega))
    have hB2 := hB.out (b := (wser (v.2.1 t) v.1 out.2)) hf2 ⟨(Ce.new (Ce.up hOu.1 (by omega))), (Ce.up (Ce.new hOu.2.1) (by omega)), wser_len _ _ hN _⟩
    exact r_iret (pc := 40) C Z dX7_format_40 rfl (by rw [show oFmt (hsn, v, rem, v2, rem2, pt, inp, out, sl) (nI t) = (nI (wser (v.2.1 t) v.1 out.2).1, kOu (hsn, v, rem, v2, rem2, pt, inp, out, sl) (wser (v.2.1 t) v.1 out.2)) by simp only [oFmt, h4, iN_nI (show t < 2 ^ 31 by omega), cond_true, cond_false, if_true, if_false, not_true_eq_false, not_false_eq_true, ↓reduceIte]]; exact ⟨rfl, hB2, hf2.wide (by omega) (by omega)⟩)
  · have h4 := b_f h4
    refine r_bipush (pc := 7) (v := (-2)) C dX7_format_7 (by decide +kernel) ?_
    exact r_iret (pc := 9) C Z dX7_format_9 rfl (by rw [show oFmt (hsn, v, rem, v2, rem2, pt, inp, out, sl) x = (-2, (hsn, v, rem, v2, rem2, pt, inp, out, sl)) by simp only [oFmt, h4, cond_true, cond_false, if_true, if_false, not_true_eq_false, not_false_eq_true, ↓reduceIte]]; exact ⟨rfl, hB, Fr.rf⟩)
set_option maxHeartbeats 4000000 in
set_option maxRecDepth 100000 in
theorem c_X7_parseSeries {S : ST} {E : ET} {g : Nat → va_E} {hsn : Bool} {v v2 : SV} {rem rem2 : Nat → PV} {pt inp : Nat × (Nat → Nat)} {out : BV} {sl : Nat → SlV} (hB : BC S E g (hsn, v, rem, v2, rem2, pt, inp, out, sl)) (hO : SOk v) (x : Int32) : CtI S E yX7_parseSeries cX7_parseSeries 3 (Option.some FieldType.int) rmX7_parseSeries [.ref (E.1 0), .int x] g (fun u g' => u = (oPar (hsn, v, rem, v2, rem2, pt, inp, out, sl) x).1 ∧ BC S E g' (oPar (hsn, v, rem, v2, rem2, pt, inp, out, sl) x).2 ∧ Fr g g' 0 286) := by
  refine Ct.of RX7 (by decide +kernel) rfl (Nat.le_of_ble_eq_true rfl) (fun M C Z => ?_)
  refine G.eq (pc' := 0) (vs' := [some (.ref (E.1 0)), some (.int x), none]) (st' := []) ?_
  obtain ⟨ho, hL, hV, hSc, hWy, hPt, hIn, hOu, hSl⟩ := id hB
  have ho : Ce E g 0 (.inr (7, [.ref (E.1 1), .ref (E.1 127), .int (b2i hsn), .ref (E.1 253), .ref (E.1 266), .ref (E.1 268), .ref (E.1 270), .ref (E.1 271), .ref (E.1 273), .ref (E.1 275), .ref (E.1 277)])) := ho
  have hL : StL S E g 1 v rem := hL
  obtain ⟨pi, ra, hs, hl⟩ := id hL
  obtain ⟨hN4, hN, hr1⟩ := id hO
  obtain ⟨⟨v0, hp0⟩, ⟨N1, c1, hw, hc⟩, ⟨N2, c2, hw2, hc2⟩⟩ := id hSc
  have hIn : InAt S E g inp := hIn
  obtain ⟨⟨p0, hq⟩, hx, h128, hi60⟩ := id hIn
  refine r_iload_n (pc := 0) C dX7_parseSeries_0 rfl ?_
  refine r_callS (pc := 1) C dX7_parseSeries_1 cs_RX7_82 (c_X7_isRegister x) ⟨rfl, rfl, by decide, by decide⟩ rfl rfl (Nat.le_of_ble_eq_true rfl) ⟨Nat.zero_le _, Nat.zero_le _⟩ ?_
  rintro _ _ ⟨_, rfl, rfl, rfl⟩
  show G M S E (0, 0) g 4 [some (.ref (E.1 0)), some (.int x), none] [.int (b2i (hix 6 x))]
  refine r_if_ne (pc := 4) (tgt := 10) C dX7_parseSeries_4 (by decide) (fun h4 => ?_) (fun h4 => ?_)
  · have h4 := b_t h4
    obtain ⟨t, rfl, ht⟩ := hix_nat h4 (by omega)
    refine r_aload_n (pc := 10) C dX7_parseSeries_10 rfl ?_
    refine r_getf (pc := 11) C dX7_parseSeries_11 fl_RX7_35 ho rfl ?_
    refine r_aload_n (pc := 14) C dX7_parseSeries_14 rfl ?_
    refine r_getf (pc := 15) C dX7_parseSeries_15 fl_RX7_14 ho rfl ?_
    refine r_getf (pc := 18) C dX7_parseSeries_18 fl_RX7_78 hs.1 rfl ?_
    refine r_callV (pc := 21) C dX7_parseSeries_21 cv_RX7_104 (c_X6_setZero v.1 hw hc (by omega)) ⟨rfl, rfl, by decide, by decide⟩ hw rfl rfl (Nat.le_of_ble_eq_true rfl) ⟨Nat.zero_le _, Nat.zero_le _⟩ ?_
    rintro _ _ ⟨rfl, rfl⟩
    show G M S E (0, 0) (va_up (va_up g 266 (.inr (6, [.ref (E.1 (266 + 1)), .int (nI v.1)]))) (266 + 1) (xJ S 24 (fun _ => 0))) 24 [some (.ref (E.1 0)), some (.int (nI t)), none] []
    refine r_aload_n (pc := 24) C dX7_parseSeries_24 rfl ?_
    refine r_getf (pc := 25) C dX7_parseSeries_25 fl_RX7_56 (Ce.up (Ce.up ho (by decide)) (by omega)) rfl ?_
    refine r_aload_n (pc := 28) C dX7_parseSeries_28 rfl ?_
    refine r_getf (pc := 29) C dX7_parseSeries_29 fl_RX7_35 (Ce.up (Ce.up ho (by decide)) (by omega)) rfl ?_
    refine r_callV (pc := 32) C dX7_parseSeries_32 cv_RX7_248 (c_X0_readSeries (Ce.up (Ce.up hq (by decide)) (by omega)) (Ce.up (Ce.up hx (by omega)) (by omega)) hi60 h128 (Ce.up (Ce.new hw) (by omega)) (Ce.new (Ce.up hc (by omega))) hN (by omega) (by omega) (by omega) (by omega) (by omega)) ⟨rfl, rfl, by decide, by decide⟩ (Ce.up (Ce.up hq (by decide)) (by omega)) rfl rfl (Nat.le_of_ble_eq_true rfl) ⟨Nat.zero_le _, Nat.zero_le _⟩ ?_
    rintro _ _ ⟨_, rfl, rfl, rfl⟩
    show G M S E (0, 0) (va_up (va_up (va_up (va_up g 266 (.inr (6, [.ref (E.1 (266 + 1)), .int (nI v.1)]))) (266 + 1) (xJ S 24 (fun _ => 0))) 273 (.inr (0, [.ref (E.1 (273 + 1)), .int (nI inp.1), .int (nI ((rser inp.1 inp.2 v.1 (fun _ => 0)).2.1))]))) (266 + 1) (xJ S 24 ((rser inp.1 inp.2 v.1 (fun _ => 0)).2.2))) 35 [some (.ref (E.1 0)), some (.int (nI t)), none] [.int (b2i ((rser inp.1 inp.2 v.1 (fun _ => 0)).1))]
    refine G.heap (show (va_up (va_up (va_up (va_up g 266 (.inr (6, [.ref (E.1 (266 + 1)), .int (nI v.1)]))) (266 + 1) (xJ S 24 (fun _ => 0))) 273 (.inr (0, [.ref (E.1 (273 + 1)), .int (nI inp.1), .int (nI ((rser inp.1 inp.2 v.1 (fun _ => 0)).2.1))]))) (266 + 1) (xJ S 24 ((rser inp.1 inp.2 v.1 (fun _ => 0)).2.2))) = (va_up (va_up (va_up g 266 (.inr (6, [.ref (E.1 (266 + 1)), .int (nI v.1)]))) (266 + 1) (xJ S 24 ((rser inp.1 inp.2 v.1 (fun _ => 0)).2.2))) 273 (.inr (0, [.ref (E.1 (273 + 1)), .int (nI inp.1), .int (nI ((rser inp.1 inp.2 v.1 (fun _ => 0)).2.1))]))) from by funext q; simp only [va_up]; (repeat' split) <;> first | rfl | omega) ?_
    refine r_istore_n (pc := 35) C dX7_parseSeries_35 (by decide) ?_
    refine G.eq (pc' := 36) (vs' := [some (.ref (E.1 0)), some (.int (nI t)), some (.int (b2i ((rser inp.1 inp.2 v.1 (fun _ => 0)).1)))]) (st' := []) ?_
    refine r_aload_n (pc := 36) C dX7_parseSeries_36 rfl ?_
    refine r_getf (pc := 37) C dX7_parseSeries_37 fl_RX7_56 (Ce.up (Ce.up (Ce.up ho (by decide)) (by omega)) (by decide)) rfl ?_
    refine r_iconst (pc := 40) (v := nI 0) C dX7_parseSeries_40 (by decide +kernel) ?_
    refine r_putf2 (pc := 41) C dX7_parseSeries_41 fp_RX7_234 hq.1 rfl rfl (Nat.le_of_ble_eq_true rfl) ?_
    refine r_iload_n (pc := 44) C dX7_parseSeries_44 rfl ?_
    have hf2 : Fr g (va_up (va_up g 266 (.inr (6, [.ref (E.1 (266 + 1)), .int (nI v.1)]))) (266 + 1) (xJ S 24 ((rser inp.1 inp.2 v.1 (fun _ => 0)).2.2))) 253 270 := ((Fr.rf.up (by omega) (by omega)).up (by omega) (by omega))
    have hB2 := hB.scr hf2 ⟨⟨v0, ((hp0.out (by omega)).out (by omega))⟩, (Wd.of (Ce.up (Ce.new hw) (by omega)) (Ce.new (Ce.up hc (by omega)))), (Wd.of (Ce.up (Ce.up hw2 (by decide)) (by omega)) (Ce.up (Ce.up hc2 (by omega)) (by omega)))⟩
    have hB3 := hB2.inp (h := (va_up (va_up (va_up g 266 (.inr (6, [.ref (E.1 (266 + 1)), .int (nI v.1)]))) (266 + 1) (xJ S 24 ((rser inp.1 inp.2 v.1 (fun _ => 0)).2.2))) 273 (.inr (0, [.ref (E.1 (273 + 1)), .int (nI 0), .int (nI ((rser inp.1 inp.2 v.1 (fun _ => 0)).2.1))])))) (Fr.up Fr.rf (by omega) (by omega)) (show InAt S E (va_up (va_up (va_up g 266 (.inr (6, [.ref (E.1 (266 + 1)), .int (nI v.1)]))) (266 + 1) (xJ S 24 ((rser inp.1 inp.2 v.1 (fun _ => 0)).2.2))) 273 (.inr (0, [.ref (E.1 (273 + 1)), .int (nI 0), .int (nI ((rser inp.1 inp.2 v.1 (fun _ => 0)).2.1))]))) (0, inp.2) from ⟨⟨_, (Ce.new (Ce.up (Ce.up hq (by decide)) (by omega)))⟩, (Ce.up (Ce.up (Ce.up hx (by omega)) (by omega)) (by omega)), h128, Nat.zero_le _⟩)
    have hf3 : Fr g (va_up (va_up (va_up g 266 (.inr (6, [.ref (E.1 (266 + 1)), .int (nI v.1)]))) (266 + 1) (xJ S 24 ((rser inp.1 inp.2 v.1 (fun _ => 0)).2.2))) 273 (.inr (0, [.ref (E.1 (273 + 1)), .int (nI 0), .int (nI ((rser inp.1 inp.2 v.1 (fun _ => 0)).2.1))]))) 0 286 := (hf2.wide (by omega) (by omega)).tr (Fr.up (lo := 0) (hi := 286) Fr.rf (by omega) (by omega)) (by omega) (by omega)
    refine r_if_ne (pc := 45) (tgt := 60) C dX7_parseSeries_45 (by decide) (fun h45 => ?_) (fun h45 => ?_)
    · have h45 := b_t h45
      refine r_aload_n (pc := 60) C dX7_parseSeries_60 rfl ?_
      refine r_iload_n (pc := 61) C dX7_parseSeries_61 rfl ?_
      refine r_callV (pc := 62) C dX7_parseSeries_62 cv_RX7_111 (c_X7_keepResult hB3 hO (Ce.up (Ce.up (Ce.new hw) (by omega)) (by decide)) (Ce.up (Ce.new (Ce.up hc (by omega))) (by omega)) t ht) ⟨rfl, rfl, by decide, by decide⟩ (Ce.up (Ce.up (Ce.up ho (by decide)) (by omega)) (by decide)) rfl rfl (Nat.le_of_ble_eq_true rfl) ⟨Nat.zero_le _, Nat.zero_le _⟩ ?_
      rintro _ g4 ⟨_, rfl, rfl, hB4, hF4⟩
      show G M S E (0, 0) g4 65 [some (.ref (E.1 0)), some (.int (nI t)), some (.int (b2i ((rser inp.1 inp.2 v.1 (fun _ => 0)).1)))] [.int ((kpR v.1 ((rser inp.1 inp.2 v.1 (fun _ => 0)).2.2) v.2.1 t).1)]
      exact r_iret (pc := 65) C Z dX7_parseSeries_65 rfl (by rw [show oPar (hsn, v, rem, v2, rem2, pt, inp, out, sl) (nI t) = kp (kIn (hsn, v, rem, v2, rem2, pt, inp, out, sl) (0, inp.2)) ((rser inp.1 inp.2 v.1 (fun _ => 0)).2.2) t by simp only [oPar, h4, h45, iN_nI (show t < 2 ^ 31 by omega), cond_true, cond_false, if_true, if_false, not_true_eq_false, not_false_eq_true, ↓reduceIte]]; exact ⟨rfl, hB4, hf3.tr hF4 (by omega) (by omega)⟩)
    · have h45 := b_f h45
      refine r_sipush (pc := 48) (v := (-1000)) C dX7_parseSeries_48 (by decide +kernel) ?_
      refine r_aload_n (pc := 51) C dX7_parseSeries_51 rfl ?_
      refine r_getf (pc := 52) C dX7_parseSeries_52 fl_RX7_56 (Ce.up (Ce.up (Ce.up ho (by decide)) (by omega)) (by decide)) rfl ?_
      refine r_getf (pc := 55) C dX7_parseSeries_55 fl_RX7_252 (Ce.new (Ce.up (Ce.up hq (by decide)) (by omega))) rfl ?_
      refine r_isub (pc := 58) C dX7_parseSeries_58 ?_
      exact r_iret (pc := 59) C Z dX7_parseSeries_59 rfl (by rw [show oPar (hsn, v, rem, v2, rem2, pt, inp, out, sl) (nI t) = (-1000 - nI (rser inp.1 inp.2 v.1 (fun _ => 0)).2.1, (kIn (hsn, v, rem, v2, rem2, pt, inp, out, sl) (0, inp.2))) by simp only [oPar, h4, h45, iN_nI (show t < 2 ^ 31 by omega), cond_true, cond_false, if_true, if_false, not_true_eq_false, not_false_eq_true, ↓reduceIte]]; exact ⟨rfl, hB3, hf3⟩)
  · have h4 := b_f h4
    refine r_bipush (pc := 7) (v := (-2)) C dX7_parseSeries_7 (by decide +kernel) ?_
    exact r_iret (pc := 9) C Z dX7_parseSeries_9 rfl (by rw [show oPar (hsn, v, rem, v2, rem2, pt, inp, out, sl) x = (-2, (hsn, v, rem, v2, rem2, pt, inp, out, sl)) by simp only [oPar, h4, cond_true, cond_false, if_true, if_false, not_true_eq_false, not_false_eq_true, ↓reduceIte]]; exact ⟨rfl, hB, Fr.rf⟩)
