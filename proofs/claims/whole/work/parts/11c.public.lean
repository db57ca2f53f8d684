def oSta (k : KV) (x y : Int32) : Int32 := bif hix 6 x then (if y = nI 0 then nzN k.2.1.1 (k.2.1.2.1 (iN x)) else if y = nI 1 then nI (cntN (fun j => decide (k.2.1.2.1 (iN x) j < 0)) k.2.1.1) else if y = nI 2 then nI (it (sgF (k.2.1.2.1 (iN x))) k.2.1.1 (0, nI 0)).1 else if y = nI 3 then it (laF (k.2.1.2.1 (iN x))) k.2.1.1 (nI 0) else if y = nI 4 then nI (it (rcF (k.2.1.2.1 (iN x))) (k.2.1.1 - 1) (1, k.2.1.2.1 (iN x) 0)).1 else -1) else -2
theorem tb5 {y : Int32} (h0 : ¬ y = nI 0) (h1 : ¬ y = nI 1) (h2 : ¬ y = nI 2) (h3 : ¬ y = nI 3) (h4 : ¬ y = nI 4) : y.toInt < 0 ∨ 4 < y.toInt := by
  by_cases a : y.toInt < 0
  · exact Or.inl a
  · by_cases b : 4 < y.toInt
    · exact Or.inr b
    · exfalso
      obtain ⟨t, rfl, ht⟩ := nat_ge0 (x := y) (fun q => a (Int32.lt_iff_toInt_lt.mp q))
      rw [nI_toInt ht] at b
      match t, b, h0, h1, h2, h3, h4 with
      | 0, _, h0, _, _, _, _ => exact h0 rfl
      | 1, _, _, h1, _, _, _ => exact h1 rfl
      | 2, _, _, _, h2, _, _ => exact h2 rfl
      | 3, _, _, _, _, h3, _ => exact h3 rfl
      | 4, _, _, _, _, _, h4 => exact h4 rfl
      | t + 5, b, _, _, _, _, _ => omega
def cwF (k : Nat) (m z : Int32) (t : Nat) : Nat → Int64 := it (fun j c => bif inS (nI (1 + j)) m z then ovF (k + 1) (1 + j) c else c) t (vp_updL (fun _ => 0) 0 1)
theorem cw_t {k : Nat} {m x : Int32} {t : Nat} (h : inS (nI (1 + t)) m x = true) : cwF k m x (t + 1) = ovF (k + 1) (1 + t) (cwF k m x t) := by
  show (bif inS (nI (1 + t)) m x then ovF (k + 1) (1 + t) (cwF k m x t) else (cwF k m x t)) = _
  rw [h]; rfl
theorem cw_f {k : Nat} {m x : Int32} {t : Nat} (h : inS (nI (1 + t)) m x = false) : cwF k m x (t + 1) = cwF k m x t := by
  show (bif inS (nI (1 + t)) m x then ovF (k + 1) (1 + t) (cwF k m x t) else (cwF k m x t)) = _
  rw [h]; rfl
def oCnt (_ : KV) (x m z : Int32) : Int64 := if x < 0 then -9223372036854775808 else if nI 60 < x then -9223372036854775808 else bif rsB m z then cwF (iN x) m z (iN x) (iN x) else -9223372036854775808
def oPrt (k : KV) (x y : Int32) : Int32 := if x < 0 then -1 else if 0 ≤ y then (if k.2.2.2.2.2.1.1 ≤ iN x then -7 else if iN y < 16 then (if k.2.2.2.2.2.1.2 (iN x * 16 + iN y) = 0 then -7 else nI (k.2.2.2.2.2.1.2 (iN x * 16 + iN y))) else -7) else -1
def kIn (k : KV) (v : Nat × (Nat → Nat)) : KV := (k.1, k.2.1, k.2.2.1, k.2.2.2.1, k.2.2.2.2.1, k.2.2.2.2.2.1, v, k.2.2.2.2.2.2.2)
def oClr (k : KV) : Int32 × KV := (nI k.2.2.2.2.2.2.1.1, kIn k (0, k.2.2.2.2.2.2.1.2))
def oOut (k : KV) (x : Int32) : Int32 := if x < 0 then -7 else if iN x < k.2.2.2.2.2.2.2.1.1 then k.2.2.2.2.2.2.2.1.2 (iN x) else -7
def oSnp (k : KV) : Int32 × KV := (nI k.2.1.1, (true, k.2.1, k.2.2.1, k.2.1, k.2.2.1, k.2.2.2.2.2))
def oRes (k : KV) : Int32 × KV := bif k.1 then (nI k.2.2.2.1.1, (k.1, k.2.2.2.1, k.2.2.2.2.1, k.2.2.2)) else (-5, k)
set_option maxHeartbeats 4000000 in
set_option maxRecDepth 100000 in
theorem c_X7_product {S : ST} {E : ET} {g : Nat → va_E} {hsn : Bool} {v v2 : SV} {rem rem2 : Nat → PV} {pt inp : Nat × (Nat → Nat)} {out : BV} {sl : Nat → SlV} (hB : BC S E g (hsn, v, rem, v2, rem2, pt, inp, out, sl)) (hO : SOk v) (x m z f : Int32) : CtI S E yX7_product cX7_product 6 (Option.some FieldType.int) rmX7_product [.ref (E.1 0), .int x, .int m, .int z, .int f] g (fun u g' => u = (oPro (hsn, v, rem, v2, rem2, pt, inp, out, sl) x m z f).1 ∧ BC S E g' (oPro (hsn, v, rem, v2, rem2, pt, inp, out, sl) x m z f).2 ∧ Fr g g' 0 286) := by
  refine Ct.of RX7 (by decide +kernel) rfl (Nat.le_of_ble_eq_true rfl) (fun M C Z => ?_)
  refine G.eq (pc' := 0) (vs' := [some (.ref (E.1 0)), some (.int x), some (.int m), some (.int z), some (.int f), none]) (st' := []) ?_
  obtain ⟨ho, hL, hV, hSc, hWy, hPt, hIn, hOu, hSl⟩ := id hB
  have ho : Ce E g 0 (.inr (7, [.ref (E.1 1), .ref (E.1 127), .int (b2i hsn), .ref (E.1 253), .ref (E.1 266), .ref (E.1 268), .ref (E.1 270), .ref (E.1 271), .ref (E.1 273), .ref (E.1 275), .ref (E.1 277)])) := ho
  have hL : StL S E g 1 v rem := hL
  obtain ⟨pi, ra, hs, hl⟩ := id hL
  obtain ⟨hN4, hN, hr1⟩ := id hO
  obtain ⟨⟨v0, hp0⟩, ⟨N1, c1, hw, hc⟩, ⟨N2, c2, hw2, hc2⟩⟩ := id hSc
  refine r_iload_n (pc := 0) C dX7_product_0 rfl ?_
  refine r_callS (pc := 1) C dX7_product_1 cs_RX7_82 (c_X7_isRegister x) ⟨rfl, rfl, by decide, by decide⟩ rfl rfl (Nat.le_of_ble_eq_true rfl) ⟨Nat.zero_le _, Nat.zero_le _⟩ ?_
  rintro _ _ ⟨_, rfl, rfl, rfl⟩
  show G M S E (0, 0) g 4 [some (.ref (E.1 0)), some (.int x), some (.int m), some (.int z), some (.int f), none] [.int (b2i (hix 6 x))]
  refine r_if_ne (pc := 4) (tgt := 10) C dX7_product_4 (by decide) (fun h4 => ?_) (fun h4 => ?_)
  · have h4 := b_t h4
    refine r_iload_n (pc := 10) C dX7_product_10 rfl ?_
    refine r_iload_n (pc := 11) C dX7_product_11 rfl ?_
    refine r_callS (pc := 12) C dX7_product_12 cs_RX7_130 (c_X7_isResidueSet m z) ⟨rfl, rfl, by decide, by decide⟩ rfl rfl (Nat.le_of_ble_eq_true rfl) ⟨Nat.zero_le _, Nat.zero_le _⟩ ?_
    rintro _ _ ⟨_, rfl, rfl, rfl⟩
    show G M S E (0, 0) g 15 [some (.ref (E.1 0)), some (.int x), some (.int m), some (.int z), some (.int f), none] [.int (b2i (rsB m z))]
    refine r_if_eq (pc := 15) (tgt := 31) C dX7_product_15 (by decide) (fun h15 => ?_) (fun h15 => ?_)
    · have h15 := b_f h15
      refine r_iconst (pc := 31) (v := (-1)) C dX7_product_31 (by decide +kernel) ?_
      exact r_iret (pc := 32) C Z dX7_product_32 rfl (by rw [show oPro (hsn, v, rem, v2, rem2, pt, inp, out, sl) x m z f = (-1, (hsn, v, rem, v2, rem2, pt, inp, out, sl)) by simp only [oPro, h4, h15, cond_true, cond_false, if_true, if_false, not_true_eq_false, not_false_eq_true, ↓reduceIte]]; exact ⟨rfl, hB, Fr.rf⟩)
    · have h15 := b_t h15
      refine r_iload (pc := 18) C dX7_product_18 rfl ?_
      refine r_bipush (pc := 20) (v := (-3)) C dX7_product_20 (by decide +kernel) ?_
      refine r_icmp_lt (pc := 22) (tgt := 31) C dX7_product_22 (by decide) (fun h22 => ?_) (fun h22 => ?_)
      · refine r_iconst (pc := 31) (v := (-1)) C dX7_product_31 (by decide +kernel) ?_
        exact r_iret (pc := 32) C Z dX7_product_32 rfl (by rw [show oPro (hsn, v, rem, v2, rem2, pt, inp, out, sl) x m z f = (-1, (hsn, v, rem, v2, rem2, pt, inp, out, sl)) by simp only [oPro, h4, h15, h22, cond_true, cond_false, if_true, if_false, not_true_eq_false, not_false_eq_true, ↓reduceIte]]; exact ⟨rfl, hB, Fr.rf⟩)
      · refine r_iload (pc := 25) C dX7_product_25 rfl ?_
        refine r_iconst (pc := 27) (v := nI 3) C dX7_product_27 (by decide +kernel) ?_
        refine r_icmp_le (pc := 28) (tgt := 33) C dX7_product_28 (by decide) (fun h28 => ?_) (fun h28 => ?_)
        · obtain ⟨t, rfl, ht⟩ := hix_nat h4 (by omega)
          refine r_aload_n (pc := 33) C dX7_product_33 rfl ?_
          refine r_getf (pc := 34) C dX7_product_34 fl_RX7_35 ho rfl ?_
          refine r_aload_n (pc := 37) C dX7_product_37 rfl ?_
          refine r_getf (pc := 38) C dX7_product_38 fl_RX7_14 ho rfl ?_
          refine r_getf (pc := 41) C dX7_product_41 fl_RX7_78 hs.1 rfl ?_
          refine r_callV (pc := 44) C dX7_product_44 cv_RX7_104 (c_X6_setZero v.1 hw hc (by omega)) ⟨rfl, rfl, by decide, by decide⟩ hw rfl rfl (Nat.le_of_ble_eq_true rfl) ⟨Nat.zero_le _, Nat.zero_le _⟩ ?_
          rintro _ _ ⟨rfl, rfl⟩
          show G M S E (0, 0) (va_up (va_up g 266 (.inr (6, [.ref (E.1 (266 + 1)), .int (nI v.1)]))) (266 + 1) (xJ S 24 (fun _ => 0))) 47 [some (.ref (E.1 0)), some (.int (nI t)), some (.int m), some (.int z), some (.int f), none] []
          refine r_aload_n (pc := 47) C dX7_product_47 rfl ?_
          refine r_getf (pc := 48) C dX7_product_48 fl_RX7_35 (Ce.up (Ce.up ho (by decide)) (by omega)) rfl ?_
          refine r_iconst (pc := 51) (v := nI 0) C dX7_product_51 (by decide +kernel) ?_
          refine r_iconst (pc := 52) (v := nI 1) C dX7_product_52 (by decide +kernel) ?_
          refine r_callV (pc := 53) C dX7_product_53 cv_RX7_126 (c_X6_plusTerm (Ce.up (Ce.new hw) (by omega)) (Ce.new (Ce.up hc (by omega))) hN (by omega) 0 (by omega) (nI 1)) ⟨rfl, rfl, by decide, by decide⟩ (Ce.up (Ce.new hw) (by omega)) rfl rfl (Nat.le_of_ble_eq_true rfl) ⟨Nat.zero_le _, Nat.zero_le _⟩ ?_
          rintro _ _ ⟨rfl, rfl⟩
          rw [bx_uu]
          show G M S E (0, 0) (va_up (va_up g 266 (.inr (6, [.ref (E.1 (266 + 1)), .int (nI v.1)]))) (266 + 1) (xJ S 24 (plT v.1 0 (nI 1) (fun _ => 0)))) 56 [some (.ref (E.1 0)), some (.int (nI t)), some (.int m), some (.int z), some (.int f), none] []
          refine r_iconst (pc := 56) (v := nI 1) C dX7_product_56 (by decide +kernel) ?_
          refine r_istore (pc := 57) C dX7_product_57 (by decide) ?_
          refine G.eq (pc' := 59) (vs' := [some (.ref (E.1 0)), some (.int (nI t)), some (.int m), some (.int z), some (.int f), some (.int (nI 1))]) (st' := []) ?_
          refine bk (P := fun t2 => G M S E (0, 0) (va_up (va_up g 266 (.inr (6, [.ref (E.1 (266 + 1)), .int (nI v.1)]))) (266 + 1) (xJ S 24 (pdF v.1 m z f t2))) 59 [some (.ref (E.1 0)), some (.int (nI t)), some (.int m), some (.int z), some (.int f), some (.int (nI (1 + t2)))] []) (T := v.1 - 1) ?_ (fun t2 ht ih => ?_)
          · show G M S E (0, 0) (va_up (va_up g 266 (.inr (6, [.ref (E.1 (266 + 1)), .int (nI v.1)]))) (266 + 1) (xJ S 24 (pdF v.1 m z f (v.1 - 1)))) 59 [some (.ref (E.1 0)), some (.int (nI t)), some (.int m), some (.int z), some (.int f), some (.int (nI (1 + (v.1 - 1))))] []
            refine r_iload (pc := 59) C dX7_product_59 rfl ?_
            refine r_aload_n (pc := 61) C dX7_product_61 rfl ?_
            refine r_getf (pc := 62) C dX7_product_62 fl_RX7_14 (Ce.up (Ce.up ho (by decide)) (by omega)) rfl ?_
            refine r_getf (pc := 65) C dX7_product_65 fl_RX7_78 (Ce.up (Ce.up hs.1 (by decide)) (by omega)) rfl ?_
            refine r_icmp_ge (pc := 68) (tgt := 98) C dX7_product_68 (by decide) (fun h68 => ?_) (fun h68 => ?_)
            · have h68 := c_le (by omega) (by omega) h68
              refine r_aload_n (pc := 98) C dX7_product_98 rfl ?_
              refine r_iload_n (pc := 99) C dX7_product_99 rfl ?_
              have hf2 : Fr g (va_up (va_up g 266 (.inr (6, [.ref (E.1 (266 + 1)), .int (nI v.1)]))) (266 + 1) (xJ S 24 (pdF v.1 m z f (v.1 - 1)))) 253 270 := ((Fr.rf.up (by omega) (by omega)).up (by omega) (by omega))
              have hB2 := hB.scr hf2 ⟨⟨v0, ((hp0.out (by omega)).out (by omega))⟩, (Wd.of (Ce.up (Ce.new hw) (by omega)) (Ce.new (Ce.up hc (by omega)))), (Wd.of (Ce.up (Ce.up hw2 (by decide)) (by omega)) (Ce.up (Ce.up hc2 (by omega)) (by omega)))⟩
              refine r_callV (pc := 100) C dX7_product_100 cv_RX7_111 (c_X7_keepResult hB2 hO (Ce.up (Ce.new hw) (by omega)) (Ce.new (Ce.up hc (by omega))) t ht) ⟨rfl, rfl, by decide, by decide⟩ (Ce.up (Ce.up ho (by decide)) (by omega)) rfl rfl (Nat.le_of_ble_eq_true rfl) ⟨Nat.zero_le _, Nat.zero_le _⟩ ?_
              rintro _ g3 ⟨_, rfl, rfl, hB3, hF3⟩
              show G M S E (0, 0) g3 103 [some (.ref (E.1 0)), some (.int (nI t)), some (.int m), some (.int z), some (.int f), some (.int (nI (1 + (v.1 - 1))))] [.int ((kpR v.1 (pdF v.1 m z f (v.1 - 1)) v.2.1 t).1)]
              exact r_iret (pc := 103) C Z dX7_product_103 rfl (by rw [show oPro (hsn, v, rem, v2, rem2, pt, inp, out, sl) (nI t) m z f = kp (hsn, v, rem, v2, rem2, pt, inp, out, sl) (pdF v.1 m z f (v.1 - 1)) t by simp only [oPro, h4, h15, h22, h28, iN_nI (show t < 2 ^ 31 by omega), cond_true, cond_false, if_true, if_false, not_true_eq_false, not_false_eq_true, ↓reduceIte]]; exact ⟨rfl, hB3, (hf2.wide (by omega) (by omega)).tr hF3 (by omega) (by omega)⟩)
            · have h68 := c_nle (by omega) (by omega) h68
              omega
          · show G M S E (0, 0) (va_up (va_up g 266 (.inr (6, [.ref (E.1 (266 + 1)), .int (nI v.1)]))) (266 + 1) (xJ S 24 (pdF v.1 m z f t2))) 59 [some (.ref (E.1 0)), some (.int (nI t)), some (.int m), some (.int z), some (.int f), some (.int (nI (1 + t2)))] []
            refine r_iload (pc := 59) C dX7_product_59 rfl ?_
            refine r_aload_n (pc := 61) C dX7_product_61 rfl ?_
            refine r_getf (pc := 62) C dX7_product_62 fl_RX7_14 (Ce.up (Ce.up ho (by decide)) (by omega)) rfl ?_
            refine r_getf (pc := 65) C dX7_product_65 fl_RX7_78 (Ce.up (Ce.up hs.1 (by decide)) (by omega)) rfl ?_
            refine r_icmp_ge (pc := 68) (tgt := 98) C dX7_product_68 (by decide) (fun h68 => ?_) (fun h68 => ?_)
            · have h68 := c_le (by omega) (by omega) h68
              omega
            · have h68 := c_nle (by omega) (by omega) h68
              refine r_iload (pc := 71) C dX7_product_71 rfl ?_
              refine r_iload_n (pc := 73) C dX7_product_73 rfl ?_
              refine r_iload_n (pc := 74) C dX7_product_74 rfl ?_
              refine r_callS (pc := 75) C dX7_product_75 cs_RX7_134 (c_X7_isInResidueSet (nI (1 + t2)) m z) ⟨rfl, rfl, by decide, by decide⟩ rfl rfl (Nat.le_of_ble_eq_true rfl) ⟨Nat.zero_le _, Nat.zero_le _⟩ ?_
              rintro _ _ ⟨_, rfl, rfl, rfl⟩
              show G M S E (0, 0) (va_up (va_up g 266 (.inr (6, [.ref (E.1 (266 + 1)), .int (nI v.1)]))) (266 + 1) (xJ S 24 (pdF v.1 m z f t2))) 78 [some (.ref (E.1 0)), some (.int (nI t)), some (.int m), some (.int z), some (.int f), some (.int (nI (1 + t2)))] [.int (b2i (inS (nI (1 + t2)) m z))]
              refine r_if_eq (pc := 78) (tgt := 92) C dX7_product_78 (by decide) (fun h78 => ?_) (fun h78 => ?_)
              · have h78 := b_f h78
                refine r_iinc (pc := 92) (v := nI (1 + t2 + 1)) C dX7_product_92 rfl (nI_i1 _) (by decide) ?_
                refine G.eq (pc' := 95) (vs' := [some (.ref (E.1 0)), some (.int (nI t)), some (.int m), some (.int z), some (.int f), some (.int (nI (1 + t2 + 1)))]) (st' := []) ?_
                refine r_goto (pc := 95) (tgt := 59) C dX7_product_95 (by decide) ?_
                rw [pd_f h78] at ih
                exact ih
              · have h78 := b_t h78
                refine r_aload_n (pc := 81) C dX7_product_81 rfl ?_
                refine r_getf (pc := 82) C dX7_product_82 fl_RX7_35 (Ce.up (Ce.up ho (by decide)) (by omega)) rfl ?_
                refine r_iload (pc := 85) C dX7_product_85 rfl ?_
                refine r_iload (pc := 87) C dX7_product_87 rfl ?_
                refine r_callV (pc := 89) C dX7_product_89 cv_RX7_138 (c_tE (Ce.up (Ce.new hw) (by omega)) (Ce.new (Ce.up hc (by omega))) hN (by omega) (1 + t2) f (by omega) h22 h28) ⟨rfl, rfl, by decide, by decide⟩ (Ce.up (Ce.new hw) (by omega)) rfl rfl (Nat.le_of_ble_eq_true rfl) ⟨Nat.zero_le _, Nat.zero_le _⟩ ?_
                rintro _ _ ⟨rfl, rfl⟩
                rw [bx_uu]
                show G M S E (0, 0) (va_up (va_up g 266 (.inr (6, [.ref (E.1 (266 + 1)), .int (nI v.1)]))) (266 + 1) (xJ S 24 (tE v.1 (1 + t2) f (pdF v.1 m z f t2)))) 92 [some (.ref (E.1 0)), some (.int (nI t)), some (.int m), some (.int z), some (.int f), some (.int (nI (1 + t2)))] []
                refine r_iinc (pc := 92) (v := nI (1 + t2 + 1)) C dX7_product_92 rfl (nI_i1 _) (by decide) ?_
                refine G.eq (pc' := 95) (vs' := [some (.ref (E.1 0)), some (.int (nI t)), some (.int m), some (.int z), some (.int f), some (.int (nI (1 + t2 + 1)))]) (st' := []) ?_
                refine r_goto (pc := 95) (tgt := 59) C dX7_product_95 (by decide) ?_
                rw [pd_t h78] at ih
                exact ih
        · refine r_iconst (pc := 31) (v := (-1)) C dX7_product_31 (by decide +kernel) ?_
          exact r_iret (pc := 32) C Z dX7_product_32 rfl (by rw [show oPro (hsn, v, rem, v2, rem2, pt, inp, out, sl) x m z f = (-1, (hsn, v, rem, v2, rem2, pt, inp, out, sl)) by simp only [oPro, h4, h15, h22, h28, cond_true, cond_false, if_true, if_false, not_true_eq_false, not_false_eq_true, ↓reduceIte]]; exact ⟨rfl, hB, Fr.rf⟩)
  · have h4 := b_f h4
    refine r_bipush (pc := 7) (v := (-2)) C dX7_product_7 (by decide +kernel) ?_
    exact r_iret (pc := 9) C Z dX7_product_9 rfl (by rw [show oPro (hsn, v, rem, v2, rem2, pt, inp, out, sl) x m z f = (-2, (hsn, v, rem, v2, rem2, pt, inp, out, sl)) by simp only [oPro, h4, cond_true, cond_false, if_true, if_false, not_true_eq_false, not_false_eq_true, ↓reduceIte]]; exact ⟨rfl, hB, Fr.rf⟩)
set_option maxHeartbeats 4000000 in
set_option maxRecDepth 100000 in
theorem c_X7_valueAt {S : ST} {E : ET} {g : Nat → va_E} {hsn : Bool} {v v2 : SV} {rem rem2 : Nat → PV} {pt inp : Nat × (Nat → Nat)} {out : BV} {sl : Nat → SlV} (hB : BC S E g (hsn, v, rem, v2, rem2, pt, inp, out, sl)) (hO : SOk v) (x y : Int32) : CtI S E yX7_valueAt cX7_valueAt 9 (Option.some FieldType.int) rmX7_valueAt [.ref (E.1 0), .int x, .int y] g (fun u g' => u = oVal (hsn, v, rem, v2, rem2, pt, inp, out, sl) x y ∧ g = g') := by
  refine Ct.of RX7 (by decide +kernel) rfl (Nat.le_of_ble_eq_true rfl) (fun M C Z => ?_)
  refine G.eq (pc' := 0) (vs' := [some (.ref (E.1 0)), some (.int x), some (.int y), none, none, none, none, none, none]) (st' := []) ?_
  obtain ⟨ho, hL, hV, hSc, hWy, hPt, hIn, hOu, hSl⟩ := id hB
  have ho : Ce E g 0 (.inr (7, [.ref (E.1 1), .ref (E.1 127), .int (b2i hsn), .ref (E.1 253), .ref (E.1 266), .ref (E.1 268), .ref (E.1 270), .ref (E.1 271), .ref (E.1 273), .ref (E.1 275), .ref (E.1 277)])) := ho
  have hL : StL S E g 1 v rem := hL
  obtain ⟨pi, ra, hs, hl⟩ := id hL
  obtain ⟨hN4, hN, hr1⟩ := id hO
  refine r_iload_n (pc := 0) C dX7_valueAt_0 rfl ?_
  refine r_callS (pc := 1) C dX7_valueAt_1 cs_RX7_82 (c_X7_isRegister x) ⟨rfl, rfl, by decide, by decide⟩ rfl rfl (Nat.le_of_ble_eq_true rfl) ⟨Nat.zero_le _, Nat.zero_le _⟩ ?_
  rintro _ _ ⟨_, rfl, rfl, rfl⟩
  show G M S E (0, 0) g 4 [some (.ref (E.1 0)), some (.int x), some (.int y), none, none, none, none, none, none] [.int (b2i (hix 6 x))]
  refine r_if_ne (pc := 4) (tgt := 10) C dX7_valueAt_4 (by decide) (fun h4 => ?_) (fun h4 => ?_)
  · have h4 := b_t h4
    obtain ⟨p, rfl, hp⟩ := hix_nat h4 (by omega)
    refine r_aload_n (pc := 10) C dX7_valueAt_10 rfl ?_
    refine r_getf (pc := 11) C dX7_valueAt_11 fl_RX7_14 ho rfl ?_
    refine r_getf (pc := 14) C dX7_valueAt_14 fl_RX7_91 hs.1 rfl ?_
    refine r_iload_n (pc := 17) C dX7_valueAt_17 rfl ?_
    refine r_aald (pc := 18) C dX7_valueAt_18 hs.2.1 rfl rfl rfl (by omega) (by omega) rfl ?_
    refine r_astore_n (pc := 19) C dX7_valueAt_19 (by decide) ?_
    refine G.eq (pc' := 20) (vs' := [some (.ref (E.1 0)), some (.int (nI p)), some (.int y), some (.ref (E.1 (1 + 2 + p))), none, none, none, none, none]) (st' := []) ?_
    refine r_iload_n (pc := 20) C dX7_valueAt_20 rfl ?_
    refine r_i2l (pc := 21) C dX7_valueAt_21 ?_
    refine r_ldc2 (pc := 22) C dX7_valueAt_22 qK_RX7_145 ?_
    refine r_mfm (pc := 25) C dX7_valueAt_25 qM_RX7_147 (by decide) (by decide) (Nat.le_of_ble_eq_true rfl) (Nat.le_of_ble_eq_true rfl) ⟨Nat.zero_le _, Nat.zero_le _⟩ ?_
    refine r_lstore (pc := 28) C dX7_valueAt_28 (by decide) ?_
    refine G.eq (pc' := 30) (vs' := [some (.ref (E.1 0)), some (.int (nI p)), some (.int y), some (.ref (E.1 (1 + 2 + p))), some (.long (flM y.toInt64 1000003)), none, none, none, none]) (st' := []) ?_
    refine r_lconst (pc := 30) (v := 0) C dX7_valueAt_30 rfl ?_
    refine r_lstore (pc := 31) C dX7_valueAt_31 (by decide) ?_
    refine G.eq (pc' := 33) (vs' := [some (.ref (E.1 0)), some (.int (nI p)), some (.int y), some (.ref (E.1 (1 + 2 + p))), some (.long (flM y.toInt64 1000003)), none, some (.long 0), none, none]) (st' := []) ?_
    refine r_aload_n (pc := 33) C dX7_valueAt_33 rfl ?_
    refine r_getf (pc := 34) C dX7_valueAt_34 fl_RX7_14 ho rfl ?_
    refine r_getf (pc := 37) C dX7_valueAt_37 fl_RX7_78 hs.1 rfl ?_
    refine r_iconst (pc := 40) (v := nI 1) C dX7_valueAt_40 (by decide +kernel) ?_
    refine r_isub (pc := 41) C dX7_valueAt_41 ?_
    refine r_ti (mI v.1) rfl ?_
    refine r_istore (pc := 42) C dX7_valueAt_42 (by decide) ?_
    refine G.eq (pc' := 44) (vs' := [some (.ref (E.1 0)), some (.int (nI p)), some (.int y), some (.ref (E.1 (1 + 2 + p))), some (.long (flM y.toInt64 1000003)), none, some (.long 0), none, some (.int (mI v.1))]) (st' := []) ?_
    refine bk (P := fun t2 => G M S E (0, 0) g 44 [some (.ref (E.1 0)), some (.int (nI p)), some (.int y), some (.ref (E.1 (1 + 2 + p))), some (.long (flM y.toInt64 1000003)), none, some (.long (vaF v.1 (v.2.1 p) (flM y.toInt64 1000003) t2)), none, some (.int (mI (v.1 - t2)))] []) (T := v.1) ?_ (fun t2 ht ih => ?_)
    · show G M S E (0, 0) g 44 [some (.ref (E.1 0)), some (.int (nI p)), some (.int y), some (.ref (E.1 (1 + 2 + p))), some (.long (flM y.toInt64 1000003)), none, some (.long (vaF v.1 (v.2.1 p) (flM y.toInt64 1000003) v.1)), none, some (.int (mI (v.1 - v.1)))] []
      refine r_iload (pc := 44) C dX7_valueAt_44 rfl ?_
      refine r_if_lt (pc := 46) (tgt := 74) C dX7_valueAt_46 (by decide) (fun h46 => ?_) (fun h46 => ?_)
      · have h46 := m_lt0 (by omega) h46
        refine r_lload (pc := 74) C dX7_valueAt_74 rfl ?_
        refine r_l2i (pc := 76) C dX7_valueAt_76 ?_
        exact r_iret (pc := 77) C Z dX7_valueAt_77 rfl (by rw [show oVal (hsn, v, rem, v2, rem2, pt, inp, out, sl) (nI p) y = (vaF v.1 (v.2.1 p) (flM y.toInt64 1000003) v.1).toInt32 by simp only [oVal, h4, iN_nI (show p < 2 ^ 31 by omega), cond_true, cond_false, if_true, if_false, not_true_eq_false, not_false_eq_true, ↓reduceIte]]; exact ⟨rfl, rfl⟩)
      · have h46 := m_nlt0 (by omega) h46
        omega
    · show G M S E (0, 0) g 44 [some (.ref (E.1 0)), some (.int (nI p)), some (.int y), some (.ref (E.1 (1 + 2 + p))), some (.long (flM y.toInt64 1000003)), none, some (.long (vaF v.1 (v.2.1 p) (flM y.toInt64 1000003) t2)), none, some (.int (mI (v.1 - t2)))] []
      refine r_iload (pc := 44) C dX7_valueAt_44 rfl ?_
      refine r_if_lt (pc := 46) (tgt := 74) C dX7_valueAt_46 (by decide) (fun h46 => ?_) (fun h46 => ?_)
      · have h46 := m_lt0 (by omega) h46
        omega
      · have h46 := m_nlt0 (by omega) h46
        rw [show v.1 - t2 = v.1 - t2 - 1 + 1 by omega, mI_s]
        refine r_lload (pc := 49) C dX7_valueAt_49 rfl ?_
        refine r_lload (pc := 51) C dX7_valueAt_51 rfl ?_
        refine r_lmul (pc := 53) C dX7_valueAt_53 ?_
        refine r_aload_n (pc := 54) C dX7_valueAt_54 rfl ?_
        refine r_iload (pc := 55) C dX7_valueAt_55 rfl ?_
        refine r_iald (pc := 57) C dX7_valueAt_57 (hs.2.2.2.1 p (by omega)) rfl (by omega) (by omega) ?_
        refine r_i2l (pc := 58) C dX7_valueAt_58 ?_
        refine r_ladd (pc := 59) C dX7_valueAt_59 ?_
        refine r_ldc2 (pc := 60) C dX7_valueAt_60 qK_RX7_145 ?_
        refine r_mfm (pc := 63) C dX7_valueAt_63 qM_RX7_147 (by decide) (by decide) (Nat.le_of_ble_eq_true rfl) (Nat.le_of_ble_eq_true rfl) ⟨Nat.zero_le _, Nat.zero_le _⟩ ?_
        refine r_lstore (pc := 66) C dX7_valueAt_66 (by decide) ?_
        refine G.eq (pc' := 68) (vs' := [some (.ref (E.1 0)), some (.int (nI p)), some (.int y), some (.ref (E.1 (1 + 2 + p))), some (.long (flM y.toInt64 1000003)), none, some (.long (flM (vaF v.1 (v.2.1 p) (flM y.toInt64 1000003) t2 * (flM y.toInt64 1000003) + (v.2.1 p (v.1 - t2 - 1)).toInt64) 1000003)), none, some (.int (nI (v.1 - t2 - 1)))]) (st' := []) ?_
        refine r_iinc (pc := 68) (v := mI (v.1 - t2 - 1)) C dX7_valueAt_68 rfl (nI_m1 _) (by decide) ?_
        refine G.eq (pc' := 71) (vs' := [some (.ref (E.1 0)), some (.int (nI p)), some (.int y), some (.ref (E.1 (1 + 2 + p))), some (.long (flM y.toInt64 1000003)), none, some (.long (flM (vaF v.1 (v.2.1 p) (flM y.toInt64 1000003) t2 * (flM y.toInt64 1000003) + (v.2.1 p (v.1 - t2 - 1)).toInt64) 1000003)), none, some (.int (mI (v.1 - t2 - 1)))]) (st' := []) ?_
        refine r_goto (pc := 71) (tgt := 44) C dX7_valueAt_71 (by decide) ?_
        exact ih
  · have h4 := b_f h4
    refine r_bipush (pc := 7) (v := (-2)) C dX7_valueAt_7 (by decide +kernel) ?_
    exact r_iret (pc := 9) C Z dX7_valueAt_9 rfl (by rw [show oVal (hsn, v, rem, v2, rem2, pt, inp, out, sl) x y = -2 by simp only [oVal, h4, cond_true, cond_false, if_true, if_false, not_true_eq_false, not_false_eq_true, ↓reduceIte]]; exact ⟨rfl, rfl⟩)
set_option maxHeartbeats 4000000 in
set_option maxRecDepth 100000 in
theorem c_X7_statistic {S : ST} {E : ET} {g : Nat → va_E} {hsn : Bool} {v v2 : SV} {rem rem2 : Nat → PV} {pt inp : Nat × (Nat → Nat)} {out : BV} {sl : Nat → SlV} (hB : BC S E g (hsn, v, rem, v2, rem2, pt, inp, out, sl)) (hO : SOk v) (x y : Int32) : CtI S E yX7_statistic cX7_statistic 4 (Option.some FieldType.int) rmX7_statistic [.ref (E.1 0), .int x, .int y] g (fun u g' => u = oSta (hsn, v, rem, v2, rem2, pt, inp, out, sl) x y ∧ g = g') := by
  refine Ct.of RX7 (by decide +kernel) rfl (Nat.le_of_ble_eq_true rfl) (fun M C Z => ?_)
  refine G.eq (pc' := 0) (vs' := [some (.ref (E.1 0)), some (.int x), some (.int y), none]) (st' := []) ?_
  obtain ⟨ho, hL, hV, hSc, hWy, hPt, hIn, hOu, hSl⟩ := id hB
  have ho : Ce E g 0 (.inr (7, [.ref (E.1 1), .ref (E.1 127), .int (b2i hsn), .ref (E.1 253), .ref (E.1 266), .ref (E.1 268), .ref (E.1 270), .ref (E.1 271), .ref (E.1 273), .ref (E.1 275), .ref (E.1 277)])) := ho
  have hL : StL S E g 1 v rem := hL
  obtain ⟨pi, ra, hs, hl⟩ := id hL
  obtain ⟨hN4, hN, hr1⟩ := id hO
  refine r_iload_n (pc := 0) C dX7_statistic_0 rfl ?_
  refine r_callS (pc := 1) C dX7_statistic_1 cs_RX7_82 (c_X7_isRegister x) ⟨rfl, rfl, by decide, by decide⟩ rfl rfl (Nat.le_of_ble_eq_true rfl) ⟨Nat.zero_le _, Nat.zero_le _⟩ ?_
  rintro _ _ ⟨_, rfl, rfl, rfl⟩
  show G M S E (0, 0) g 4 [some (.ref (E.1 0)), some (.int x), some (.int y), none] [.int (b2i (hix 6 x))]
  refine r_if_ne (pc := 4) (tgt := 10) C dX7_statistic_4 (by decide) (fun h4 => ?_) (fun h4 => ?_)
  · have h4 := b_t h4
    obtain ⟨t, rfl, ht⟩ := hix_nat h4 (by omega)
    refine r_aload_n (pc := 10) C dX7_statistic_10 rfl ?_
    refine r_getf (pc := 11) C dX7_statistic_11 fl_RX7_14 ho rfl ?_
    refine r_getf (pc := 14) C dX7_statistic_14 fl_RX7_91 hs.1 rfl ?_
    refine r_iload_n (pc := 17) C dX7_statistic_17 rfl ?_
    refine r_aald (pc := 18) C dX7_statistic_18 hs.2.1 rfl rfl rfl (by omega) (by omega) rfl ?_
    refine r_astore_n (pc := 19) C dX7_statistic_19 (by decide) ?_
    refine G.eq (pc' := 20) (vs' := [some (.ref (E.1 0)), some (.int (nI t)), some (.int y), some (.ref (E.1 (1 + 2 + t)))]) (st' := []) ?_
    refine r_iload_n (pc := 20) C dX7_statistic_20 rfl ?_
    by_cases e0 : y = nI 0
    · subst e0
      refine r_tableIn (pc := 21) (tgt := 56) (off := 35) C dX7_statistic_21 (by decide +kernel) (by decide +kernel) (by decide +kernel) (by decide) ?_
      refine r_aload_n (pc := 56) C dX7_statistic_56 rfl ?_
      refine r_aload_n (pc := 57) C dX7_statistic_57 rfl ?_
      refine r_callV (pc := 58) C dX7_statistic_58 cv_RX7_153 (c_X7_countNonzero hB hO (hs.2.2.2.1 t (by omega))) ⟨rfl, rfl, by decide, by decide⟩ ho rfl rfl (Nat.le_of_ble_eq_true rfl) ⟨Nat.zero_le _, Nat.zero_le _⟩ ?_
      rintro _ _ ⟨_, rfl, rfl, rfl⟩
      show G M S E (0, 0) g 61 [some (.ref (E.1 0)), some (.int (nI t)), some (.int (nI 0)), some (.ref (E.1 (1 + 2 + t)))] [.int (nzN v.1 (v.2.1 t))]
      exact r_iret (pc := 61) C Z dX7_statistic_61 rfl (by rw [show oSta (hsn, v, rem, v2, rem2, pt, inp, out, sl) (nI t) (nI 0) = nzN v.1 (v.2.1 t) by (simp only [oSta, h4, cond_true, iN_nI (show t < 2 ^ 31 by omega)] <;> rfl)]; exact ⟨rfl, rfl⟩)
    · by_cases e1 : y = nI 1
      · subst e1
        refine r_tableIn (pc := 21) (tgt := 62) (off := 41) C dX7_statistic_21 (by decide +kernel) (by decide +kernel) (by decide +kernel) (by decide) ?_
        refine r_aload_n (pc := 62) C dX7_statistic_62 rfl ?_
        refine r_aload_n (pc := 63) C dX7_statistic_63 rfl ?_
        refine r_callV (pc := 64) C dX7_statistic_64 cv_RX7_156 (c_X7_countNegative hB hO (hs.2.2.2.1 t (by omega))) ⟨rfl, rfl, by decide, by decide⟩ ho rfl rfl (Nat.le_of_ble_eq_true rfl) ⟨Nat.zero_le _, Nat.zero_le _⟩ ?_
        rintro _ _ ⟨_, rfl, rfl, rfl⟩
        show G M S E (0, 0) g 67 [some (.ref (E.1 0)), some (.int (nI t)), some (.int (nI 1)), some (.ref (E.1 (1 + 2 + t)))] [.int (nI (cntN (fun j => decide ((v.2.1 t) j < 0)) v.1))]
        exact r_iret (pc := 67) C Z dX7_statistic_67 rfl (by rw [show oSta (hsn, v, rem, v2, rem2, pt, inp, out, sl) (nI t) (nI 1) = nI (cntN (fun j => decide ((v.2.1 t) j < 0)) v.1) by (simp only [oSta, h4, cond_true, iN_nI (show t < 2 ^ 31 by omega)] <;> rfl)]; exact ⟨rfl, rfl⟩)
      · by_cases e2 : y = nI 2
        · subst e2
          refine r_tableIn (pc := 21) (tgt := 68) (off := 47) C dX7_statistic_21 (by decide +kernel) (by decide +kernel) (by decide +kernel) (by decide) ?_
          refine r_aload_n (pc := 68) C dX7_statistic_68 rfl ?_
          refine r_aload_n (pc := 69) C dX7_statistic_69 rfl ?_
          refine r_callV (pc := 70) C dX7_statistic_70 cv_RX7_159 (c_X7_countSignChanges hB hO (hs.2.2.2.1 t (by omega))) ⟨rfl, rfl, by decide, by decide⟩ ho rfl rfl (Nat.le_of_ble_eq_true rfl) ⟨Nat.zero_le _, Nat.zero_le _⟩ ?_
          rintro _ _ ⟨_, rfl, rfl, rfl⟩
          show G M S E (0, 0) g 73 [some (.ref (E.1 0)), some (.int (nI t)), some (.int (nI 2)), some (.ref (E.1 (1 + 2 + t)))] [.int (nI (it (sgF (v.2.1 t)) v.1 (0, nI 0)).1)]
          exact r_iret (pc := 73) C Z dX7_statistic_73 rfl (by rw [show oSta (hsn, v, rem, v2, rem2, pt, inp, out, sl) (nI t) (nI 2) = nI (it (sgF (v.2.1 t)) v.1 (0, nI 0)).1 by (simp only [oSta, h4, cond_true, iN_nI (show t < 2 ^ 31 by omega)] <;> rfl)]; exact ⟨rfl, rfl⟩)
        · by_cases e3 : y = nI 3
          · subst e3
            refine r_tableIn (pc := 21) (tgt := 74) (off := 53) C dX7_statistic_21 (by decide +kernel) (by decide +kernel) (by decide +kernel) (by decide) ?_
            refine r_aload_n (pc := 74) C dX7_statistic_74 rfl ?_
            refine r_aload_n (pc := 75) C dX7_statistic_75 rfl ?_
            refine r_callV (pc := 76) C dX7_statistic_76 cv_RX7_162 (c_X7_largestAbsolute hB hO (hs.2.2.2.1 t (by omega))) ⟨rfl, rfl, by decide, by decide⟩ ho rfl rfl (Nat.le_of_ble_eq_true rfl) ⟨Nat.zero_le _, Nat.zero_le _⟩ ?_
            rintro _ _ ⟨_, rfl, rfl, rfl⟩
            show G M S E (0, 0) g 79 [some (.ref (E.1 0)), some (.int (nI t)), some (.int (nI 3)), some (.ref (E.1 (1 + 2 + t)))] [.int (it (laF (v.2.1 t)) v.1 (nI 0))]
            exact r_iret (pc := 79) C Z dX7_statistic_79 rfl (by rw [show oSta (hsn, v, rem, v2, rem2, pt, inp, out, sl) (nI t) (nI 3) = it (laF (v.2.1 t)) v.1 (nI 0) by (simp only [oSta, h4, cond_true, iN_nI (show t < 2 ^ 31 by omega)] <;> rfl)]; exact ⟨rfl, rfl⟩)
          · by_cases e4 : y = nI 4
            · subst e4
              refine r_tableIn (pc := 21) (tgt := 80) (off := 59) C dX7_statistic_21 (by decide +kernel) (by decide +kernel) (by decide +kernel) (by decide) ?_
              refine r_aload_n (pc := 80) C dX7_statistic_80 rfl ?_
              refine r_aload_n (pc := 81) C dX7_statistic_81 rfl ?_
              refine r_callV (pc := 82) C dX7_statistic_82 cv_RX7_165 (c_X7_countRecords hB hO (hs.2.2.2.1 t (by omega))) ⟨rfl, rfl, by decide, by decide⟩ ho rfl rfl (Nat.le_of_ble_eq_true rfl) ⟨Nat.zero_le _, Nat.zero_le _⟩ ?_
              rintro _ _ ⟨_, rfl, rfl, rfl⟩
              show G M S E (0, 0) g 85 [some (.ref (E.1 0)), some (.int (nI t)), some (.int (nI 4)), some (.ref (E.1 (1 + 2 + t)))] [.int (nI (it (rcF (v.2.1 t)) (v.1 - 1) (1, (v.2.1 t) 0)).1)]
              exact r_iret (pc := 85) C Z dX7_statistic_85 rfl (by rw [show oSta (hsn, v, rem, v2, rem2, pt, inp, out, sl) (nI t) (nI 4) = nI (it (rcF (v.2.1 t)) (v.1 - 1) (1, (v.2.1 t) 0)).1 by (simp only [oSta, h4, cond_true, iN_nI (show t < 2 ^ 31 by omega)] <;> rfl)]; exact ⟨rfl, rfl⟩)
            · refine r_tableOut (pc := 21) (tgt := 86) C dX7_statistic_21 (tb5 e0 e1 e2 e3 e4) (by decide) ?_
              refine r_iconst (pc := 86) (v := (-1)) C dX7_statistic_86 (by decide +kernel) ?_
              exact r_iret (pc := 87) C Z dX7_statistic_87 rfl (by rw [show oSta (hsn, v, rem, v2, rem2, pt, inp, out, sl) (nI t) y = -1 by simp only [oSta, h4, cond_true, e0, e1, e2, e3, e4, if_false]]; exact ⟨rfl, rfl⟩)
  · have h4 := b_f h4
    refine r_bipush (pc := 7) (v := (-2)) C dX7_statistic_7 (by decide +kernel) ?_
    exact r_iret (pc := 9) C Z dX7_statistic_9 rfl (by rw [show oSta (hsn, v, rem, v2, rem2, pt, inp, out, sl) x y = -2 by simp only [oSta, h4, cond_true, cond_false, if_true, if_false, not_true_eq_false, not_false_eq_true, ↓reduceIte]]; exact ⟨rfl, rfl⟩)
set_option maxHeartbeats 4000000 in
set_option maxRecDepth 100000 in
theorem c_X7_registerByRank {S : ST} {E : ET} {g : Nat → va_E} {hsn : Bool} {v v2 : SV} {rem rem2 : Nat → PV} {pt inp : Nat × (Nat → Nat)} {out : BV} {sl : Nat → SlV} (hB : BC S E g (hsn, v, rem, v2, rem2, pt, inp, out, sl)) (hO : SOk v) (x : Int32) : CtI S E yX7_registerByRank cX7_registerByRank 3 (Option.some FieldType.int) rmX7_registerByRank [.ref (E.1 0), .int x] g (fun u g' => u = oRnk (hsn, v, rem, v2, rem2, pt, inp, out, sl) x ∧ g = g') := by
  refine Ct.of RX7 (by decide +kernel) rfl (Nat.le_of_ble_eq_true rfl) (fun M C Z => ?_)
  refine G.eq (pc' := 0) (vs' := [some (.ref (E.1 0)), some (.int x), none]) (st' := []) ?_
  obtain ⟨ho, hL, hV, hSc, hWy, hPt, hIn, hOu, hSl⟩ := id hB
  have ho : Ce E g 0 (.inr (7, [.ref (E.1 1), .ref (E.1 127), .int (b2i hsn), .ref (E.1 253), .ref (E.1 266), .ref (E.1 268), .ref (E.1 270), .ref (E.1 271), .ref (E.1 273), .ref (E.1 275), .ref (E.1 277)])) := ho
  have hL : StL S E g 1 v rem := hL
  obtain ⟨pi, ra, hs, hl⟩ := id hL
  obtain ⟨hN4, hN, hr1⟩ := id hO
  refine r_iload_n (pc := 0) C dX7_registerByRank_0 rfl ?_
  refine r_if_lt (pc := 1) (tgt := 10) C dX7_registerByRank_1 (by decide) (fun h1 => ?_) (fun h1 => ?_)
  · refine r_iconst (pc := 10) (v := (-1)) C dX7_registerByRank_10 (by decide +kernel) ?_
    exact r_iret (pc := 11) C Z dX7_registerByRank_11 rfl (by rw [show oRnk (hsn, v, rem, v2, rem2, pt, inp, out, sl) x = -1 by simp only [oRnk, h1, cond_true, cond_false, if_true, if_false, not_true_eq_false, not_false_eq_true, ↓reduceIte]]; exact ⟨rfl, rfl⟩)
  · refine r_iload_n (pc := 4) C dX7_registerByRank_4 rfl ?_
    refine r_bipush (pc := 5) (v := nI 6) C dX7_registerByRank_5 (by decide +kernel) ?_
    refine r_icmp_lt (pc := 7) (tgt := 12) C dX7_registerByRank_7 (by decide) (fun h7 => ?_) (fun h7 => ?_)
    · refine r_iconst (pc := 12) (v := nI 0) C dX7_registerByRank_12 (by decide +kernel) ?_
      refine r_istore_n (pc := 13) C dX7_registerByRank_13 (by decide) ?_
      refine G.eq (pc' := 14) (vs' := [some (.ref (E.1 0)), some (.int x), some (.int (nI 0))]) (st' := []) ?_
      refine bk (P := fun t2 => (∀ j : Nat, j < t2 → (fun p => decide (nI (cntN (fun j => cbB v.1 (v.2.1 j) (v.2.1 p) j p) 6) = x)) j = false) → G M S E (0, 0) g 14 [some (.ref (E.1 0)), some (.int x), some (.int (nI t2))] []) (T := 6) (fun hh => ?_) (fun t2 ht ih hh => ?_) (fun j hj => absurd hj (Nat.not_lt_zero j))
      · show G M S E (0, 0) g 14 [some (.ref (E.1 0)), some (.int x), some (.int (nI 6))] []
        refine r_iload_n (pc := 14) C dX7_registerByRank_14 rfl ?_
        refine r_bipush (pc := 15) (v := nI 6) C dX7_registerByRank_15 (by decide +kernel) ?_
        refine r_icmp_ge (pc := 17) (tgt := 37) C dX7_registerByRank_17 (by decide) (fun h17 => ?_) (fun h17 => ?_)
        · have h17 := c_le (by omega) (by omega) h17
          refine r_iconst (pc := 37) (v := (-1)) C dX7_registerByRank_37 (by decide +kernel) ?_
          exact r_iret (pc := 38) C Z dX7_registerByRank_38 rfl (⟨by rw [show oRnk (hsn, v, rem, v2, rem2, pt, inp, out, sl) x = fd (fun p => decide (nI (cntN (fun j => cbB v.1 (v.2.1 j) (v.2.1 p) j p) 6) = x)) (-1) 6 0 by simp only [oRnk, h1, h7, if_true, if_false]]; exact (fd_none (fun j _ hj => hh j (by omega))).symm, rfl⟩)
        · have h17 := c_nle (by omega) (by omega) h17
          omega
      · show G M S E (0, 0) g 14 [some (.ref (E.1 0)), some (.int x), some (.int (nI t2))] []
        refine r_iload_n (pc := 14) C dX7_registerByRank_14 rfl ?_
        refine r_bipush (pc := 15) (v := nI 6) C dX7_registerByRank_15 (by decide +kernel) ?_
        refine r_icmp_ge (pc := 17) (tgt := 37) C dX7_registerByRank_17 (by decide) (fun h17 => ?_) (fun h17 => ?_)
        · have h17 := c_le (by omega) (by omega) h17
          omega
        · have h17 := c_nle (by omega) (by omega) h17
          refine r_aload_n (pc := 20) C dX7_registerByRank_20 rfl ?_
          refine r_iload_n (pc := 21) C dX7_registerByRank_21 rfl ?_
          refine r_callV (pc := 22) C dX7_registerByRank_22 cv_RX7_168 (c_X7_rankOf hB hO t2 (by omega)) ⟨rfl, rfl, by decide, by decide⟩ ho rfl rfl (Nat.le_of_ble_eq_true rfl) ⟨Nat.zero_le _, Nat.zero_le _⟩ ?_
          rintro _ _ ⟨_, rfl, rfl, rfl⟩
          show G M S E (0, 0) g 25 [some (.ref (E.1 0)), some (.int x), some (.int (nI t2))] [.int (nI (cntN (fun j => cbB v.1 (v.2.1 j) (v.2.1 t2) j t2) 6))]
          refine r_iload_n (pc := 25) C dX7_registerByRank_25 rfl ?_
          refine r_icmp_ne (pc := 26) (tgt := 31) C dX7_registerByRank_26 (by decide) (fun h26 => ?_) (fun h26 => ?_)
          · refine r_iinc (pc := 31) (v := nI (t2 + 1)) C dX7_registerByRank_31 rfl (nI_i1 _) (by decide) ?_
            refine G.eq (pc' := 34) (vs' := [some (.ref (E.1 0)), some (.int x), some (.int (nI (t2 + 1)))]) (st' := []) ?_
            refine r_goto (pc := 34) (tgt := 14) C dX7_registerByRank_34 (by decide) ?_
            exact (ih (lt_s hh (decide_eq_false h26)))
          · refine r_iload_n (pc := 29) C dX7_registerByRank_29 rfl ?_
            exact r_iret (pc := 30) C Z dX7_registerByRank_30 rfl (⟨by rw [show oRnk (hsn, v, rem, v2, rem2, pt, inp, out, sl) x = fd (fun p => decide (nI (cntN (fun j => cbB v.1 (v.2.1 j) (v.2.1 p) j p) 6) = x)) (-1) 6 0 by simp only [oRnk, h1, h7, if_true, if_false]]; exact (fd_first (p := (fun p => decide (nI (cntN (fun j => cbB v.1 (v.2.1 j) (v.2.1 p) j p) 6) = x))) (fun j _ hj => hh j hj) (decide_eq_true h26) (Nat.zero_le _) (by omega)).symm, rfl⟩)
    · refine r_iconst (pc := 10) (v := (-1)) C dX7_registerByRank_10 (by decide +kernel) ?_
      exact r_iret (pc := 11) C Z dX7_registerByRank_11 rfl (by rw [show oRnk (hsn, v, rem, v2, rem2, pt, inp, out, sl) x = -1 by simp only [oRnk, h1, h7, cond_true, cond_false, if_true, if_false, not_true_eq_false, not_false_eq_true, ↓reduceIte]]; exact ⟨rfl, rfl⟩)
set_option maxHeartbeats 4000000 in
set_option maxRecDepth 100000 in
theorem c_X7_countPartitions {S : ST} {E : ET} {g : Nat → va_E} {hsn : Bool} {v v2 : SV} {rem rem2 : Nat → PV} {pt inp : Nat × (Nat → Nat)} {out : BV} {sl : Nat → SlV} (hB : BC S E g (hsn, v, rem, v2, rem2, pt, inp, out, sl)) (hO : SOk v) (x m z : Int32) : CtL S E yX7_countPartitions cX7_countPartitions 6 (Option.some FieldType.long) rmX7_countPartitions [.ref (E.1 0), .int x, .int m, .int z] g (fun u g' => u = (oCnt (hsn, v, rem, v2, rem2, pt, inp, out, sl) x m z) ∧ BC S E g' (hsn, v, rem, v2, rem2, pt, inp, out, sl) ∧ Fr g g' 0 286) := by
  refine Ct.of RX7 (by decide +kernel) rfl (Nat.le_of_ble_eq_true rfl) (fun M C Z => ?_)
  refine G.eq (pc' := 0) (vs' := [some (.ref (E.1 0)), some (.int x), some (.int m), some (.int z), none, none]) (st' := []) ?_
  obtain ⟨ho, hL, hV, hSc, hWy, hPt, hIn, hOu, hSl⟩ := id hB
  have ho : Ce E g 0 (.inr (7, [.ref (E.1 1), .ref (E.1 127), .int (b2i hsn), .ref (E.1 253), .ref (E.1 266), .ref (E.1 268), .ref (E.1 270), .ref (E.1 271), .ref (E.1 273), .ref (E.1 275), .ref (E.1 277)])) := ho
  have hL : StL S E g 1 v rem := hL
  obtain ⟨pi, ra, hs, hl⟩ := id hL
  obtain ⟨hN4, hN, hr1⟩ := id hO
  obtain ⟨wf, hwy⟩ := id hWy
  refine r_iload_n (pc := 0) C dX7_countPartitions_0 rfl ?_
  refine r_if_lt (pc := 1) (tgt := 18) C dX7_countPartitions_1 (by decide) (fun h1 => ?_) (fun h1 => ?_)
  · refine r_ldc2 (pc := 18) C dX7_countPartitions_18 qK_RX7_95 ?_
    exact r_lret (pc := 21) C Z dX7_countPartitions_21 (by rw [show oCnt (hsn, v, rem, v2, rem2, pt, inp, out, sl) x m z = (-9223372036854775808) by simp only [oCnt, h1, cond_true, cond_false, if_true, if_false, not_true_eq_false, not_false_eq_true, ↓reduceIte]]; exact ⟨rfl, hB, Fr.rf⟩)
  · refine r_iload_n (pc := 4) C dX7_countPartitions_4 rfl ?_
    refine r_bipush (pc := 5) (v := nI 60) C dX7_countPartitions_5 (by decide +kernel) ?_
    refine r_icmp_gt (pc := 7) (tgt := 18) C dX7_countPartitions_7 (by decide) (fun h7 => ?_) (fun h7 => ?_)
    · refine r_ldc2 (pc := 18) C dX7_countPartitions_18 qK_RX7_95 ?_
      exact r_lret (pc := 21) C Z dX7_countPartitions_21 (by rw [show oCnt (hsn, v, rem, v2, rem2, pt, inp, out, sl) x m z = (-9223372036854775808) by simp only [oCnt, h1, h7, cond_true, cond_false, if_true, if_false, not_true_eq_false, not_false_eq_true, ↓reduceIte]]; exact ⟨rfl, hB, Fr.rf⟩)
    · refine r_iload_n (pc := 10) C dX7_countPartitions_10 rfl ?_
      refine r_iload_n (pc := 11) C dX7_countPartitions_11 rfl ?_
      refine r_callS (pc := 12) C dX7_countPartitions_12 cs_RX7_130 (c_X7_isResidueSet m z) ⟨rfl, rfl, by decide, by decide⟩ rfl rfl (Nat.le_of_ble_eq_true rfl) ⟨Nat.zero_le _, Nat.zero_le _⟩ ?_
      rintro _ _ ⟨_, rfl, rfl, rfl⟩
      show G M S E (0, 0) g 15 [some (.ref (E.1 0)), some (.int x), some (.int m), some (.int z), none, none] [.int (b2i (rsB m z))]
      refine r_if_ne (pc := 15) (tgt := 22) C dX7_countPartitions_15 (by decide) (fun h15 => ?_) (fun h15 => ?_)
      · have h15 := b_t h15
        obtain ⟨k, rfl, hk⟩ := nat_ge0 h1
        have hk2 := c_nlt (by decide) hk h7
        refine r_aload_n (pc := 22) C dX7_countPartitions_22 rfl ?_
        refine r_getf (pc := 23) C dX7_countPartitions_23 fl_RX7_42 ho rfl ?_
        refine r_lconst (pc := 26) (v := 0) C dX7_countPartitions_26 rfl ?_
        refine r_callS (pc := 27) C dX7_countPartitions_27 cs_RX7_218 (c_J7_fill_d0a16 0 hwy (by decide)) ⟨rfl, rfl, by decide, by decide⟩ rfl rfl (Nat.le_of_ble_eq_true rfl) ⟨Nat.zero_le _, Nat.zero_le _⟩ ?_
        rintro _ _ ⟨rfl, rfl⟩
        show G M S E (0, 0) (va_up g 270 (xJ S 61 (fun _ => 0))) 30 [some (.ref (E.1 0)), some (.int (nI k)), some (.int m), some (.int z), none, none] []
        refine r_aload_n (pc := 30) C dX7_countPartitions_30 rfl ?_
        refine r_getf (pc := 31) C dX7_countPartitions_31 fl_RX7_42 (Ce.up ho (by decide)) rfl ?_
        refine r_iconst (pc := 34) (v := nI 0) C dX7_countPartitions_34 (by decide +kernel) ?_
        refine r_lconst (pc := 35) (v := 1) C dX7_countPartitions_35 rfl ?_
        refine r_last2 (pc := 36) C dX7_countPartitions_36 hwy.1 rfl (by omega) (by omega) ?_
        refine r_iconst (pc := 37) (v := nI 1) C dX7_countPartitions_37 (by decide +kernel) ?_
        refine r_istore (pc := 38) C dX7_countPartitions_38 (by decide) ?_
        refine G.eq (pc' := 40) (vs' := [some (.ref (E.1 0)), some (.int (nI k)), some (.int m), some (.int z), some (.int (nI 1)), none]) (st' := []) ?_
        refine bk (P := fun t2 => G M S E (0, 0) (va_up g 270 (xJ S 61 (cwF k m z t2))) 40 [some (.ref (E.1 0)), some (.int (nI k)), some (.int m), some (.int z), some (.int (nI (1 + t2))), none] []) (T := k) ?_ (fun t2 ht ih => ?_)
        · show G M S E (0, 0) (va_up g 270 (xJ S 61 (cwF k m z k))) 40 [some (.ref (E.1 0)), some (.int (nI k)), some (.int m), some (.int z), some (.int (nI (1 + k))), none] []
          refine r_iload (pc := 40) C dX7_countPartitions_40 rfl ?_
          refine r_iload_n (pc := 42) C dX7_countPartitions_42 rfl ?_
          refine r_icmp_gt (pc := 43) (tgt := 98) C dX7_countPartitions_43 (by decide) (fun h43 => ?_) (fun h43 => ?_)
          · have h43 := c_lt (by omega) (by omega) h43
            refine r_aload_n (pc := 98) C dX7_countPartitions_98 rfl ?_
            refine r_getf (pc := 99) C dX7_countPartitions_99 fl_RX7_42 (Ce.up ho (by decide)) rfl ?_
            refine r_iload_n (pc := 102) C dX7_countPartitions_102 rfl ?_
            refine r_lald (pc := 103) C dX7_countPartitions_103 (Ce.new hwy) rfl (by omega) (by omega) ?_
            have hf2 : Fr g (va_up g 270 (xJ S 61 (cwF k m z k))) 270 271 := (Fr.rf.up (by omega) (by omega))
            have hB2 := hB.way hf2 ⟨_, (Ce.new hwy)⟩
            exact r_lret (pc := 104) C Z dX7_countPartitions_104 (by rw [show oCnt (hsn, v, rem, v2, rem2, pt, inp, out, sl) (nI k) m z = cwF k m z k k by simp only [oCnt, h1, h7, h15, iN_nI hk, cond_true, cond_false, if_true, if_false, not_true_eq_false, not_false_eq_true, ↓reduceIte]]; exact ⟨rfl, hB2, hf2.wide (by omega) (by omega)⟩)
          · have h43 := c_nlt (by omega) (by omega) h43
            omega
        · show G M S E (0, 0) (va_up g 270 (xJ S 61 (cwF k m z t2))) 40 [some (.ref (E.1 0)), some (.int (nI k)), some (.int m), some (.int z), some (.int (nI (1 + t2))), none] []
          refine r_iload (pc := 40) C dX7_countPartitions_40 rfl ?_
          refine r_iload_n (pc := 42) C dX7_countPartitions_42 rfl ?_
          refine r_icmp_gt (pc := 43) (tgt := 98) C dX7_countPartitions_43 (by decide) (fun h43 => ?_) (fun h43 => ?_)
          · have h43 := c_lt (by omega) (by omega) h43
            omega
          · have h43 := c_nlt (by omega) (by omega) h43
            refine r_iload (pc := 46) C dX7_countPartitions_46 rfl ?_
            refine r_iload_n (pc := 48) C dX7_countPartitions_48 rfl ?_
            refine r_iload_n (pc := 49) C dX7_countPartitions_49 rfl ?_
            refine r_callS (pc := 50) C dX7_countPartitions_50 cs_RX7_134 (c_X7_isInResidueSet (nI (1 + t2)) m z) ⟨rfl, rfl, by decide, by decide⟩ rfl rfl (Nat.le_of_ble_eq_true rfl) ⟨Nat.zero_le _, Nat.zero_le _⟩ ?_
            rintro _ _ ⟨_, rfl, rfl, rfl⟩
            show G M S E (0, 0) (va_up g 270 (xJ S 61 (cwF k m z t2))) 53 [some (.ref (E.1 0)), some (.int (nI k)), some (.int m), some (.int z), some (.int (nI (1 + t2))), none] [.int (b2i (inS (nI (1 + t2)) m z))]
            refine r_if_eq (pc := 53) (tgt := 92) C dX7_countPartitions_53 (by decide) (fun h53 => ?_) (fun h53 => ?_)
            · have h53 := b_f h53
              refine r_iinc (pc := 92) (v := nI (1 + t2 + 1)) C dX7_countPartitions_92 rfl (nI_i1 _) (by decide) ?_
              refine G.eq (pc' := 95) (vs' := [some (.ref (E.1 0)), some (.int (nI k)), some (.int m), some (.int z), some (.int (nI (1 + t2 + 1))), none]) (st' := []) ?_
              refine r_goto (pc := 95) (tgt := 40) C dX7_countPartitions_95 (by decide) ?_
              rw [cw_f h53] at ih
              exact ih
            · have h53 := b_t h53
              refine r_iload (pc := 56) C dX7_countPartitions_56 rfl ?_
              refine r_istore (pc := 58) C dX7_countPartitions_58 (by decide) ?_
              refine G.eq (pc' := 60) (vs' := [some (.ref (E.1 0)), some (.int (nI k)), some (.int m), some (.int z), some (.int (nI (1 + t2))), some (.int (nI (1 + t2)))]) (st' := []) ?_
              refine bk (P := fun t3 => G M S E (0, 0) (va_up g 270 (xJ S 61 (it (fun t f => vp_updL f (1 + t2 + t) (f (1 + t2 + t) + f (1 + t2 + t - (1 + t2)))) t3 (cwF k m z t2)))) 60 [some (.ref (E.1 0)), some (.int (nI k)), some (.int m), some (.int z), some (.int (nI (1 + t2))), some (.int (nI (1 + t2 + t3)))] []) (T := k + 1 - (1 + t2)) ?_ (fun t3 ht ih => ?_)
              · show G M S E (0, 0) (va_up g 270 (xJ S 61 (it (fun t f => vp_updL f (1 + t2 + t) (f (1 + t2 + t) + f (1 + t2 + t - (1 + t2)))) (k + 1 - (1 + t2)) (cwF k m z t2)))) 60 [some (.ref (E.1 0)), some (.int (nI k)), some (.int m), some (.int z), some (.int (nI (1 + t2))), some (.int (nI (1 + t2 + (k + 1 - (1 + t2)))))] []
                refine r_iload (pc := 60) C dX7_countPartitions_60 rfl ?_
                refine r_iload_n (pc := 62) C dX7_countPartitions_62 rfl ?_
                refine r_icmp_gt (pc := 63) (tgt := 92) C dX7_countPartitions_63 (by decide) (fun h63 => ?_) (fun h63 => ?_)
                · have h63 := c_lt (by omega) (by omega) h63
                  refine r_iinc (pc := 92) (v := nI (1 + t2 + 1)) C dX7_countPartitions_92 rfl (nI_i1 _) (by decide) ?_
                  refine G.eq (pc' := 95) (vs' := [some (.ref (E.1 0)), some (.int (nI k)), some (.int m), some (.int z), some (.int (nI (1 + t2 + 1))), some (.int (nI (1 + t2 + (k + 1 - (1 + t2)))))]) (st' := []) ?_
                  refine r_goto (pc := 95) (tgt := 40) C dX7_countPartitions_95 (by decide) ?_
                  rw [cw_t h53] at ih
                  refine G.wk (vs' := [some (.ref (E.1 0)), some (.int (nI k)), some (.int m), some (.int z), some (.int (nI (1 + t2 + 1))), none]) ⟨rfl, rfl, rfl, rfl, rfl, trivial⟩ ?_
                  exact ih
                · have h63 := c_nlt (by omega) (by omega) h63
                  omega
              · show G M S E (0, 0) (va_up g 270 (xJ S 61 (it (fun t f => vp_updL f (1 + t2 + t) (f (1 + t2 + t) + f (1 + t2 + t - (1 + t2)))) t3 (cwF k m z t2)))) 60 [some (.ref (E.1 0)), some (.int (nI k)), some (.int m), some (.int z), some (.int (nI (1 + t2))), some (.int (nI (1 + t2 + t3)))] []
                refine r_iload (pc := 60) C dX7_countPartitions_60 rfl ?_
                refine r_iload_n (pc := 62) C dX7_countPartitions_62 rfl ?_
                refine r_icmp_gt (pc := 63) (tgt := 92) C dX7_countPartitions_63 (by decide) (fun h63 => ?_) (fun h63 => ?_)
                · have h63 := c_lt (by omega) (by omega) h63
                  omega
                · have h63 := c_nlt (by omega) (by omega) h63
                  refine r_aload_n (pc := 66) C dX7_countPartitions_66 rfl ?_
                  refine r_getf (pc := 67) C dX7_countPartitions_67 fl_RX7_42 (Ce.up ho (by decide)) rfl ?_
                  refine r_iload (pc := 70) C dX7_countPartitions_70 rfl ?_
                  refine r_dup2 (pc := 72) C dX7_countPartitions_72 rfl rfl ?_
                  refine r_lald (pc := 73) C dX7_countPartitions_73 (Ce.new hwy) rfl (by omega) (by omega) ?_
                  refine r_aload_n (pc := 74) C dX7_countPartitions_74 rfl ?_
                  refine r_getf (pc := 75) C dX7_countPartitions_75 fl_RX7_42 (Ce.up ho (by decide)) rfl ?_
                  refine r_iload (pc := 78) C dX7_countPartitions_78 rfl ?_
                  refine r_iload (pc := 80) C dX7_countPartitions_80 rfl ?_
                  refine r_isub (pc := 82) C dX7_countPartitions_82 ?_
                  refine r_ti (nI (1 + t2 + t3 - (1 + t2))) (pk_sub (by omega)) ?_
                  refine r_lald (pc := 83) C dX7_countPartitions_83 (Ce.new hwy) rfl (by omega) (by omega) ?_
                  refine r_ladd (pc := 84) C dX7_countPartitions_84 ?_
                  refine r_last2 (pc := 85) C dX7_countPartitions_85 hwy.1 rfl (by omega) (by omega) ?_
                  refine r_iinc (pc := 86) (v := nI (1 + t2 + t3 + 1)) C dX7_countPartitions_86 rfl (nI_i1 _) (by decide) ?_
                  refine G.eq (pc' := 89) (vs' := [some (.ref (E.1 0)), some (.int (nI k)), some (.int m), some (.int z), some (.int (nI (1 + t2))), some (.int (nI (1 + t2 + t3 + 1)))]) (st' := []) ?_
                  refine r_goto (pc := 89) (tgt := 60) C dX7_countPartitions_89 (by decide) ?_
                  exact ih
      · have h15 := b_f h15
        refine r_ldc2 (pc := 18) C dX7_countPartitions_18 qK_RX7_95 ?_
        exact r_lret (pc := 21) C Z dX7_countPartitions_21 (by rw [show oCnt (hsn, v, rem, v2, rem2, pt, inp, out, sl) x m z = (-9223372036854775808) by simp only [oCnt, h1, h7, h15, cond_true, cond_false, if_true, if_false, not_true_eq_false, not_false_eq_true, ↓reduceIte]]; exact ⟨rfl, hB, Fr.rf⟩)
