def bitB (k m x : Int32) : Bool := decide (¬ (x >>> ((k - k / m * m) &&& 31)) &&& nI 1 = 0)
theorem rsZ_ne {m x : Int32} (h : rsZ m x = true) : ¬ m = 0 := fun e => by
  subst e
  unfold rsZ btw at h
  rw [Bool.and_eq_true, Bool.and_eq_true] at h
  exact absurd (of_decide_eq_true h.1.1) (by decide +kernel)
theorem bt3 {f : Int32} (h : btw f.toInt64 (-3) 3 = true) : (∃ e : Nat, f = nI e ∧ e ≤ 3) ∨ (∃ e : Nat, f = -(nI e) ∧ 1 ≤ e ∧ e ≤ 3) := by
  unfold btw at h
  rw [Bool.and_eq_true] at h
  have h1 := Int64.le_iff_toInt_le.mp (of_decide_eq_true h.1)
  have h2 := Int64.le_iff_toInt_le.mp (of_decide_eq_true h.2)
  rw [Int32.toInt_toInt64] at h1 h2
  have h1' : (-3 : Int) ≤ f.toInt := h1
  have h2' : f.toInt ≤ (3 : Int) := h2
  by_cases q : 0 ≤ f.toInt
  · refine Or.inl ⟨f.toInt.toNat, ?_, by omega⟩
    apply Int32.toInt.inj
    rw [nI_toInt (by omega)]
    omega
  · refine Or.inr ⟨(-f.toInt).toNat, ?_, by omega, by omega⟩
    apply Int32.toInt.inj
    rw [ng_toInt (by omega)]
    omega
theorem ng_nge0 {e : Nat} (h1 : 1 ≤ e) (he : e < 2 ^ 30) : ¬ 0 ≤ -(nI e) := fun q => by
  rw [Int32.le_iff_toInt_le, ng_toInt he] at q
  have : (0 : Int) ≤ -(e : Int) := q
  omega
def pdZ (n : Nat) (m x f : Int32) (t : Nat) : Nat → Int64 := it (fun j c => bif bitB (nI (1 + j)) m x then tE n (1 + j) f c else c) t oneF
theorem pdZ_t {n : Nat} {m x f : Int32} {t : Nat} (h : bitB (nI (1 + t)) m x = true) : pdZ n m x f (t + 1) = tE n (1 + t) f (pdZ n m x f t) := by
  unfold pdZ
  rw [it_succ, h]; rfl
theorem pdZ_f {n : Nat} {m x f : Int32} {t : Nat} (h : bitB (nI (1 + t)) m x = false) : pdZ n m x f (t + 1) = pdZ n m x f t := by
  unfold pdZ
  rw [it_succ, h]; rfl
theorem tE_p {N p e : Nat} {c : Nat → Int64} (he : e ≤ 3) : tE N p (nI e) c = tmE N p e c := by
  unfold tE
  rw [if_pos (nI_pos' (by omega)), iN_nI (by omega)]
theorem tE_n {N p e : Nat} {c : Nat → Int64} (h1 : 1 ≤ e) (he : e ≤ 3) : tE N p (-(nI e)) c = ovE N p e c := by
  unfold tE
  rw [if_neg (ng_nge0 h1 (by omega)), Int32.neg_neg, iN_nI (by omega)]
def qPro (z : MZ) (x m y f : Int32) : Int32 × MZ := bif hix 6 x then (bif rsZ m y then (bif btw f.toInt64 (-3) 3 then sto z (pdZ z.1 m y f (z.1 - 1)) (iN x) else (-1, z)) else (-1, z)) else (-2, z)
def rkP (n : Nat) (fr : Nat → Int64) (a b : Nat) : Bool := decide (¬ b = a) && rkZ n fr b a
def rnZ (n : Nat) (fr : Nat → Int64) (x : Int32) (t : Nat) : Int32 := it (fun a s => if nI (cntN (rkP n fr a) 6) = x then nI a else s) t (-7)
theorem rnZ_t {n : Nat} {fr : Nat → Int64} {x : Int32} {t : Nat} (h : nI (cntN (rkP n fr t) 6) = x) : rnZ n fr x (t + 1) = nI t := by
  unfold rnZ
  rw [it_succ]
  exact if_pos h
theorem rnZ_f {n : Nat} {fr : Nat → Int64} {x : Int32} {t : Nat} (h : ¬ nI (cntN (rkP n fr t) 6) = x) : rnZ n fr x (t + 1) = rnZ n fr x t := by
  unfold rnZ
  rw [it_succ]
  exact if_neg h
def qRnk (z : MZ) (x : Int32) : Int32 := bif btw x.toInt64 0 5 then rnZ z.1 z.2.2.2.2.2.2.2.2.2.2.2.1 x 6 else -1
def chB (c last : Int64) : Bool := (decide (¬ 0 ≤ c) && decide (0 < last)) || (decide (0 < c) && decide (¬ 0 ≤ last))
def staB (k : Nat) (c last lg : Int64) : Bool := if k = 0 then decide (¬ c = 0) else if k = 1 then decide (¬ 0 ≤ c) else if k = 2 then chB c last else decide (lg < c)
def staC (k : Nat) (c last lg cnt : Int64) : Int64 := if k = 3 then (if cnt < abL c then abL c else cnt) else cnt + (bif staB k c last lg then 1 else 0)
def staF (fr : Nat → Int64) (a k t : Nat) (s : Int64 × Int64 × Int64) : Int64 × Int64 × Int64 := (staC k (fr (24 * a + t)) s.2.1 s.2.2 s.1, if fr (24 * a + t) = 0 then s.2.1 else fr (24 * a + t), if s.2.2 < fr (24 * a + t) then fr (24 * a + t) else s.2.2)
def staZ (fr : Nat → Int64) (a k t : Nat) : Int64 × Int64 × Int64 := it (staF fr a k) t (0, 0, -9223372036854775808)
theorem staZ_s (fr : Nat → Int64) (a k t : Nat) : staZ fr a k (t + 1) = staF fr a k t (staZ fr a k t) := rfl
def qSta (z : MZ) (x y : Int32) : Int32 := bif hix 6 x then (bif btw y.toInt64 0 4 then (staZ z.2.2.2.2.2.2.2.2.2.2.2.1 (iN x) (iN y) z.1).1.toInt32 else -1) else -2
set_option maxHeartbeats 4000000 in
set_option maxRecDepth 100000 in
theorem c_X8_product {S : ST} {E : ET} {g : Nat → va_E} {z : MZ} (hM : MC S E g z) (h4 : 4 ≤ z.1) (hN : z.1 ≤ 24) (x m y f : Int32) : CtI S E yX8_product cX8_product 7 (Option.some FieldType.int) rmX8_product [.ref (E.1 286), .int x, .int m, .int y, .int f] g (fun u g' => u = (qPro z x m y f).1 ∧ (∃ z', MC S E g' z' ∧ Sv z' (qPro z x m y f).2) ∧ Fr g g' 286 308) := by
  refine Ct.of RX8 (by decide +kernel) rfl (Nat.le_of_ble_eq_true rfl) (fun M C Z => ?_)
  refine G.eq (pc' := 0) (vs' := [some (.ref (E.1 286)), some (.int x), some (.int m), some (.int y), some (.int f), none, none]) (st' := []) ?_
  refine r_iload_n (pc := 0) C dX8_product_0 rfl ?_
  refine r_callS (pc := 1) C dX8_product_1 cs_RX8_112 (c_X8_isRegister x) ⟨rfl, rfl, by decide, by decide⟩ rfl rfl (Nat.le_of_ble_eq_true rfl) ⟨Nat.zero_le _, Nat.zero_le _⟩ ?_
  rintro _ _ ⟨_, rfl, rfl, rfl⟩
  show G M S E (0, 0) g 4 [some (.ref (E.1 286)), some (.int x), some (.int m), some (.int y), some (.int f), none, none] [.int (b2i (hix 6 x))]
  refine r_if_ne (pc := 4) (tgt := 10) C dX8_product_4 (by decide) (fun h4 => ?_) (fun h4 => ?_)
  · have h4 := b_t h4
    refine r_iload_n (pc := 10) C dX8_product_10 rfl ?_
    refine r_iload_n (pc := 11) C dX8_product_11 rfl ?_
    refine r_callS (pc := 12) C dX8_product_12 cs_RX8_152 (c_X8_isResidueSet m y) ⟨rfl, rfl, by decide, by decide⟩ rfl rfl (Nat.le_of_ble_eq_true rfl) ⟨Nat.zero_le _, Nat.zero_le _⟩ ?_
    rintro _ _ ⟨_, rfl, rfl, rfl⟩
    show G M S E (0, 0) g 15 [some (.ref (E.1 286)), some (.int x), some (.int m), some (.int y), some (.int f), none, none] [.int (b2i (rsZ m y))]
    refine r_if_eq (pc := 15) (tgt := 33) C dX8_product_15 (by decide) (fun h15 => ?_) (fun h15 => ?_)
    · have h15 := b_f h15
      refine r_iconst (pc := 33) (v := (-1)) C dX8_product_33 (by decide +kernel) ?_
      exact r_iret (pc := 34) C Z dX8_product_34 rfl (by rw [show qPro z x m y f = (-1, z) by simp only [qPro, h4, h15, cond_true, cond_false, if_true, if_false, not_true_eq_false, not_false_eq_true, ↓reduceIte]]; exact ⟨rfl, ⟨z, hM, Sv.rf⟩, Fr.rf⟩)
    · have h15 := b_t h15
      refine r_iload (pc := 18) C dX8_product_18 rfl ?_
      refine r_i2l (pc := 20) C dX8_product_20 ?_
      refine r_ldc2 (pc := 21) C dX8_product_21 qK_RX8_156 ?_
      refine r_ldc2 (pc := 24) C dX8_product_24 qK_RX8_158 ?_
      refine r_callS (pc := 27) C dX8_product_27 cs_RX8_7 (c_X8_isBetween f.toInt64 (-3) 3) ⟨rfl, rfl, by decide, by decide⟩ rfl rfl (Nat.le_of_ble_eq_true rfl) ⟨Nat.zero_le _, Nat.zero_le _⟩ ?_
      rintro _ _ ⟨_, rfl, rfl, rfl⟩
      show G M S E (0, 0) g 30 [some (.ref (E.1 286)), some (.int x), some (.int m), some (.int y), some (.int f), none, none] [.int (b2i (btw f.toInt64 (-3) 3))]
      refine r_if_ne (pc := 30) (tgt := 35) C dX8_product_30 (by decide) (fun h30 => ?_) (fun h30 => ?_)
      · have h30 := b_t h30
        obtain ⟨t, rfl, ht⟩ := hix_nat h4 (by omega)
        have ht0 := ht
        have hm0 := rsZ_ne h15
        refine r_aload_n (pc := 35) C dX8_product_35 rfl ?_
        refine r_aload_n (pc := 36) C dX8_product_36 rfl ?_
        refine r_getf (pc := 37) C dX8_product_37 fl_RX8_34 hM.1 rfl ?_
        refine r_callV (pc := 40) C dX8_product_40 cv_RX8_160 (c_X8_makeOne (iq := 286) hM.2.2.2.2.2.1 (by decide)) ⟨rfl, rfl, by decide, by decide⟩ hM.1 rfl rfl (Nat.le_of_ble_eq_true rfl) ⟨Nat.zero_le _, Nat.zero_le _⟩ ?_
        rintro _ _ ⟨rfl, rfl⟩
        show G M S E (0, 0) (va_up g 291 (xJ S 24 oneF)) 43 [some (.ref (E.1 286)), some (.int (nI t)), some (.int m), some (.int y), some (.int f), none, none] []
        rcases bt3 h30 with ⟨e, rfl, he3⟩ | ⟨e, rfl, he1, he3⟩
        · refine r_iconst (pc := 43) (v := nI 1) C dX8_product_43 (by decide +kernel) ?_
          refine r_istore (pc := 44) C dX8_product_44 (by decide) ?_
          refine G.eq (pc' := 46) (vs' := [some (.ref (E.1 286)), some (.int (nI t)), some (.int m), some (.int y), some (.int (nI e)), some (.int (nI 1)), none]) (st' := []) ?_
          refine bk (P := fun t2 => G M S E (0, 0) (va_up g 291 (xJ S 24 (pdZ z.1 m y (nI e) t2))) 46 [some (.ref (E.1 286)), some (.int (nI t)), some (.int m), some (.int y), some (.int (nI e)), some (.int (nI (1 + t2))), none] []) (T := z.1 - 1) ?_ (fun t2 ht ih => ?_)
          · show G M S E (0, 0) (va_up g 291 (xJ S 24 (pdZ z.1 m y (nI e) (z.1 - 1)))) 46 [some (.ref (E.1 286)), some (.int (nI t)), some (.int m), some (.int y), some (.int (nI e)), some (.int (nI (1 + (z.1 - 1)))), none] []
            refine r_iload (pc := 46) C dX8_product_46 rfl ?_
            refine r_aload_n (pc := 48) C dX8_product_48 rfl ?_
            refine r_getf (pc := 49) C dX8_product_49 fl_RX8_17 (Ce.up hM.1 (by decide)) rfl ?_
            refine r_icmp_ge (pc := 52) (tgt := 114) C dX8_product_52 (by decide) (fun h52 => ?_) (fun h52 => ?_)
            · have h52 := c_le (by omega) (by omega) h52
              refine r_aload_n (pc := 114) C dX8_product_114 rfl ?_
              refine r_iload_n (pc := 115) C dX8_product_115 rfl ?_
              have hM1 : MC S E (va_up g 291 (xJ S 24 (pdZ z.1 m y (nI e) (z.1 - 1)))) (s_f1 z (pdZ z.1 m y (nI e) (z.1 - 1))) := ⟨(Ce.up hM.1 (by decide)), (Ce.up hM.2.1 (by decide)), (Ce.up hM.2.2.1 (by decide)), (Ce.up hM.2.2.2.1 (by decide)), (Ce.up hM.2.2.2.2.1 (by decide)), (Ce.new hM.2.2.2.2.2.1), (Ce.up hM.2.2.2.2.2.2.1 (by decide)), (Ce.up hM.2.2.2.2.2.2.2.1 (by decide)), (Ce.up hM.2.2.2.2.2.2.2.2.1 (by decide)), (Ce.up hM.2.2.2.2.2.2.2.2.2.1 (by decide)), (Ce.up hM.2.2.2.2.2.2.2.2.2.2.1 (by decide)), (Ce.up hM.2.2.2.2.2.2.2.2.2.2.2.1 (by decide)), (Ce.up hM.2.2.2.2.2.2.2.2.2.2.2.2.1 (by decide)), (Ce.up hM.2.2.2.2.2.2.2.2.2.2.2.2.2.1 (by decide)), (Ce.up hM.2.2.2.2.2.2.2.2.2.2.2.2.2.2.1 (by decide)), (Ce.up hM.2.2.2.2.2.2.2.2.2.2.2.2.2.2.2.1 (by decide)), (Ce.up hM.2.2.2.2.2.2.2.2.2.2.2.2.2.2.2.2.1 (by decide)), (Ce.up hM.2.2.2.2.2.2.2.2.2.2.2.2.2.2.2.2.2.1 (by decide)), (Ce.up hM.2.2.2.2.2.2.2.2.2.2.2.2.2.2.2.2.2.2.1 (by decide)), (Ce.up hM.2.2.2.2.2.2.2.2.2.2.2.2.2.2.2.2.2.2.2.1 (by decide)), (Ce.up hM.2.2.2.2.2.2.2.2.2.2.2.2.2.2.2.2.2.2.2.2.1 (by decide)), (Ce.up hM.2.2.2.2.2.2.2.2.2.2.2.2.2.2.2.2.2.2.2.2.2 (by decide))⟩
              have hf1 : Fr g (va_up g 291 (xJ S 24 (pdZ z.1 m y (nI e) (z.1 - 1)))) 286 308 := (Fr.rf.up (by omega) (by omega))
              refine r_callV (pc := 116) C dX8_product_116 cv_RX8_133 (c_X8_store hM1 hN t ht0) ⟨rfl, rfl, by decide, by decide⟩ (Ce.up hM.1 (by decide)) rfl rfl (Nat.le_of_ble_eq_true rfl) ⟨Nat.zero_le _, Nat.zero_le _⟩ ?_
              rintro _ g2 ⟨_, rfl, rfl, hM2, hF2⟩
              show G M S E (0, 0) g2 119 [some (.ref (E.1 286)), some (.int (nI t)), some (.int m), some (.int y), some (.int (nI e)), some (.int (nI (1 + (z.1 - 1)))), none] [.int (stV (s_f1 z (pdZ z.1 m y (nI e) (z.1 - 1))))]
              exact r_iret (pc := 119) C Z dX8_product_119 rfl (by rw [show qPro z (nI t) m y (nI e) = sto z (pdZ z.1 m y (nI e) (z.1 - 1)) t by simp only [qPro, h4, h15, h30, iN_nI (show t < 2 ^ 31 by omega), cond_true, cond_false, if_true, if_false, not_true_eq_false, not_false_eq_true, ↓reduceIte]]; exact ⟨rfl, ⟨_, hM2, Sv.rf⟩, hf1.tr hF2 (by omega) (by omega)⟩)
            · have h52 := c_nle (by omega) (by omega) h52
              omega
          · show G M S E (0, 0) (va_up g 291 (xJ S 24 (pdZ z.1 m y (nI e) t2))) 46 [some (.ref (E.1 286)), some (.int (nI t)), some (.int m), some (.int y), some (.int (nI e)), some (.int (nI (1 + t2))), none] []
            refine r_iload (pc := 46) C dX8_product_46 rfl ?_
            refine r_aload_n (pc := 48) C dX8_product_48 rfl ?_
            refine r_getf (pc := 49) C dX8_product_49 fl_RX8_17 (Ce.up hM.1 (by decide)) rfl ?_
            refine r_icmp_ge (pc := 52) (tgt := 114) C dX8_product_52 (by decide) (fun h52 => ?_) (fun h52 => ?_)
            · have h52 := c_le (by omega) (by omega) h52
              omega
            · have h52 := c_nle (by omega) (by omega) h52
              refine r_iload_n (pc := 55) C dX8_product_55 rfl ?_
              refine r_iload (pc := 56) C dX8_product_56 rfl ?_
              refine r_iload_n (pc := 58) C dX8_product_58 rfl ?_
              refine r_irem (pc := 59) C dX8_product_59 hm0 ?_
              refine r_ishr (pc := 60) C dX8_product_60 ?_
              refine r_iconst (pc := 61) (v := nI 1) C dX8_product_61 (by decide +kernel) ?_
              refine r_iand (pc := 62) C dX8_product_62 ?_
              refine r_if_ne (pc := 63) (tgt := 69) C dX8_product_63 (by decide) (fun h63 => ?_) (fun h63 => ?_)
              · have hb : bitB (nI (1 + t2)) m y = true := dT h63
                refine r_iconst (pc := 69) (v := nI 0) C dX8_product_69 (by decide +kernel) ?_
                refine r_istore (pc := 70) C dX8_product_70 (by decide) ?_
                refine G.eq (pc' := 72) (vs' := [some (.ref (E.1 286)), some (.int (nI t)), some (.int m), some (.int y), some (.int (nI e)), some (.int (nI (1 + t2))), some (.int (nI 0))]) (st' := []) ?_
                have ih2 := ih
                refine bk (P := fun t3 => G M S E (0, 0) (va_up g 291 (xJ S 24 (tmE z.1 (1 + t2) t3 (pdZ z.1 m y (nI e) t2)))) 72 [some (.ref (E.1 286)), some (.int (nI t)), some (.int m), some (.int y), some (.int (nI e)), some (.int (nI (1 + t2))), some (.int (nI t3))] []) (T := e) ?_ (fun t3 ht ih => ?_)
                · show G M S E (0, 0) (va_up g 291 (xJ S 24 (tmE z.1 (1 + t2) e (pdZ z.1 m y (nI e) t2)))) 72 [some (.ref (E.1 286)), some (.int (nI t)), some (.int m), some (.int y), some (.int (nI e)), some (.int (nI (1 + t2))), some (.int (nI e))] []
                  refine r_iload (pc := 72) C dX8_product_72 rfl ?_
                  refine r_iload (pc := 74) C dX8_product_74 rfl ?_
                  refine r_if_ge (pc := 76) (tgt := 85) C dX8_product_76 (by decide) (fun h76 => ?_) (fun h76 => ?_)
                  · have h76 := z_ge (by omega) h76
                    refine r_iload (pc := 85) C dX8_product_85 rfl ?_
                    refine r_icmp_ge (pc := 87) (tgt := 108) C dX8_product_87 (by decide) (fun h87 => ?_) (fun h87 => ?_)
                    · have h87 := c_le (by omega) (by omega) h87
                      refine r_iinc (pc := 108) (v := nI (1 + t2 + 1)) C dX8_product_108 rfl (nI_i1 _) (by decide) ?_
                      refine G.eq (pc' := 111) (vs' := [some (.ref (E.1 286)), some (.int (nI t)), some (.int m), some (.int y), some (.int (nI e)), some (.int (nI (1 + t2 + 1))), some (.int (nI e))]) (st' := []) ?_
                      refine r_goto (pc := 111) (tgt := 46) C dX8_product_111 (by decide) ?_
                      rw [pdZ_t hb, tE_p he3] at ih2
                      refine G.wk (vs' := [some (.ref (E.1 286)), some (.int (nI t)), some (.int m), some (.int y), some (.int (nI e)), some (.int (nI (1 + t2 + 1))), none]) ⟨rfl, rfl, rfl, rfl, rfl, rfl, trivial⟩ ?_
                      exact ih2
                    · have h87 := c_nle (by omega) (by omega) h87
                      omega
                  · have h76 := z_nge (by omega) h76
                    exact h76.elim
                · show G M S E (0, 0) (va_up g 291 (xJ S 24 (tmE z.1 (1 + t2) t3 (pdZ z.1 m y (nI e) t2)))) 72 [some (.ref (E.1 286)), some (.int (nI t)), some (.int m), some (.int y), some (.int (nI e)), some (.int (nI (1 + t2))), some (.int (nI t3))] []
                  refine r_iload (pc := 72) C dX8_product_72 rfl ?_
                  refine r_iload (pc := 74) C dX8_product_74 rfl ?_
                  refine r_if_ge (pc := 76) (tgt := 85) C dX8_product_76 (by decide) (fun h76 => ?_) (fun h76 => ?_)
                  · have h76 := z_ge (by omega) h76
                    refine r_iload (pc := 85) C dX8_product_85 rfl ?_
                    refine r_icmp_ge (pc := 87) (tgt := 108) C dX8_product_87 (by decide) (fun h87 => ?_) (fun h87 => ?_)
                    · have h87 := c_le (by omega) (by omega) h87
                      omega
                    · have h87 := c_nle (by omega) (by omega) h87
                      refine r_aload_n (pc := 90) C dX8_product_90 rfl ?_
                      refine r_aload_n (pc := 91) C dX8_product_91 rfl ?_
                      refine r_getf (pc := 92) C dX8_product_92 fl_RX8_34 (Ce.up hM.1 (by decide)) rfl ?_
                      refine r_iload (pc := 95) C dX8_product_95 rfl ?_
                      refine r_iload (pc := 97) C dX8_product_97 rfl ?_
                      refine r_callV (pc := 99) C dX8_product_99 cv_RX8_89 (c_X8_times (Ce.up hM.1 (by decide)) rfl hN (Ce.new hM.2.2.2.2.2.1) (by decide) (1 + t2) (nI e) (by omega) (nI_nle (by omega) (by omega))) ⟨rfl, rfl, by decide, by decide⟩ (Ce.up hM.1 (by decide)) rfl rfl (Nat.le_of_ble_eq_true rfl) ⟨Nat.zero_le _, Nat.zero_le _⟩ ?_
                      rintro _ _ ⟨rfl, rfl⟩
                      rw [bx_uu]
                      show G M S E (0, 0) (va_up g 291 (xJ S 24 (tmF z.1 (1 + t2) (tmE z.1 (1 + t2) t3 (pdZ z.1 m y (nI e) t2))))) 102 [some (.ref (E.1 286)), some (.int (nI t)), some (.int m), some (.int y), some (.int (nI e)), some (.int (nI (1 + t2))), some (.int (nI t3))] []
                      refine r_iinc (pc := 102) (v := nI (t3 + 1)) C dX8_product_102 rfl (nI_i1 _) (by decide) ?_
                      refine G.eq (pc' := 105) (vs' := [some (.ref (E.1 286)), some (.int (nI t)), some (.int m), some (.int y), some (.int (nI e)), some (.int (nI (1 + t2))), some (.int (nI (t3 + 1)))]) (st' := []) ?_
                      refine r_goto (pc := 105) (tgt := 72) C dX8_product_105 (by decide) ?_
                      exact ih
                  · have h76 := z_nge (by omega) h76
                    exact h76.elim
              · refine r_goto (pc := 66) (tgt := 108) C dX8_product_66 (by decide) ?_
                refine r_iinc (pc := 108) (v := nI (1 + t2 + 1)) C dX8_product_108 rfl (nI_i1 _) (by decide) ?_
                refine G.eq (pc' := 111) (vs' := [some (.ref (E.1 286)), some (.int (nI t)), some (.int m), some (.int y), some (.int (nI e)), some (.int (nI (1 + t2 + 1))), none]) (st' := []) ?_
                refine r_goto (pc := 111) (tgt := 46) C dX8_product_111 (by decide) ?_
                rw [pdZ_f (show bitB (nI (1 + t2)) m y = false from dF (fun q => q h63))] at ih
                exact ih
        · refine r_iconst (pc := 43) (v := nI 1) C dX8_product_43 (by decide +kernel) ?_
          refine r_istore (pc := 44) C dX8_product_44 (by decide) ?_
          refine G.eq (pc' := 46) (vs' := [some (.ref (E.1 286)), some (.int (nI t)), some (.int m), some (.int y), some (.int (-(nI e))), some (.int (nI 1)), none]) (st' := []) ?_
          refine bk (P := fun t2 => G M S E (0, 0) (va_up g 291 (xJ S 24 (pdZ z.1 m y (-(nI e)) t2))) 46 [some (.ref (E.1 286)), some (.int (nI t)), some (.int m), some (.int y), some (.int (-(nI e))), some (.int (nI (1 + t2))), none] []) (T := z.1 - 1) ?_ (fun t2 ht ih => ?_)
          · show G M S E (0, 0) (va_up g 291 (xJ S 24 (pdZ z.1 m y (-(nI e)) (z.1 - 1)))) 46 [some (.ref (E.1 286)), some (.int (nI t)), some (.int m), some (.int y), some (.int (-(nI e))), some (.int (nI (1 + (z.1 - 1)))), none] []
            refine r_iload (pc := 46) C dX8_product_46 rfl ?_
            refine r_aload_n (pc := 48) C dX8_product_48 rfl ?_
            refine r_getf (pc := 49) C dX8_product_49 fl_RX8_17 (Ce.up hM.1 (by decide)) rfl ?_
            refine r_icmp_ge (pc := 52) (tgt := 114) C dX8_product_52 (by decide) (fun h52 => ?_) (fun h52 => ?_)
            · have h52 := c_le (by omega) (by omega) h52
              refine r_aload_n (pc := 114) C dX8_product_114 rfl ?_
              refine r_iload_n (pc := 115) C dX8_product_115 rfl ?_
              have hM1 : MC S E (va_up g 291 (xJ S 24 (pdZ z.1 m y (-(nI e)) (z.1 - 1)))) (s_f1 z (pdZ z.1 m y (-(nI e)) (z.1 - 1))) := ⟨(Ce.up hM.1 (by decide)), (Ce.up hM.2.1 (by decide)), (Ce.up hM.2.2.1 (by decide)), (Ce.up hM.2.2.2.1 (by decide)), (Ce.up hM.2.2.2.2.1 (by decide)), (Ce.new hM.2.2.2.2.2.1), (Ce.up hM.2.2.2.2.2.2.1 (by decide)), (Ce.up hM.2.2.2.2.2.2.2.1 (by decide)), (Ce.up hM.2.2.2.2.2.2.2.2.1 (by decide)), (Ce.up hM.2.2.2.2.2.2.2.2.2.1 (by decide)), (Ce.up hM.2.2.2.2.2.2.2.2.2.2.1 (by decide)), (Ce.up hM.2.2.2.2.2.2.2.2.2.2.2.1 (by decide)), (Ce.up hM.2.2.2.2.2.2.2.2.2.2.2.2.1 (by decide)), (Ce.up hM.2.2.2.2.2.2.2.2.2.2.2.2.2.1 (by decide)), (Ce.up hM.2.2.2.2.2.2.2.2.2.2.2.2.2.2.1 (by decide)), (Ce.up hM.2.2.2.2.2.2.2.2.2.2.2.2.2.2.2.1 (by decide)), (Ce.up hM.2.2.2.2.2.2.2.2.2.2.2.2.2.2.2.2.1 (by decide)), (Ce.up hM.2.2.2.2.2.2.2.2.2.2.2.2.2.2.2.2.2.1 (by decide)), (Ce.up hM.2.2.2.2.2.2.2.2.2.2.2.2.2.2.2.2.2.2.1 (by decide)), (Ce.up hM.2.2.2.2.2.2.2.2.2.2.2.2.2.2.2.2.2.2.2.1 (by decide)), (Ce.up hM.2.2.2.2.2.2.2.2.2.2.2.2.2.2.2.2.2.2.2.2.1 (by decide)), (Ce.up hM.2.2.2.2.2.2.2.2.2.2.2.2.2.2.2.2.2.2.2.2.2 (by decide))⟩
              have hf1 : Fr g (va_up g 291 (xJ S 24 (pdZ z.1 m y (-(nI e)) (z.1 - 1)))) 286 308 := (Fr.rf.up (by omega) (by omega))
              refine r_callV (pc := 116) C dX8_product_116 cv_RX8_133 (c_X8_store hM1 hN t ht0) ⟨rfl, rfl, by decide, by decide⟩ (Ce.up hM.1 (by decide)) rfl rfl (Nat.le_of_ble_eq_true rfl) ⟨Nat.zero_le _, Nat.zero_le _⟩ ?_
              rintro _ g2 ⟨_, rfl, rfl, hM2, hF2⟩
              show G M S E (0, 0) g2 119 [some (.ref (E.1 286)), some (.int (nI t)), some (.int m), some (.int y), some (.int (-(nI e))), some (.int (nI (1 + (z.1 - 1)))), none] [.int (stV (s_f1 z (pdZ z.1 m y (-(nI e)) (z.1 - 1))))]
              exact r_iret (pc := 119) C Z dX8_product_119 rfl (by rw [show qPro z (nI t) m y (-(nI e)) = sto z (pdZ z.1 m y (-(nI e)) (z.1 - 1)) t by simp only [qPro, h4, h15, h30, iN_nI (show t < 2 ^ 31 by omega), cond_true, cond_false, if_true, if_false, not_true_eq_false, not_false_eq_true, ↓reduceIte]]; exact ⟨rfl, ⟨_, hM2, Sv.rf⟩, hf1.tr hF2 (by omega) (by omega)⟩)
            · have h52 := c_nle (by omega) (by omega) h52
              omega
          · show G M S E (0, 0) (va_up g 291 (xJ S 24 (pdZ z.1 m y (-(nI e)) t2))) 46 [some (.ref (E.1 286)), some (.int (nI t)), some (.int m), some (.int y), some (.int (-(nI e))), some (.int (nI (1 + t2))), none] []
            refine r_iload (pc := 46) C dX8_product_46 rfl ?_
            refine r_aload_n (pc := 48) C dX8_product_48 rfl ?_
            refine r_getf (pc := 49) C dX8_product_49 fl_RX8_17 (Ce.up hM.1 (by decide)) rfl ?_
            refine r_icmp_ge (pc := 52) (tgt := 114) C dX8_product_52 (by decide) (fun h52 => ?_) (fun h52 => ?_)
            · have h52 := c_le (by omega) (by omega) h52
              omega
            · have h52 := c_nle (by omega) (by omega) h52
              refine r_iload_n (pc := 55) C dX8_product_55 rfl ?_
              refine r_iload (pc := 56) C dX8_product_56 rfl ?_
              refine r_iload_n (pc := 58) C dX8_product_58 rfl ?_
              refine r_irem (pc := 59) C dX8_product_59 hm0 ?_
              refine r_ishr (pc := 60) C dX8_product_60 ?_
              refine r_iconst (pc := 61) (v := nI 1) C dX8_product_61 (by decide +kernel) ?_
              refine r_iand (pc := 62) C dX8_product_62 ?_
              refine r_if_ne (pc := 63) (tgt := 69) C dX8_product_63 (by decide) (fun h63 => ?_) (fun h63 => ?_)
              · have hb : bitB (nI (1 + t2)) m y = true := dT h63
                refine r_iconst (pc := 69) (v := nI 0) C dX8_product_69 (by decide +kernel) ?_
                refine r_istore (pc := 70) C dX8_product_70 (by decide) ?_
                refine G.eq (pc' := 72) (vs' := [some (.ref (E.1 286)), some (.int (nI t)), some (.int m), some (.int y), some (.int (-(nI e))), some (.int (nI (1 + t2))), some (.int (nI 0))]) (st' := []) ?_
                have ih2 := ih
                refine bk (P := fun t3 => G M S E (0, 0) (va_up g 291 (xJ S 24 (ovE z.1 (1 + t2) t3 (pdZ z.1 m y (-(nI e)) t2)))) 72 [some (.ref (E.1 286)), some (.int (nI t)), some (.int m), some (.int y), some (.int (-(nI e))), some (.int (nI (1 + t2))), some (.int (nI t3))] []) (T := e) ?_ (fun t3 ht ih => ?_)
                · show G M S E (0, 0) (va_up g 291 (xJ S 24 (ovE z.1 (1 + t2) e (pdZ z.1 m y (-(nI e)) t2)))) 72 [some (.ref (E.1 286)), some (.int (nI t)), some (.int m), some (.int y), some (.int (-(nI e))), some (.int (nI (1 + t2))), some (.int (nI e))] []
                  refine r_iload (pc := 72) C dX8_product_72 rfl ?_
                  refine r_iload (pc := 74) C dX8_product_74 rfl ?_
                  refine r_if_ge (pc := 76) (tgt := 85) C dX8_product_76 (by decide) (fun h76 => ?_) (fun h76 => ?_)
                  · exact absurd h76 (ng_nge0 he1 (by omega))
                  · refine r_iload (pc := 79) C dX8_product_79 rfl ?_
                    refine r_ineg (pc := 81) C dX8_product_81 ?_
                    refine r_ti (nI e) Int32.neg_neg ?_
                    refine r_goto (pc := 82) (tgt := 87) C dX8_product_82 (by decide) ?_
                    refine r_icmp_ge (pc := 87) (tgt := 108) C dX8_product_87 (by decide) (fun h87 => ?_) (fun h87 => ?_)
                    · have h87 := c_le (by omega) (by omega) h87
                      refine r_iinc (pc := 108) (v := nI (1 + t2 + 1)) C dX8_product_108 rfl (nI_i1 _) (by decide) ?_
                      refine G.eq (pc' := 111) (vs' := [some (.ref (E.1 286)), some (.int (nI t)), some (.int m), some (.int y), some (.int (-(nI e))), some (.int (nI (1 + t2 + 1))), some (.int (nI e))]) (st' := []) ?_
                      refine r_goto (pc := 111) (tgt := 46) C dX8_product_111 (by decide) ?_
                      rw [pdZ_t hb, tE_n he1 he3] at ih2
                      refine G.wk (vs' := [some (.ref (E.1 286)), some (.int (nI t)), some (.int m), some (.int y), some (.int (-(nI e))), some (.int (nI (1 + t2 + 1))), none]) ⟨rfl, rfl, rfl, rfl, rfl, rfl, trivial⟩ ?_
                      exact ih2
                    · have h87 := c_nle (by omega) (by omega) h87
                      omega
                · show G M S E (0, 0) (va_up g 291 (xJ S 24 (ovE z.1 (1 + t2) t3 (pdZ z.1 m y (-(nI e)) t2)))) 72 [some (.ref (E.1 286)), some (.int (nI t)), some (.int m), some (.int y), some (.int (-(nI e))), some (.int (nI (1 + t2))), some (.int (nI t3))] []
                  refine r_iload (pc := 72) C dX8_product_72 rfl ?_
                  refine r_iload (pc := 74) C dX8_product_74 rfl ?_
                  refine r_if_ge (pc := 76) (tgt := 85) C dX8_product_76 (by decide) (fun h76 => ?_) (fun h76 => ?_)
                  · exact absurd h76 (ng_nge0 he1 (by omega))
                  · refine r_iload (pc := 79) C dX8_product_79 rfl ?_
                    refine r_ineg (pc := 81) C dX8_product_81 ?_
                    refine r_ti (nI e) Int32.neg_neg ?_
                    refine r_goto (pc := 82) (tgt := 87) C dX8_product_82 (by decide) ?_
                    refine r_icmp_ge (pc := 87) (tgt := 108) C dX8_product_87 (by decide) (fun h87 => ?_) (fun h87 => ?_)
                    · have h87 := c_le (by omega) (by omega) h87
                      omega
                    · have h87 := c_nle (by omega) (by omega) h87
                      refine r_aload_n (pc := 90) C dX8_product_90 rfl ?_
                      refine r_aload_n (pc := 91) C dX8_product_91 rfl ?_
                      refine r_getf (pc := 92) C dX8_product_92 fl_RX8_34 (Ce.up hM.1 (by decide)) rfl ?_
                      refine r_iload (pc := 95) C dX8_product_95 rfl ?_
                      refine r_iload (pc := 97) C dX8_product_97 rfl ?_
                      refine r_callV (pc := 99) C dX8_product_99 cv_RX8_89 (c_X8_over (Ce.up hM.1 (by decide)) rfl hN (Ce.new hM.2.2.2.2.2.1) (by decide) (1 + t2) (-(nI e)) (by omega) (ng_le0 (by omega))) ⟨rfl, rfl, by decide, by decide⟩ (Ce.up hM.1 (by decide)) rfl rfl (Nat.le_of_ble_eq_true rfl) ⟨Nat.zero_le _, Nat.zero_le _⟩ ?_
                      rintro _ _ ⟨rfl, rfl⟩
                      rw [bx_uu]
                      show G M S E (0, 0) (va_up g 291 (xJ S 24 (ovF z.1 (1 + t2) (ovE z.1 (1 + t2) t3 (pdZ z.1 m y (-(nI e)) t2))))) 102 [some (.ref (E.1 286)), some (.int (nI t)), some (.int m), some (.int y), some (.int (-(nI e))), some (.int (nI (1 + t2))), some (.int (nI t3))] []
                      refine r_iinc (pc := 102) (v := nI (t3 + 1)) C dX8_product_102 rfl (nI_i1 _) (by decide) ?_
                      refine G.eq (pc' := 105) (vs' := [some (.ref (E.1 286)), some (.int (nI t)), some (.int m), some (.int y), some (.int (-(nI e))), some (.int (nI (1 + t2))), some (.int (nI (t3 + 1)))]) (st' := []) ?_
                      refine r_goto (pc := 105) (tgt := 72) C dX8_product_105 (by decide) ?_
                      exact ih
              · refine r_goto (pc := 66) (tgt := 108) C dX8_product_66 (by decide) ?_
                refine r_iinc (pc := 108) (v := nI (1 + t2 + 1)) C dX8_product_108 rfl (nI_i1 _) (by decide) ?_
                refine G.eq (pc' := 111) (vs' := [some (.ref (E.1 286)), some (.int (nI t)), some (.int m), some (.int y), some (.int (-(nI e))), some (.int (nI (1 + t2 + 1))), none]) (st' := []) ?_
                refine r_goto (pc := 111) (tgt := 46) C dX8_product_111 (by decide) ?_
                rw [pdZ_f (show bitB (nI (1 + t2)) m y = false from dF (fun q => q h63))] at ih
                exact ih
      · have h30 := b_f h30
        refine r_iconst (pc := 33) (v := (-1)) C dX8_product_33 (by decide +kernel) ?_
        exact r_iret (pc := 34) C Z dX8_product_34 rfl (by rw [show qPro z x m y f = (-1, z) by simp only [qPro, h4, h15, h30, cond_true, cond_false, if_true, if_false, not_true_eq_false, not_false_eq_true, ↓reduceIte]]; exact ⟨rfl, ⟨z, hM, Sv.rf⟩, Fr.rf⟩)
  · have h4 := b_f h4
    refine r_bipush (pc := 7) (v := (-2)) C dX8_product_7 (by decide +kernel) ?_
    exact r_iret (pc := 9) C Z dX8_product_9 rfl (by rw [show qPro z x m y f = (-2, z) by simp only [qPro, h4, cond_true, cond_false, if_true, if_false, not_true_eq_false, not_false_eq_true, ↓reduceIte]]; exact ⟨rfl, ⟨z, hM, Sv.rf⟩, Fr.rf⟩)
set_option maxHeartbeats 4000000 in
set_option maxRecDepth 100000 in
theorem c_X8_registerByRank {S : ST} {E : ET} {g : Nat → va_E} {z : MZ} (hM : MC S E g z) (h4 : 4 ≤ z.1) (hN : z.1 ≤ 24) (x : Int32) : CtI S E yX8_registerByRank cX8_registerByRank 6 (Option.some FieldType.int) rmX8_registerByRank [.ref (E.1 286), .int x] g (fun u g' => u = qRnk z x ∧ g = g') := by
  refine Ct.of RX8 (by decide +kernel) rfl (Nat.le_of_ble_eq_true rfl) (fun M C Z => ?_)
  refine G.eq (pc' := 0) (vs' := [some (.ref (E.1 286)), some (.int x), none, none, none, none]) (st' := []) ?_
  refine r_iload_n (pc := 0) C dX8_registerByRank_0 rfl ?_
  refine r_i2l (pc := 1) C dX8_registerByRank_1 ?_
  refine r_lconst (pc := 2) (v := 0) C dX8_registerByRank_2 rfl ?_
  refine r_ldc2 (pc := 3) C dX8_registerByRank_3 qK_RX8_5 ?_
  refine r_callS (pc := 6) C dX8_registerByRank_6 cs_RX8_7 (c_X8_isBetween x.toInt64 0 5) ⟨rfl, rfl, by decide, by decide⟩ rfl rfl (Nat.le_of_ble_eq_true rfl) ⟨Nat.zero_le _, Nat.zero_le _⟩ ?_
  rintro _ _ ⟨_, rfl, rfl, rfl⟩
  show G M S E (0, 0) g 9 [some (.ref (E.1 286)), some (.int x), none, none, none, none] [.int (b2i (btw x.toInt64 0 5))]
  refine r_if_ne (pc := 9) (tgt := 14) C dX8_registerByRank_9 (by decide) (fun h9 => ?_) (fun h9 => ?_)
  · have h9 := b_t h9
    refine r_bipush (pc := 14) (v := (-7)) C dX8_registerByRank_14 (by decide +kernel) ?_
    refine r_istore_n (pc := 16) C dX8_registerByRank_16 (by decide) ?_
    refine G.eq (pc' := 17) (vs' := [some (.ref (E.1 286)), some (.int x), some (.int (-7)), none, none, none]) (st' := []) ?_
    refine r_iconst (pc := 17) (v := nI 0) C dX8_registerByRank_17 (by decide +kernel) ?_
    refine r_istore_n (pc := 18) C dX8_registerByRank_18 (by decide) ?_
    refine G.eq (pc' := 19) (vs' := [some (.ref (E.1 286)), some (.int x), some (.int (-7)), some (.int (nI 0)), none, none]) (st' := []) ?_
    refine bk (P := fun t2 => G M S E (0, 0) g 19 [some (.ref (E.1 286)), some (.int x), some (.int (rnZ z.1 z.2.2.2.2.2.2.2.2.2.2.2.1 x t2)), some (.int (nI t2)), none, none] []) (T := 6) ?_ (fun t2 ht ih => ?_)
    · show G M S E (0, 0) g 19 [some (.ref (E.1 286)), some (.int x), some (.int (rnZ z.1 z.2.2.2.2.2.2.2.2.2.2.2.1 x 6)), some (.int (nI 6)), none, none] []
      refine r_iload_n (pc := 19) C dX8_registerByRank_19 rfl ?_
      refine r_bipush (pc := 20) (v := nI 6) C dX8_registerByRank_20 (by decide +kernel) ?_
      refine r_icmp_ge (pc := 22) (tgt := 88) C dX8_registerByRank_22 (by decide) (fun h22 => ?_) (fun h22 => ?_)
      · have h22 := c_le (by omega) (by omega) h22
        refine r_iload_n (pc := 88) C dX8_registerByRank_88 rfl ?_
        exact r_iret (pc := 89) C Z dX8_registerByRank_89 rfl (by rw [show qRnk z x = rnZ z.1 z.2.2.2.2.2.2.2.2.2.2.2.1 x 6 by simp only [qRnk, h9, cond_true, cond_false, if_true, if_false, not_true_eq_false, not_false_eq_true, ↓reduceIte]]; exact ⟨rfl, rfl⟩)
      · have h22 := c_nle (by omega) (by omega) h22
        omega
    · show G M S E (0, 0) g 19 [some (.ref (E.1 286)), some (.int x), some (.int (rnZ z.1 z.2.2.2.2.2.2.2.2.2.2.2.1 x t2)), some (.int (nI t2)), none, none] []
      refine r_iload_n (pc := 19) C dX8_registerByRank_19 rfl ?_
      refine r_bipush (pc := 20) (v := nI 6) C dX8_registerByRank_20 (by decide +kernel) ?_
      refine r_icmp_ge (pc := 22) (tgt := 88) C dX8_registerByRank_22 (by decide) (fun h22 => ?_) (fun h22 => ?_)
      · have h22 := c_le (by omega) (by omega) h22
        omega
      · have h22 := c_nle (by omega) (by omega) h22
        refine r_iconst (pc := 25) (v := nI 0) C dX8_registerByRank_25 (by decide +kernel) ?_
        refine r_istore (pc := 26) C dX8_registerByRank_26 (by decide) ?_
        refine G.eq (pc' := 28) (vs' := [some (.ref (E.1 286)), some (.int x), some (.int (rnZ z.1 z.2.2.2.2.2.2.2.2.2.2.2.1 x t2)), some (.int (nI t2)), some (.int (nI 0)), none]) (st' := []) ?_
        refine r_iconst (pc := 28) (v := nI 0) C dX8_registerByRank_28 (by decide +kernel) ?_
        refine r_istore (pc := 29) C dX8_registerByRank_29 (by decide) ?_
        refine G.eq (pc' := 31) (vs' := [some (.ref (E.1 286)), some (.int x), some (.int (rnZ z.1 z.2.2.2.2.2.2.2.2.2.2.2.1 x t2)), some (.int (nI t2)), some (.int (nI 0)), some (.int (nI 0))]) (st' := []) ?_
        have ih2 := ih
        refine bk (P := fun t3 => G M S E (0, 0) g 31 [some (.ref (E.1 286)), some (.int x), some (.int (rnZ z.1 z.2.2.2.2.2.2.2.2.2.2.2.1 x t2)), some (.int (nI t2)), some (.int (nI (it (cntF (rkP z.1 z.2.2.2.2.2.2.2.2.2.2.2.1 t2)) t3 0))), some (.int (nI t3))] []) (T := 6) ?_ (fun t3 ht ih => ?_)
        · show G M S E (0, 0) g 31 [some (.ref (E.1 286)), some (.int x), some (.int (rnZ z.1 z.2.2.2.2.2.2.2.2.2.2.2.1 x t2)), some (.int (nI t2)), some (.int (nI (it (cntF (rkP z.1 z.2.2.2.2.2.2.2.2.2.2.2.1 t2)) 6 0))), some (.int (nI 6))] []
          refine r_iload (pc := 31) C dX8_registerByRank_31 rfl ?_
          refine r_bipush (pc := 33) (v := nI 6) C dX8_registerByRank_33 (by decide +kernel) ?_
          refine r_icmp_ge (pc := 35) (tgt := 70) C dX8_registerByRank_35 (by decide) (fun h35 => ?_) (fun h35 => ?_)
          · have h35 := c_le (by omega) (by omega) h35
            refine r_iload (pc := 70) C dX8_registerByRank_70 rfl ?_
            refine r_iload_n (pc := 72) C dX8_registerByRank_72 rfl ?_
            refine r_icmp_ne (pc := 73) (tgt := 80) C dX8_registerByRank_73 (by decide) (fun h73 => ?_) (fun h73 => ?_)
            · refine r_iload_n (pc := 80) C dX8_registerByRank_80 rfl ?_
              refine r_istore_n (pc := 81) C dX8_registerByRank_81 (by decide) ?_
              refine G.eq (pc' := 82) (vs' := [some (.ref (E.1 286)), some (.int x), some (.int (rnZ z.1 z.2.2.2.2.2.2.2.2.2.2.2.1 x t2)), some (.int (nI t2)), some (.int (nI (it (cntF (rkP z.1 z.2.2.2.2.2.2.2.2.2.2.2.1 t2)) 6 0))), some (.int (nI 6))]) (st' := []) ?_
              refine r_iinc (pc := 82) (v := nI (t2 + 1)) C dX8_registerByRank_82 rfl (nI_i1 _) (by decide) ?_
              refine G.eq (pc' := 85) (vs' := [some (.ref (E.1 286)), some (.int x), some (.int (rnZ z.1 z.2.2.2.2.2.2.2.2.2.2.2.1 x t2)), some (.int (nI (t2 + 1))), some (.int (nI (it (cntF (rkP z.1 z.2.2.2.2.2.2.2.2.2.2.2.1 t2)) 6 0))), some (.int (nI 6))]) (st' := []) ?_
              refine r_goto (pc := 85) (tgt := 19) C dX8_registerByRank_85 (by decide) ?_
              rw [rnZ_f h73] at ih2
              refine G.wk (vs' := [some (.ref (E.1 286)), some (.int x), some (.int (rnZ z.1 z.2.2.2.2.2.2.2.2.2.2.2.1 x t2)), some (.int (nI (t2 + 1))), none, none]) ⟨rfl, rfl, rfl, rfl, trivial⟩ ?_
              exact ih2
            · refine r_iload_n (pc := 76) C dX8_registerByRank_76 rfl ?_
              refine r_goto (pc := 77) (tgt := 81) C dX8_registerByRank_77 (by decide) ?_
              refine r_istore_n (pc := 81) C dX8_registerByRank_81 (by decide) ?_
              refine G.eq (pc' := 82) (vs' := [some (.ref (E.1 286)), some (.int x), some (.int (nI t2)), some (.int (nI t2)), some (.int (nI (it (cntF (rkP z.1 z.2.2.2.2.2.2.2.2.2.2.2.1 t2)) 6 0))), some (.int (nI 6))]) (st' := []) ?_
              refine r_iinc (pc := 82) (v := nI (t2 + 1)) C dX8_registerByRank_82 rfl (nI_i1 _) (by decide) ?_
              refine G.eq (pc' := 85) (vs' := [some (.ref (E.1 286)), some (.int x), some (.int (nI t2)), some (.int (nI (t2 + 1))), some (.int (nI (it (cntF (rkP z.1 z.2.2.2.2.2.2.2.2.2.2.2.1 t2)) 6 0))), some (.int (nI 6))]) (st' := []) ?_
              refine r_goto (pc := 85) (tgt := 19) C dX8_registerByRank_85 (by decide) ?_
              rw [rnZ_t h73] at ih2
              refine G.wk (vs' := [some (.ref (E.1 286)), some (.int x), some (.int (nI t2)), some (.int (nI (t2 + 1))), none, none]) ⟨rfl, rfl, rfl, rfl, trivial⟩ ?_
              exact ih2
          · have h35 := c_nle (by omega) (by omega) h35
            omega
        · show G M S E (0, 0) g 31 [some (.ref (E.1 286)), some (.int x), some (.int (rnZ z.1 z.2.2.2.2.2.2.2.2.2.2.2.1 x t2)), some (.int (nI t2)), some (.int (nI (it (cntF (rkP z.1 z.2.2.2.2.2.2.2.2.2.2.2.1 t2)) t3 0))), some (.int (nI t3))] []
          refine r_iload (pc := 31) C dX8_registerByRank_31 rfl ?_
          refine r_bipush (pc := 33) (v := nI 6) C dX8_registerByRank_33 (by decide +kernel) ?_
          refine r_icmp_ge (pc := 35) (tgt := 70) C dX8_registerByRank_35 (by decide) (fun h35 => ?_) (fun h35 => ?_)
          · have h35 := c_le (by omega) (by omega) h35
            omega
          · have h35 := c_nle (by omega) (by omega) h35
            refine r_iload (pc := 38) C dX8_registerByRank_38 rfl ?_
            refine r_iload (pc := 40) C dX8_registerByRank_40 rfl ?_
            refine r_iload_n (pc := 42) C dX8_registerByRank_42 rfl ?_
            refine r_icmp_eq (pc := 43) (tgt := 60) C dX8_registerByRank_43 (by decide) (fun h43 => ?_) (fun h43 => ?_)
            · have h43 := c_eq (by omega) (by omega) h43
              refine r_iconst (pc := 60) (v := nI 0) C dX8_registerByRank_60 (by decide +kernel) ?_
              refine r_iadd (pc := 61) C dX8_registerByRank_61 ?_
              refine r_ti (nI (it (cntF (rkP z.1 z.2.2.2.2.2.2.2.2.2.2.2.1 t2)) t3 0 + 0)) (nI_add _ _) ?_
              refine r_ti (nI (it (cntF (rkP z.1 z.2.2.2.2.2.2.2.2.2.2.2.1 t2)) (t3 + 1) 0)) (congrArg nI (cnt_f (p := (rkP z.1 z.2.2.2.2.2.2.2.2.2.2.2.1 t2)) (by unfold rkP; rw [show decide (¬ t3 = t2) = false from dF (fun q => q h43)]; rfl))) ?_
              refine r_istore (pc := 62) C dX8_registerByRank_62 (by decide) ?_
              refine G.eq (pc' := 64) (vs' := [some (.ref (E.1 286)), some (.int x), some (.int (rnZ z.1 z.2.2.2.2.2.2.2.2.2.2.2.1 x t2)), some (.int (nI t2)), some (.int (nI (it (cntF (rkP z.1 z.2.2.2.2.2.2.2.2.2.2.2.1 t2)) (t3 + 1) 0))), some (.int (nI t3))]) (st' := []) ?_
              refine r_iinc (pc := 64) (v := nI (t3 + 1)) C dX8_registerByRank_64 rfl (nI_i1 _) (by decide) ?_
              refine G.eq (pc' := 67) (vs' := [some (.ref (E.1 286)), some (.int x), some (.int (rnZ z.1 z.2.2.2.2.2.2.2.2.2.2.2.1 x t2)), some (.int (nI t2)), some (.int (nI (it (cntF (rkP z.1 z.2.2.2.2.2.2.2.2.2.2.2.1 t2)) (t3 + 1) 0))), some (.int (nI (t3 + 1)))]) (st' := []) ?_
              refine r_goto (pc := 67) (tgt := 31) C dX8_registerByRank_67 (by decide) ?_
              exact ih
            · have h43 := c_ne (by omega) (by omega) h43
              refine r_aload_n (pc := 46) C dX8_registerByRank_46 rfl ?_
              refine r_iload (pc := 47) C dX8_registerByRank_47 rfl ?_
              refine r_iload_n (pc := 49) C dX8_registerByRank_49 rfl ?_
              refine r_callV (pc := 50) C dX8_registerByRank_50 cv_RX8_172 (c_X8_isRankedBefore hM hN t3 t2 (by omega) (by omega)) ⟨rfl, rfl, by decide, by decide⟩ hM.1 rfl rfl (Nat.le_of_ble_eq_true rfl) ⟨Nat.zero_le _, Nat.zero_le _⟩ ?_
              rintro _ _ ⟨_, rfl, rfl, rfl⟩
              show G M S E (0, 0) g 53 [some (.ref (E.1 286)), some (.int x), some (.int (rnZ z.1 z.2.2.2.2.2.2.2.2.2.2.2.1 x t2)), some (.int (nI t2)), some (.int (nI (it (cntF (rkP z.1 z.2.2.2.2.2.2.2.2.2.2.2.1 t2)) t3 0))), some (.int (nI t3))] [.int (b2i (rkZ z.1 z.2.2.2.2.2.2.2.2.2.2.2.1 t3 t2)), .int (nI (it (cntF (rkP z.1 z.2.2.2.2.2.2.2.2.2.2.2.1 t2)) t3 0))]
              refine r_if_eq (pc := 53) (tgt := 60) C dX8_registerByRank_53 (by decide) (fun h53 => ?_) (fun h53 => ?_)
              · have h53 := b_f h53
                refine r_iconst (pc := 60) (v := nI 0) C dX8_registerByRank_60 (by decide +kernel) ?_
                refine r_iadd (pc := 61) C dX8_registerByRank_61 ?_
                refine r_ti (nI (it (cntF (rkP z.1 z.2.2.2.2.2.2.2.2.2.2.2.1 t2)) t3 0 + 0)) (nI_add _ _) ?_
                refine r_ti (nI (it (cntF (rkP z.1 z.2.2.2.2.2.2.2.2.2.2.2.1 t2)) (t3 + 1) 0)) (congrArg nI (cnt_f (p := (rkP z.1 z.2.2.2.2.2.2.2.2.2.2.2.1 t2)) (by unfold rkP; rw [h53, Bool.and_false]))) ?_
                refine r_istore (pc := 62) C dX8_registerByRank_62 (by decide) ?_
                refine G.eq (pc' := 64) (vs' := [some (.ref (E.1 286)), some (.int x), some (.int (rnZ z.1 z.2.2.2.2.2.2.2.2.2.2.2.1 x t2)), some (.int (nI t2)), some (.int (nI (it (cntF (rkP z.1 z.2.2.2.2.2.2.2.2.2.2.2.1 t2)) (t3 + 1) 0))), some (.int (nI t3))]) (st' := []) ?_
                refine r_iinc (pc := 64) (v := nI (t3 + 1)) C dX8_registerByRank_64 rfl (nI_i1 _) (by decide) ?_
                refine G.eq (pc' := 67) (vs' := [some (.ref (E.1 286)), some (.int x), some (.int (rnZ z.1 z.2.2.2.2.2.2.2.2.2.2.2.1 x t2)), some (.int (nI t2)), some (.int (nI (it (cntF (rkP z.1 z.2.2.2.2.2.2.2.2.2.2.2.1 t2)) (t3 + 1) 0))), some (.int (nI (t3 + 1)))]) (st' := []) ?_
                refine r_goto (pc := 67) (tgt := 31) C dX8_registerByRank_67 (by decide) ?_
                exact ih
              · have h53 := b_t h53
                refine r_iconst (pc := 56) (v := nI 1) C dX8_registerByRank_56 (by decide +kernel) ?_
                refine r_goto (pc := 57) (tgt := 61) C dX8_registerByRank_57 (by decide) ?_
                refine r_iadd (pc := 61) C dX8_registerByRank_61 ?_
                refine r_ti (nI (it (cntF (rkP z.1 z.2.2.2.2.2.2.2.2.2.2.2.1 t2)) t3 0 + 1)) (nI_add _ _) ?_
                refine r_ti (nI (it (cntF (rkP z.1 z.2.2.2.2.2.2.2.2.2.2.2.1 t2)) (t3 + 1) 0)) (congrArg nI (cnt_t (p := (rkP z.1 z.2.2.2.2.2.2.2.2.2.2.2.1 t2)) (by unfold rkP; rw [show decide (¬ t3 = t2) = true from dT h43, h53]; rfl))) ?_
                refine r_istore (pc := 62) C dX8_registerByRank_62 (by decide) ?_
                refine G.eq (pc' := 64) (vs' := [some (.ref (E.1 286)), some (.int x), some (.int (rnZ z.1 z.2.2.2.2.2.2.2.2.2.2.2.1 x t2)), some (.int (nI t2)), some (.int (nI (it (cntF (rkP z.1 z.2.2.2.2.2.2.2.2.2.2.2.1 t2)) (t3 + 1) 0))), some (.int (nI t3))]) (st' := []) ?_
                refine r_iinc (pc := 64) (v := nI (t3 + 1)) C dX8_registerByRank_64 rfl (nI_i1 _) (by decide) ?_
                refine G.eq (pc' := 67) (vs' := [some (.ref (E.1 286)), some (.int x), some (.int (rnZ z.1 z.2.2.2.2.2.2.2.2.2.2.2.1 x t2)), some (.int (nI t2)), some (.int (nI (it (cntF (rkP z.1 z.2.2.2.2.2.2.2.2.2.2.2.1 t2)) (t3 + 1) 0))), some (.int (nI (t3 + 1)))]) (st' := []) ?_
                refine r_goto (pc := 67) (tgt := 31) C dX8_registerByRank_67 (by decide) ?_
                exact ih
  · have h9 := b_f h9
    refine r_iconst (pc := 12) (v := (-1)) C dX8_registerByRank_12 (by decide +kernel) ?_
    exact r_iret (pc := 13) C Z dX8_registerByRank_13 rfl (by rw [show qRnk z x = -1 by simp only [qRnk, h9, cond_true, cond_false, if_true, if_false, not_true_eq_false, not_false_eq_true, ↓reduceIte]]; exact ⟨rfl, rfl⟩)
set_option maxHeartbeats 4000000 in
set_option maxRecDepth 100000 in
theorem c_X8_statistic {S : ST} {E : ET} {g : Nat → va_E} {z : MZ} (hM : MC S E g z) (h4 : 4 ≤ z.1) (hN : z.1 ≤ 24) (x y : Int32) : CtI S E yX8_statistic cX8_statistic 13 (Option.some FieldType.int) rmX8_statistic [.ref (E.1 286), .int x, .int y] g (fun u g' => u = qSta z x y ∧ g = g') := by
  refine Ct.of RX8 (by decide +kernel) rfl (Nat.le_of_ble_eq_true rfl) (fun M C Z => ?_)
  refine G.eq (pc' := 0) (vs' := [some (.ref (E.1 286)), some (.int x), some (.int y), none, none, none, none, none, none, none, none, none, none]) (st' := []) ?_
  refine r_iload_n (pc := 0) C dX8_statistic_0 rfl ?_
  refine r_callS (pc := 1) C dX8_statistic_1 cs_RX8_112 (c_X8_isRegister x) ⟨rfl, rfl, by decide, by decide⟩ rfl rfl (Nat.le_of_ble_eq_true rfl) ⟨Nat.zero_le _, Nat.zero_le _⟩ ?_
  rintro _ _ ⟨_, rfl, rfl, rfl⟩
  show G M S E (0, 0) g 4 [some (.ref (E.1 286)), some (.int x), some (.int y), none, none, none, none, none, none, none, none, none, none] [.int (b2i (hix 6 x))]
  refine r_if_ne (pc := 4) (tgt := 10) C dX8_statistic_4 (by decide) (fun h4 => ?_) (fun h4 => ?_)
  · have h4 := b_t h4
    refine r_iload_n (pc := 10) C dX8_statistic_10 rfl ?_
    refine r_i2l (pc := 11) C dX8_statistic_11 ?_
    refine r_lconst (pc := 12) (v := 0) C dX8_statistic_12 rfl ?_
    refine r_ldc2 (pc := 13) C dX8_statistic_13 qK_RX8_105 ?_
    refine r_callS (pc := 16) C dX8_statistic_16 cs_RX8_7 (c_X8_isBetween y.toInt64 0 4) ⟨rfl, rfl, by decide, by decide⟩ rfl rfl (Nat.le_of_ble_eq_true rfl) ⟨Nat.zero_le _, Nat.zero_le _⟩ ?_
    rintro _ _ ⟨_, rfl, rfl, rfl⟩
    show G M S E (0, 0) g 19 [some (.ref (E.1 286)), some (.int x), some (.int y), none, none, none, none, none, none, none, none, none, none] [.int (b2i (btw y.toInt64 0 4))]
    refine r_if_ne (pc := 19) (tgt := 24) C dX8_statistic_19 (by decide) (fun h19 => ?_) (fun h19 => ?_)
    · have h19 := b_t h19
      obtain ⟨a, rfl, ha⟩ := hix_nat h4 (by omega)
      obtain ⟨k, rfl, hk0, hk1, hk⟩ := btw_nat (p := 0) (q := 4) h19 (by decide) (by decide)
      refine r_lconst (pc := 24) (v := 0) C dX8_statistic_24 rfl ?_
      refine r_lstore_n (pc := 25) C dX8_statistic_25 (by decide) ?_
      refine G.eq (pc' := 26) (vs' := [some (.ref (E.1 286)), some (.int (nI a)), some (.int (nI k)), some (.long 0), none, none, none, none, none, none, none, none, none]) (st' := []) ?_
      refine r_lconst (pc := 26) (v := 0) C dX8_statistic_26 rfl ?_
      refine r_lstore (pc := 27) C dX8_statistic_27 (by decide) ?_
      refine G.eq (pc' := 29) (vs' := [some (.ref (E.1 286)), some (.int (nI a)), some (.int (nI k)), some (.long 0), none, some (.long 0), none, none, none, none, none, none, none]) (st' := []) ?_
      refine r_ldc2 (pc := 29) C dX8_statistic_29 qK_RX8_116 ?_
      refine r_lstore (pc := 32) C dX8_statistic_32 (by decide) ?_
      refine G.eq (pc' := 34) (vs' := [some (.ref (E.1 286)), some (.int (nI a)), some (.int (nI k)), some (.long 0), none, some (.long 0), none, some (.long (-9223372036854775808)), none, none, none, none, none]) (st' := []) ?_
      refine r_iconst (pc := 34) (v := nI 0) C dX8_statistic_34 (by decide +kernel) ?_
      refine r_istore (pc := 35) C dX8_statistic_35 (by decide) ?_
      refine G.eq (pc' := 37) (vs' := [some (.ref (E.1 286)), some (.int (nI a)), some (.int (nI k)), some (.long 0), none, some (.long 0), none, some (.long (-9223372036854775808)), none, some (.int (nI 0)), none, none, none]) (st' := []) ?_
      refine bk (P := fun t2 => G M S E (0, 0) g 37 [some (.ref (E.1 286)), some (.int (nI a)), some (.int (nI k)), some (.long ((staZ z.2.2.2.2.2.2.2.2.2.2.2.1 a k t2).1)), none, some (.long ((staZ z.2.2.2.2.2.2.2.2.2.2.2.1 a k t2).2.1)), none, some (.long ((staZ z.2.2.2.2.2.2.2.2.2.2.2.1 a k t2).2.2)), none, some (.int (nI t2)), none, none, none] []) (T := z.1) ?_ (fun t2 ht ih => ?_)
      · show G M S E (0, 0) g 37 [some (.ref (E.1 286)), some (.int (nI a)), some (.int (nI k)), some (.long ((staZ z.2.2.2.2.2.2.2.2.2.2.2.1 a k z.1).1)), none, some (.long ((staZ z.2.2.2.2.2.2.2.2.2.2.2.1 a k z.1).2.1)), none, some (.long ((staZ z.2.2.2.2.2.2.2.2.2.2.2.1 a k z.1).2.2)), none, some (.int (nI z.1)), none, none, none] []
        refine r_iload (pc := 37) C dX8_statistic_37 rfl ?_
        refine r_aload_n (pc := 39) C dX8_statistic_39 rfl ?_
        refine r_getf (pc := 40) C dX8_statistic_40 fl_RX8_17 hM.1 rfl ?_
        refine r_icmp_ge (pc := 43) (tgt := 220) C dX8_statistic_43 (by decide) (fun h43 => ?_) (fun h43 => ?_)
        · have h43 := c_le (by omega) (by omega) h43
          refine r_lload_n (pc := 220) C dX8_statistic_220 rfl ?_
          refine r_l2i (pc := 221) C dX8_statistic_221 ?_
          exact r_iret (pc := 222) C Z dX8_statistic_222 rfl (by rw [show qSta z (nI a) (nI k) = (staZ z.2.2.2.2.2.2.2.2.2.2.2.1 a k z.1).1.toInt32 by simp only [qSta, h4, h19, iN_nI (show a < 2 ^ 31 by omega), iN_nI hk, cond_true, cond_false, if_true, if_false, not_true_eq_false, not_false_eq_true, ↓reduceIte]]; exact ⟨rfl, rfl⟩)
        · have h43 := c_nle (by omega) (by omega) h43
          omega
      · show G M S E (0, 0) g 37 [some (.ref (E.1 286)), some (.int (nI a)), some (.int (nI k)), some (.long ((staZ z.2.2.2.2.2.2.2.2.2.2.2.1 a k t2).1)), none, some (.long ((staZ z.2.2.2.2.2.2.2.2.2.2.2.1 a k t2).2.1)), none, some (.long ((staZ z.2.2.2.2.2.2.2.2.2.2.2.1 a k t2).2.2)), none, some (.int (nI t2)), none, none, none] []
        refine r_iload (pc := 37) C dX8_statistic_37 rfl ?_
        refine r_aload_n (pc := 39) C dX8_statistic_39 rfl ?_
        refine r_getf (pc := 40) C dX8_statistic_40 fl_RX8_17 hM.1 rfl ?_
        refine r_icmp_ge (pc := 43) (tgt := 220) C dX8_statistic_43 (by decide) (fun h43 => ?_) (fun h43 => ?_)
        · have h43 := c_le (by omega) (by omega) h43
          omega
        · have h43 := c_nle (by omega) (by omega) h43
          refine r_aload_n (pc := 46) C dX8_statistic_46 rfl ?_
          refine r_getf (pc := 47) C dX8_statistic_47 fl_RX8_21 hM.1 rfl ?_
          refine r_bipush (pc := 50) (v := nI 24) C dX8_statistic_50 (by decide +kernel) ?_
          refine r_iload_n (pc := 52) C dX8_statistic_52 rfl ?_
          refine r_imul (pc := 53) C dX8_statistic_53 ?_
          refine r_ti (nI (24 * a)) (pk_mul _ _) ?_
          refine r_iload (pc := 54) C dX8_statistic_54 rfl ?_
          refine r_iadd (pc := 56) C dX8_statistic_56 ?_
          refine r_ti (nI (24 * a + t2)) (nI_add _ _) ?_
          refine r_lald (pc := 57) C dX8_statistic_57 hM.2.1 rfl (by omega) (by omega) ?_
          refine r_lstore (pc := 58) C dX8_statistic_58 (by decide) ?_
          refine G.eq (pc' := 60) (vs' := [some (.ref (E.1 286)), some (.int (nI a)), some (.int (nI k)), some (.long ((staZ z.2.2.2.2.2.2.2.2.2.2.2.1 a k t2).1)), none, some (.long ((staZ z.2.2.2.2.2.2.2.2.2.2.2.1 a k t2).2.1)), none, some (.long ((staZ z.2.2.2.2.2.2.2.2.2.2.2.1 a k t2).2.2)), none, some (.int (nI t2)), some (.long (z.2.2.2.2.2.2.2.2.2.2.2.1 (24 * a + t2))), none, none]) (st' := []) ?_
          have k181 : G M S E (0, 0) g 181 [some (.ref (E.1 286)), some (.int (nI a)), some (.int (nI k)), some (.long (staC k ((z.2.2.2.2.2.2.2.2.2.2.2.1 (24 * a + t2))) ((staZ z.2.2.2.2.2.2.2.2.2.2.2.1 a k t2).2.1) ((staZ z.2.2.2.2.2.2.2.2.2.2.2.1 a k t2).2.2) ((staZ z.2.2.2.2.2.2.2.2.2.2.2.1 a k t2).1))), none, some (.long ((staZ z.2.2.2.2.2.2.2.2.2.2.2.1 a k t2).2.1)), none, some (.long ((staZ z.2.2.2.2.2.2.2.2.2.2.2.1 a k t2).2.2)), none, some (.int (nI t2)), some (.long (z.2.2.2.2.2.2.2.2.2.2.2.1 (24 * a + t2))), none, none] [] := by
            refine r_lload (pc := 181) C dX8_statistic_181 rfl ?_
            refine r_lconst (pc := 183) (v := 0) C dX8_statistic_183 rfl ?_
            refine r_lcmp (pc := 184) C dX8_statistic_184 ?_
            refine r_if_eq (pc := 185) (tgt := 193) C dX8_statistic_185 (by decide) (fun h185 => ?_) (fun h185 => ?_)
            · have h185 := k_eq h185
              refine r_lload (pc := 193) C dX8_statistic_193 rfl ?_
              refine r_tl (if z.2.2.2.2.2.2.2.2.2.2.2.1 (24 * a + t2) = 0 then (staZ z.2.2.2.2.2.2.2.2.2.2.2.1 a k t2).2.1 else z.2.2.2.2.2.2.2.2.2.2.2.1 (24 * a + t2)) (if_pos h185).symm ?_
              refine r_lstore (pc := 195) C dX8_statistic_195 (by decide) ?_
              refine G.eq (pc' := 197) (vs' := [some (.ref (E.1 286)), some (.int (nI a)), some (.int (nI k)), some (.long (staC k ((z.2.2.2.2.2.2.2.2.2.2.2.1 (24 * a + t2))) ((staZ z.2.2.2.2.2.2.2.2.2.2.2.1 a k t2).2.1) ((staZ z.2.2.2.2.2.2.2.2.2.2.2.1 a k t2).2.2) ((staZ z.2.2.2.2.2.2.2.2.2.2.2.1 a k t2).1))), none, some (.long (if z.2.2.2.2.2.2.2.2.2.2.2.1 (24 * a + t2) = 0 then (staZ z.2.2.2.2.2.2.2.2.2.2.2.1 a k t2).2.1 else z.2.2.2.2.2.2.2.2.2.2.2.1 (24 * a + t2))), none, some (.long ((staZ z.2.2.2.2.2.2.2.2.2.2.2.1 a k t2).2.2)), none, some (.int (nI t2)), some (.long (z.2.2.2.2.2.2.2.2.2.2.2.1 (24 * a + t2))), none, none]) (st' := []) ?_
              refine r_lload (pc := 197) C dX8_statistic_197 rfl ?_
              refine r_lload (pc := 199) C dX8_statistic_199 rfl ?_
              refine r_lcmp (pc := 201) C dX8_statistic_201 ?_
              refine r_if_le (pc := 202) (tgt := 210) C dX8_statistic_202 (by decide) (fun h202 => ?_) (fun h202 => ?_)
              · have h202 := k_le h202
                refine r_lload (pc := 210) C dX8_statistic_210 rfl ?_
                refine r_tl (if (staZ z.2.2.2.2.2.2.2.2.2.2.2.1 a k t2).2.2 < z.2.2.2.2.2.2.2.2.2.2.2.1 (24 * a + t2) then z.2.2.2.2.2.2.2.2.2.2.2.1 (24 * a + t2) else (staZ z.2.2.2.2.2.2.2.2.2.2.2.1 a k t2).2.2) (if_neg h202).symm ?_
                refine r_lstore (pc := 212) C dX8_statistic_212 (by decide) ?_
                refine G.eq (pc' := 214) (vs' := [some (.ref (E.1 286)), some (.int (nI a)), some (.int (nI k)), some (.long (staC k ((z.2.2.2.2.2.2.2.2.2.2.2.1 (24 * a + t2))) ((staZ z.2.2.2.2.2.2.2.2.2.2.2.1 a k t2).2.1) ((staZ z.2.2.2.2.2.2.2.2.2.2.2.1 a k t2).2.2) ((staZ z.2.2.2.2.2.2.2.2.2.2.2.1 a k t2).1))), none, some (.long (if z.2.2.2.2.2.2.2.2.2.2.2.1 (24 * a + t2) = 0 then (staZ z.2.2.2.2.2.2.2.2.2.2.2.1 a k t2).2.1 else z.2.2.2.2.2.2.2.2.2.2.2.1 (24 * a + t2))), none, some (.long (if (staZ z.2.2.2.2.2.2.2.2.2.2.2.1 a k t2).2.2 < z.2.2.2.2.2.2.2.2.2.2.2.1 (24 * a + t2) then z.2.2.2.2.2.2.2.2.2.2.2.1 (24 * a + t2) else (staZ z.2.2.2.2.2.2.2.2.2.2.2.1 a k t2).2.2)), none, some (.int (nI t2)), some (.long (z.2.2.2.2.2.2.2.2.2.2.2.1 (24 * a + t2))), none, none]) (st' := []) ?_
                refine r_iinc (pc := 214) (v := nI (t2 + 1)) C dX8_statistic_214 rfl (nI_i1 _) (by decide) ?_
                refine G.eq (pc' := 217) (vs' := [some (.ref (E.1 286)), some (.int (nI a)), some (.int (nI k)), some (.long (staC k ((z.2.2.2.2.2.2.2.2.2.2.2.1 (24 * a + t2))) ((staZ z.2.2.2.2.2.2.2.2.2.2.2.1 a k t2).2.1) ((staZ z.2.2.2.2.2.2.2.2.2.2.2.1 a k t2).2.2) ((staZ z.2.2.2.2.2.2.2.2.2.2.2.1 a k t2).1))), none, some (.long (if z.2.2.2.2.2.2.2.2.2.2.2.1 (24 * a + t2) = 0 then (staZ z.2.2.2.2.2.2.2.2.2.2.2.1 a k t2).2.1 else z.2.2.2.2.2.2.2.2.2.2.2.1 (24 * a + t2))), none, some (.long (if (staZ z.2.2.2.2.2.2.2.2.2.2.2.1 a k t2).2.2 < z.2.2.2.2.2.2.2.2.2.2.2.1 (24 * a + t2) then z.2.2.2.2.2.2.2.2.2.2.2.1 (24 * a + t2) else (staZ z.2.2.2.2.2.2.2.2.2.2.2.1 a k t2).2.2)), none, some (.int (nI (t2 + 1))), some (.long (z.2.2.2.2.2.2.2.2.2.2.2.1 (24 * a + t2))), none, none]) (st' := []) ?_
                refine r_goto (pc := 217) (tgt := 37) C dX8_statistic_217 (by decide) ?_
                rw [staZ_s] at ih
                refine G.wk (vs' := [some (.ref (E.1 286)), some (.int (nI a)), some (.int (nI k)), some (.long (staC k ((z.2.2.2.2.2.2.2.2.2.2.2.1 (24 * a + t2))) ((staZ z.2.2.2.2.2.2.2.2.2.2.2.1 a k t2).2.1) ((staZ z.2.2.2.2.2.2.2.2.2.2.2.1 a k t2).2.2) ((staZ z.2.2.2.2.2.2.2.2.2.2.2.1 a k t2).1))), none, some (.long (if z.2.2.2.2.2.2.2.2.2.2.2.1 (24 * a + t2) = 0 then (staZ z.2.2.2.2.2.2.2.2.2.2.2.1 a k t2).2.1 else z.2.2.2.2.2.2.2.2.2.2.2.1 (24 * a + t2))), none, some (.long (if (staZ z.2.2.2.2.2.2.2.2.2.2.2.1 a k t2).2.2 < z.2.2.2.2.2.2.2.2.2.2.2.1 (24 * a + t2) then z.2.2.2.2.2.2.2.2.2.2.2.1 (24 * a + t2) else (staZ z.2.2.2.2.2.2.2.2.2.2.2.1 a k t2).2.2)), none, some (.int (nI (t2 + 1))), none, none, none]) ⟨rfl, rfl, rfl, rfl, rfl, rfl, rfl, trivial⟩ ?_
                exact ih
              · have h202 := k_nle h202
                refine r_lload (pc := 205) C dX8_statistic_205 rfl ?_
                refine r_goto (pc := 207) (tgt := 212) C dX8_statistic_207 (by decide) ?_
                refine r_tl (if (staZ z.2.2.2.2.2.2.2.2.2.2.2.1 a k t2).2.2 < z.2.2.2.2.2.2.2.2.2.2.2.1 (24 * a + t2) then z.2.2.2.2.2.2.2.2.2.2.2.1 (24 * a + t2) else (staZ z.2.2.2.2.2.2.2.2.2.2.2.1 a k t2).2.2) (if_pos h202).symm ?_
                refine r_lstore (pc := 212) C dX8_statistic_212 (by decide) ?_
                refine G.eq (pc' := 214) (vs' := [some (.ref (E.1 286)), some (.int (nI a)), some (.int (nI k)), some (.long (staC k ((z.2.2.2.2.2.2.2.2.2.2.2.1 (24 * a + t2))) ((staZ z.2.2.2.2.2.2.2.2.2.2.2.1 a k t2).2.1) ((staZ z.2.2.2.2.2.2.2.2.2.2.2.1 a k t2).2.2) ((staZ z.2.2.2.2.2.2.2.2.2.2.2.1 a k t2).1))), none, some (.long (if z.2.2.2.2.2.2.2.2.2.2.2.1 (24 * a + t2) = 0 then (staZ z.2.2.2.2.2.2.2.2.2.2.2.1 a k t2).2.1 else z.2.2.2.2.2.2.2.2.2.2.2.1 (24 * a + t2))), none, some (.long (if (staZ z.2.2.2.2.2.2.2.2.2.2.2.1 a k t2).2.2 < z.2.2.2.2.2.2.2.2.2.2.2.1 (24 * a + t2) then z.2.2.2.2.2.2.2.2.2.2.2.1 (24 * a + t2) else (staZ z.2.2.2.2.2.2.2.2.2.2.2.1 a k t2).2.2)), none, some (.int (nI t2)), some (.long (z.2.2.2.2.2.2.2.2.2.2.2.1 (24 * a + t2))), none, none]) (st' := []) ?_
                refine r_iinc (pc := 214) (v := nI (t2 + 1)) C dX8_statistic_214 rfl (nI_i1 _) (by decide) ?_
                refine G.eq (pc' := 217) (vs' := [some (.ref (E.1 286)), some (.int (nI a)), some (.int (nI k)), some (.long (staC k ((z.2.2.2.2.2.2.2.2.2.2.2.1 (24 * a + t2))) ((staZ z.2.2.2.2.2.2.2.2.2.2.2.1 a k t2).2.1) ((staZ z.2.2.2.2.2.2.2.2.2.2.2.1 a k t2).2.2) ((staZ z.2.2.2.2.2.2.2.2.2.2.2.1 a k t2).1))), none, some (.long (if z.2.2.2.2.2.2.2.2.2.2.2.1 (24 * a + t2) = 0 then (staZ z.2.2.2.2.2.2.2.2.2.2.2.1 a k t2).2.1 else z.2.2.2.2.2.2.2.2.2.2.2.1 (24 * a + t2))), none, some (.long (if (staZ z.2.2.2.2.2.2.2.2.2.2.2.1 a k t2).2.2 < z.2.2.2.2.2.2.2.2.2.2.2.1 (24 * a + t2) then z.2.2.2.2.2.2.2.2.2.2.2.1 (24 * a + t2) else (staZ z.2.2.2.2.2.2.2.2.2.2.2.1 a k t2).2.2)), none, some (.int (nI (t2 + 1))), some (.long (z.2.2.2.2.2.2.2.2.2.2.2.1 (24 * a + t2))), none, none]) (st' := []) ?_
                refine r_goto (pc := 217) (tgt := 37) C dX8_statistic_217 (by decide) ?_
                rw [staZ_s] at ih
                refine G.wk (vs' := [some (.ref (E.1 286)), some (.int (nI a)), some (.int (nI k)), some (.long (staC k ((z.2.2.2.2.2.2.2.2.2.2.2.1 (24 * a + t2))) ((staZ z.2.2.2.2.2.2.2.2.2.2.2.1 a k t2).2.1) ((staZ z.2.2.2.2.2.2.2.2.2.2.2.1 a k t2).2.2) ((staZ z.2.2.2.2.2.2.2.2.2.2.2.1 a k t2).1))), none, some (.long (if z.2.2.2.2.2.2.2.2.2.2.2.1 (24 * a + t2) = 0 then (staZ z.2.2.2.2.2.2.2.2.2.2.2.1 a k t2).2.1 else z.2.2.2.2.2.2.2.2.2.2.2.1 (24 * a + t2))), none, some (.long (if (staZ z.2.2.2.2.2.2.2.2.2.2.2.1 a k t2).2.2 < z.2.2.2.2.2.2.2.2.2.2.2.1 (24 * a + t2) then z.2.2.2.2.2.2.2.2.2.2.2.1 (24 * a + t2) else (staZ z.2.2.2.2.2.2.2.2.2.2.2.1 a k t2).2.2)), none, some (.int (nI (t2 + 1))), none, none, none]) ⟨rfl, rfl, rfl, rfl, rfl, rfl, rfl, trivial⟩ ?_
                exact ih
            · have h185 := k_ne h185
              refine r_lload (pc := 188) C dX8_statistic_188 rfl ?_
              refine r_goto (pc := 190) (tgt := 195) C dX8_statistic_190 (by decide) ?_
              refine r_tl (if z.2.2.2.2.2.2.2.2.2.2.2.1 (24 * a + t2) = 0 then (staZ z.2.2.2.2.2.2.2.2.2.2.2.1 a k t2).2.1 else z.2.2.2.2.2.2.2.2.2.2.2.1 (24 * a + t2)) (if_neg h185).symm ?_
              refine r_lstore (pc := 195) C dX8_statistic_195 (by decide) ?_
              refine G.eq (pc' := 197) (vs' := [some (.ref (E.1 286)), some (.int (nI a)), some (.int (nI k)), some (.long (staC k ((z.2.2.2.2.2.2.2.2.2.2.2.1 (24 * a + t2))) ((staZ z.2.2.2.2.2.2.2.2.2.2.2.1 a k t2).2.1) ((staZ z.2.2.2.2.2.2.2.2.2.2.2.1 a k t2).2.2) ((staZ z.2.2.2.2.2.2.2.2.2.2.2.1 a k t2).1))), none, some (.long (if z.2.2.2.2.2.2.2.2.2.2.2.1 (24 * a + t2) = 0 then (staZ z.2.2.2.2.2.2.2.2.2.2.2.1 a k t2).2.1 else z.2.2.2.2.2.2.2.2.2.2.2.1 (24 * a + t2))), none, some (.long ((staZ z.2.2.2.2.2.2.2.2.2.2.2.1 a k t2).2.2)), none, some (.int (nI t2)), some (.long (z.2.2.2.2.2.2.2.2.2.2.2.1 (24 * a + t2))), none, none]) (st' := []) ?_
              refine r_lload (pc := 197) C dX8_statistic_197 rfl ?_
              refine r_lload (pc := 199) C dX8_statistic_199 rfl ?_
              refine r_lcmp (pc := 201) C dX8_statistic_201 ?_
              refine r_if_le (pc := 202) (tgt := 210) C dX8_statistic_202 (by decide) (fun h202 => ?_) (fun h202 => ?_)
              · have h202 := k_le h202
                refine r_lload (pc := 210) C dX8_statistic_210 rfl ?_
                refine r_tl (if (staZ z.2.2.2.2.2.2.2.2.2.2.2.1 a k t2).2.2 < z.2.2.2.2.2.2.2.2.2.2.2.1 (24 * a + t2) then z.2.2.2.2.2.2.2.2.2.2.2.1 (24 * a + t2) else (staZ z.2.2.2.2.2.2.2.2.2.2.2.1 a k t2).2.2) (if_neg h202).symm ?_
                refine r_lstore (pc := 212) C dX8_statistic_212 (by decide) ?_
                refine G.eq (pc' := 214) (vs' := [some (.ref (E.1 286)), some (.int (nI a)), some (.int (nI k)), some (.long (staC k ((z.2.2.2.2.2.2.2.2.2.2.2.1 (24 * a + t2))) ((staZ z.2.2.2.2.2.2.2.2.2.2.2.1 a k t2).2.1) ((staZ z.2.2.2.2.2.2.2.2.2.2.2.1 a k t2).2.2) ((staZ z.2.2.2.2.2.2.2.2.2.2.2.1 a k t2).1))), none, some (.long (if z.2.2.2.2.2.2.2.2.2.2.2.1 (24 * a + t2) = 0 then (staZ z.2.2.2.2.2.2.2.2.2.2.2.1 a k t2).2.1 else z.2.2.2.2.2.2.2.2.2.2.2.1 (24 * a + t2))), none, some (.long (if (staZ z.2.2.2.2.2.2.2.2.2.2.2.1 a k t2).2.2 < z.2.2.2.2.2.2.2.2.2.2.2.1 (24 * a + t2) then z.2.2.2.2.2.2.2.2.2.2.2.1 (24 * a + t2) else (staZ z.2.2.2.2.2.2.2.2.2.2.2.1 a k t2).2.2)), none, some (.int (nI t2)), some (.long (z.2.2.2.2.2.2.2.2.2.2.2.1 (24 * a + t2))), none, none]) (st' := []) ?_
                refine r_iinc (pc := 214) (v := nI (t2 + 1)) C dX8_statistic_214 rfl (nI_i1 _) (by decide) ?_
                refine G.eq (pc' := 217) (vs' := [some (.ref (E.1 286)), some (.int (nI a)), some (.int (nI k)), some (.long (staC k ((z.2.2.2.2.2.2.2.2.2.2.2.1 (24 * a + t2))) ((staZ z.2.2.2.2.2.2.2.2.2.2.2.1 a k t2).2.1) ((staZ z.2.2.2.2.2.2.2.2.2.2.2.1 a k t2).2.2) ((staZ z.2.2.2.2.2.2.2.2.2.2.2.1 a k t2).1))), none, some (.long (if z.2.2.2.2.2.2.2.2.2.2.2.1 (24 * a + t2) = 0 then (staZ z.2.2.2.2.2.2.2.2.2.2.2.1 a k t2).2.1 else z.2.2.2.2.2.2.2.2.2.2.2.1 (24 * a + t2))), none, some (.long (if (staZ z.2.2.2.2.2.2.2.2.2.2.2.1 a k t2).2.2 < z.2.2.2.2.2.2.2.2.2.2.2.1 (24 * a + t2) then z.2.2.2.2.2.2.2.2.2.2.2.1 (24 * a + t2) else (staZ z.2.2.2.2.2.2.2.2.2.2.2.1 a k t2).2.2)), none, some (.int (nI (t2 + 1))), some (.long (z.2.2.2.2.2.2.2.2.2.2.2.1 (24 * a + t2))), none, none]) (st' := []) ?_
                refine r_goto (pc := 217) (tgt := 37) C dX8_statistic_217 (by decide) ?_
                rw [staZ_s] at ih
                refine G.wk (vs' := [some (.ref (E.1 286)), some (.int (nI a)), some (.int (nI k)), some (.long (staC k ((z.2.2.2.2.2.2.2.2.2.2.2.1 (24 * a + t2))) ((staZ z.2.2.2.2.2.2.2.2.2.2.2.1 a k t2).2.1) ((staZ z.2.2.2.2.2.2.2.2.2.2.2.1 a k t2).2.2) ((staZ z.2.2.2.2.2.2.2.2.2.2.2.1 a k t2).1))), none, some (.long (if z.2.2.2.2.2.2.2.2.2.2.2.1 (24 * a + t2) = 0 then (staZ z.2.2.2.2.2.2.2.2.2.2.2.1 a k t2).2.1 else z.2.2.2.2.2.2.2.2.2.2.2.1 (24 * a + t2))), none, some (.long (if (staZ z.2.2.2.2.2.2.2.2.2.2.2.1 a k t2).2.2 < z.2.2.2.2.2.2.2.2.2.2.2.1 (24 * a + t2) then z.2.2.2.2.2.2.2.2.2.2.2.1 (24 * a + t2) else (staZ z.2.2.2.2.2.2.2.2.2.2.2.1 a k t2).2.2)), none, some (.int (nI (t2 + 1))), none, none, none]) ⟨rfl, rfl, rfl, rfl, rfl, rfl, rfl, trivial⟩ ?_
                exact ih
              · have h202 := k_nle h202
                refine r_lload (pc := 205) C dX8_statistic_205 rfl ?_
                refine r_goto (pc := 207) (tgt := 212) C dX8_statistic_207 (by decide) ?_
                refine r_tl (if (staZ z.2.2.2.2.2.2.2.2.2.2.2.1 a k t2).2.2 < z.2.2.2.2.2.2.2.2.2.2.2.1 (24 * a + t2) then z.2.2.2.2.2.2.2.2.2.2.2.1 (24 * a + t2) else (staZ z.2.2.2.2.2.2.2.2.2.2.2.1 a k t2).2.2) (if_pos h202).symm ?_
                refine r_lstore (pc := 212) C dX8_statistic_212 (by decide) ?_
                refine G.eq (pc' := 214) (vs' := [some (.ref (E.1 286)), some (.int (nI a)), some (.int (nI k)), some (.long (staC k ((z.2.2.2.2.2.2.2.2.2.2.2.1 (24 * a + t2))) ((staZ z.2.2.2.2.2.2.2.2.2.2.2.1 a k t2).2.1) ((staZ z.2.2.2.2.2.2.2.2.2.2.2.1 a k t2).2.2) ((staZ z.2.2.2.2.2.2.2.2.2.2.2.1 a k t2).1))), none, some (.long (if z.2.2.2.2.2.2.2.2.2.2.2.1 (24 * a + t2) = 0 then (staZ z.2.2.2.2.2.2.2.2.2.2.2.1 a k t2).2.1 else z.2.2.2.2.2.2.2.2.2.2.2.1 (24 * a + t2))), none, some (.long (if (staZ z.2.2.2.2.2.2.2.2.2.2.2.1 a k t2).2.2 < z.2.2.2.2.2.2.2.2.2.2.2.1 (24 * a + t2) then z.2.2.2.2.2.2.2.2.2.2.2.1 (24 * a + t2) else (staZ z.2.2.2.2.2.2.2.2.2.2.2.1 a k t2).2.2)), none, some (.int (nI t2)), some (.long (z.2.2.2.2.2.2.2.2.2.2.2.1 (24 * a + t2))), none, none]) (st' := []) ?_
                refine r_iinc (pc := 214) (v := nI (t2 + 1)) C dX8_statistic_214 rfl (nI_i1 _) (by decide) ?_
                refine G.eq (pc' := 217) (vs' := [some (.ref (E.1 286)), some (.int (nI a)), some (.int (nI k)), some (.long (staC k ((z.2.2.2.2.2.2.2.2.2.2.2.1 (24 * a + t2))) ((staZ z.2.2.2.2.2.2.2.2.2.2.2.1 a k t2).2.1) ((staZ z.2.2.2.2.2.2.2.2.2.2.2.1 a k t2).2.2) ((staZ z.2.2.2.2.2.2.2.2.2.2.2.1 a k t2).1))), none, some (.long (if z.2.2.2.2.2.2.2.2.2.2.2.1 (24 * a + t2) = 0 then (staZ z.2.2.2.2.2.2.2.2.2.2.2.1 a k t2).2.1 else z.2.2.2.2.2.2.2.2.2.2.2.1 (24 * a + t2))), none, some (.long (if (staZ z.2.2.2.2.2.2.2.2.2.2.2.1 a k t2).2.2 < z.2.2.2.2.2.2.2.2.2.2.2.1 (24 * a + t2) then z.2.2.2.2.2.2.2.2.2.2.2.1 (24 * a + t2) else (staZ z.2.2.2.2.2.2.2.2.2.2.2.1 a k t2).2.2)), none, some (.int (nI (t2 + 1))), some (.long (z.2.2.2.2.2.2.2.2.2.2.2.1 (24 * a + t2))), none, none]) (st' := []) ?_
                refine r_goto (pc := 217) (tgt := 37) C dX8_statistic_217 (by decide) ?_
                rw [staZ_s] at ih
                refine G.wk (vs' := [some (.ref (E.1 286)), some (.int (nI a)), some (.int (nI k)), some (.long (staC k ((z.2.2.2.2.2.2.2.2.2.2.2.1 (24 * a + t2))) ((staZ z.2.2.2.2.2.2.2.2.2.2.2.1 a k t2).2.1) ((staZ z.2.2.2.2.2.2.2.2.2.2.2.1 a k t2).2.2) ((staZ z.2.2.2.2.2.2.2.2.2.2.2.1 a k t2).1))), none, some (.long (if z.2.2.2.2.2.2.2.2.2.2.2.1 (24 * a + t2) = 0 then (staZ z.2.2.2.2.2.2.2.2.2.2.2.1 a k t2).2.1 else z.2.2.2.2.2.2.2.2.2.2.2.1 (24 * a + t2))), none, some (.long (if (staZ z.2.2.2.2.2.2.2.2.2.2.2.1 a k t2).2.2 < z.2.2.2.2.2.2.2.2.2.2.2.1 (24 * a + t2) then z.2.2.2.2.2.2.2.2.2.2.2.1 (24 * a + t2) else (staZ z.2.2.2.2.2.2.2.2.2.2.2.1 a k t2).2.2)), none, some (.int (nI (t2 + 1))), none, none, none]) ⟨rfl, rfl, rfl, rfl, rfl, rfl, rfl, trivial⟩ ?_
                exact ih
          have k93 : G M S E (0, 0) g 93 [some (.ref (E.1 286)), some (.int (nI a)), some (.int (nI k)), some (.long ((staZ z.2.2.2.2.2.2.2.2.2.2.2.1 a k t2).1)), none, some (.long ((staZ z.2.2.2.2.2.2.2.2.2.2.2.1 a k t2).2.1)), none, some (.long ((staZ z.2.2.2.2.2.2.2.2.2.2.2.1 a k t2).2.2)), none, some (.int (nI t2)), some (.long (z.2.2.2.2.2.2.2.2.2.2.2.1 (24 * a + t2))), none, none] [.int (b2i (chB (z.2.2.2.2.2.2.2.2.2.2.2.1 (24 * a + t2)) ((staZ z.2.2.2.2.2.2.2.2.2.2.2.1 a k t2).2.1)))] := by
            refine r_istore (pc := 93) C dX8_statistic_93 (by decide) ?_
            refine G.eq (pc' := 95) (vs' := [some (.ref (E.1 286)), some (.int (nI a)), some (.int (nI k)), some (.long ((staZ z.2.2.2.2.2.2.2.2.2.2.2.1 a k t2).1)), none, some (.long ((staZ z.2.2.2.2.2.2.2.2.2.2.2.1 a k t2).2.1)), none, some (.long ((staZ z.2.2.2.2.2.2.2.2.2.2.2.1 a k t2).2.2)), none, some (.int (nI t2)), some (.long (z.2.2.2.2.2.2.2.2.2.2.2.1 (24 * a + t2))), none, some (.int (b2i (chB (z.2.2.2.2.2.2.2.2.2.2.2.1 (24 * a + t2)) ((staZ z.2.2.2.2.2.2.2.2.2.2.2.1 a k t2).2.1))))]) (st' := []) ?_
            refine r_iload_n (pc := 95) C dX8_statistic_95 rfl ?_
            refine r_iconst (pc := 96) (v := nI 3) C dX8_statistic_96 (by decide +kernel) ?_
            refine r_icmp_ne (pc := 97) (tgt := 123) C dX8_statistic_97 (by decide) (fun h97 => ?_) (fun h97 => ?_)
            · have h97 := c_ne (by omega) (by omega) h97
              refine r_lload_n (pc := 123) C dX8_statistic_123 rfl ?_
              refine r_iload_n (pc := 124) C dX8_statistic_124 rfl ?_
              refine r_if_ne (pc := 125) (tgt := 138) C dX8_statistic_125 (by decide) (fun h125 => ?_) (fun h125 => ?_)
              · have h125 := z_ne (by omega) h125
                refine r_iload_n (pc := 138) C dX8_statistic_138 rfl ?_
                refine r_iconst (pc := 139) (v := nI 1) C dX8_statistic_139 (by decide +kernel) ?_
                refine r_icmp_ne (pc := 140) (tgt := 153) C dX8_statistic_140 (by decide) (fun h140 => ?_) (fun h140 => ?_)
                · have h140 := c_ne (by omega) (by omega) h140
                  refine r_iload_n (pc := 153) C dX8_statistic_153 rfl ?_
                  refine r_iconst (pc := 154) (v := nI 2) C dX8_statistic_154 (by decide +kernel) ?_
                  refine r_icmp_ne (pc := 155) (tgt := 166) C dX8_statistic_155 (by decide) (fun h155 => ?_) (fun h155 => ?_)
                  · have h155 := c_ne (by omega) (by omega) h155
                    refine r_lload (pc := 166) C dX8_statistic_166 rfl ?_
                    refine r_lload (pc := 168) C dX8_statistic_168 rfl ?_
                    refine r_lcmp (pc := 170) C dX8_statistic_170 ?_
                    refine r_if_le (pc := 171) (tgt := 178) C dX8_statistic_171 (by decide) (fun h171 => ?_) (fun h171 => ?_)
                    · have h171 := k_le h171
                      refine r_lconst (pc := 178) (v := 0) C dX8_statistic_178 rfl ?_
                      refine r_ladd (pc := 179) C dX8_statistic_179 ?_
                      refine r_tl (staC k ((z.2.2.2.2.2.2.2.2.2.2.2.1 (24 * a + t2))) ((staZ z.2.2.2.2.2.2.2.2.2.2.2.1 a k t2).2.1) ((staZ z.2.2.2.2.2.2.2.2.2.2.2.1 a k t2).2.2) ((staZ z.2.2.2.2.2.2.2.2.2.2.2.1 a k t2).1)) (by unfold staC; rw [if_neg h97, show staB k ((z.2.2.2.2.2.2.2.2.2.2.2.1 (24 * a + t2))) ((staZ z.2.2.2.2.2.2.2.2.2.2.2.1 a k t2).2.1) ((staZ z.2.2.2.2.2.2.2.2.2.2.2.1 a k t2).2.2) = false by unfold staB; rw [if_neg h125, if_neg h140, if_neg h155]; exact dF h171]; rfl) ?_
                      refine r_lstore_n (pc := 180) C dX8_statistic_180 (by decide) ?_
                      refine G.eq (pc' := 181) (vs' := [some (.ref (E.1 286)), some (.int (nI a)), some (.int (nI k)), some (.long (staC k ((z.2.2.2.2.2.2.2.2.2.2.2.1 (24 * a + t2))) ((staZ z.2.2.2.2.2.2.2.2.2.2.2.1 a k t2).2.1) ((staZ z.2.2.2.2.2.2.2.2.2.2.2.1 a k t2).2.2) ((staZ z.2.2.2.2.2.2.2.2.2.2.2.1 a k t2).1))), none, some (.long ((staZ z.2.2.2.2.2.2.2.2.2.2.2.1 a k t2).2.1)), none, some (.long ((staZ z.2.2.2.2.2.2.2.2.2.2.2.1 a k t2).2.2)), none, some (.int (nI t2)), some (.long (z.2.2.2.2.2.2.2.2.2.2.2.1 (24 * a + t2))), none, some (.int (b2i (chB (z.2.2.2.2.2.2.2.2.2.2.2.1 (24 * a + t2)) ((staZ z.2.2.2.2.2.2.2.2.2.2.2.1 a k t2).2.1))))]) (st' := []) ?_
                      refine G.wk (vs' := [some (.ref (E.1 286)), some (.int (nI a)), some (.int (nI k)), some (.long (staC k ((z.2.2.2.2.2.2.2.2.2.2.2.1 (24 * a + t2))) ((staZ z.2.2.2.2.2.2.2.2.2.2.2.1 a k t2).2.1) ((staZ z.2.2.2.2.2.2.2.2.2.2.2.1 a k t2).2.2) ((staZ z.2.2.2.2.2.2.2.2.2.2.2.1 a k t2).1))), none, some (.long ((staZ z.2.2.2.2.2.2.2.2.2.2.2.1 a k t2).2.1)), none, some (.long ((staZ z.2.2.2.2.2.2.2.2.2.2.2.1 a k t2).2.2)), none, some (.int (nI t2)), some (.long (z.2.2.2.2.2.2.2.2.2.2.2.1 (24 * a + t2))), none, none]) ⟨rfl, rfl, rfl, rfl, rfl, rfl, rfl, rfl, trivial⟩ ?_
                      exact k181
                    · have h171 := k_nle h171
                      refine r_lconst (pc := 174) (v := 1) C dX8_statistic_174 rfl ?_
                      refine r_goto (pc := 175) (tgt := 179) C dX8_statistic_175 (by decide) ?_
                      refine r_ladd (pc := 179) C dX8_statistic_179 ?_
                      refine r_tl (staC k ((z.2.2.2.2.2.2.2.2.2.2.2.1 (24 * a + t2))) ((staZ z.2.2.2.2.2.2.2.2.2.2.2.1 a k t2).2.1) ((staZ z.2.2.2.2.2.2.2.2.2.2.2.1 a k t2).2.2) ((staZ z.2.2.2.2.2.2.2.2.2.2.2.1 a k t2).1)) (by unfold staC; rw [if_neg h97, show staB k ((z.2.2.2.2.2.2.2.2.2.2.2.1 (24 * a + t2))) ((staZ z.2.2.2.2.2.2.2.2.2.2.2.1 a k t2).2.1) ((staZ z.2.2.2.2.2.2.2.2.2.2.2.1 a k t2).2.2) = true by unfold staB; rw [if_neg h125, if_neg h140, if_neg h155]; exact dT h171]; rfl) ?_
                      refine r_lstore_n (pc := 180) C dX8_statistic_180 (by decide) ?_
                      refine G.eq (pc' := 181) (vs' := [some (.ref (E.1 286)), some (.int (nI a)), some (.int (nI k)), some (.long (staC k ((z.2.2.2.2.2.2.2.2.2.2.2.1 (24 * a + t2))) ((staZ z.2.2.2.2.2.2.2.2.2.2.2.1 a k t2).2.1) ((staZ z.2.2.2.2.2.2.2.2.2.2.2.1 a k t2).2.2) ((staZ z.2.2.2.2.2.2.2.2.2.2.2.1 a k t2).1))), none, some (.long ((staZ z.2.2.2.2.2.2.2.2.2.2.2.1 a k t2).2.1)), none, some (.long ((staZ z.2.2.2.2.2.2.2.2.2.2.2.1 a k t2).2.2)), none, some (.int (nI t2)), some (.long (z.2.2.2.2.2.2.2.2.2.2.2.1 (24 * a + t2))), none, some (.int (b2i (chB (z.2.2.2.2.2.2.2.2.2.2.2.1 (24 * a + t2)) ((staZ z.2.2.2.2.2.2.2.2.2.2.2.1 a k t2).2.1))))]) (st' := []) ?_
                      refine G.wk (vs' := [some (.ref (E.1 286)), some (.int (nI a)), some (.int (nI k)), some (.long (staC k ((z.2.2.2.2.2.2.2.2.2.2.2.1 (24 * a + t2))) ((staZ z.2.2.2.2.2.2.2.2.2.2.2.1 a k t2).2.1) ((staZ z.2.2.2.2.2.2.2.2.2.2.2.1 a k t2).2.2) ((staZ z.2.2.2.2.2.2.2.2.2.2.2.1 a k t2).1))), none, some (.long ((staZ z.2.2.2.2.2.2.2.2.2.2.2.1 a k t2).2.1)), none, some (.long ((staZ z.2.2.2.2.2.2.2.2.2.2.2.1 a k t2).2.2)), none, some (.int (nI t2)), some (.long (z.2.2.2.2.2.2.2.2.2.2.2.1 (24 * a + t2))), none, none]) ⟨rfl, rfl, rfl, rfl, rfl, rfl, rfl, rfl, trivial⟩ ?_
                      exact k181
                  · have h155 := c_eq (by omega) (by omega) h155
                    refine r_iload (pc := 158) C dX8_statistic_158 rfl ?_
                    refine r_if_eq (pc := 160) (tgt := 178) C dX8_statistic_160 (by decide) (fun h160 => ?_) (fun h160 => ?_)
                    · have h160 := b_f h160
                      refine r_lconst (pc := 178) (v := 0) C dX8_statistic_178 rfl ?_
                      refine r_ladd (pc := 179) C dX8_statistic_179 ?_
                      refine r_tl (staC k ((z.2.2.2.2.2.2.2.2.2.2.2.1 (24 * a + t2))) ((staZ z.2.2.2.2.2.2.2.2.2.2.2.1 a k t2).2.1) ((staZ z.2.2.2.2.2.2.2.2.2.2.2.1 a k t2).2.2) ((staZ z.2.2.2.2.2.2.2.2.2.2.2.1 a k t2).1)) (by unfold staC; rw [if_neg h97, show staB k ((z.2.2.2.2.2.2.2.2.2.2.2.1 (24 * a + t2))) ((staZ z.2.2.2.2.2.2.2.2.2.2.2.1 a k t2).2.1) ((staZ z.2.2.2.2.2.2.2.2.2.2.2.1 a k t2).2.2) = false by unfold staB; rw [if_neg h125, if_neg h140, if_pos h155]; exact h160]; rfl) ?_
                      refine r_lstore_n (pc := 180) C dX8_statistic_180 (by decide) ?_
                      refine G.eq (pc' := 181) (vs' := [some (.ref (E.1 286)), some (.int (nI a)), some (.int (nI k)), some (.long (staC k ((z.2.2.2.2.2.2.2.2.2.2.2.1 (24 * a + t2))) ((staZ z.2.2.2.2.2.2.2.2.2.2.2.1 a k t2).2.1) ((staZ z.2.2.2.2.2.2.2.2.2.2.2.1 a k t2).2.2) ((staZ z.2.2.2.2.2.2.2.2.2.2.2.1 a k t2).1))), none, some (.long ((staZ z.2.2.2.2.2.2.2.2.2.2.2.1 a k t2).2.1)), none, some (.long ((staZ z.2.2.2.2.2.2.2.2.2.2.2.1 a k t2).2.2)), none, some (.int (nI t2)), some (.long (z.2.2.2.2.2.2.2.2.2.2.2.1 (24 * a + t2))), none, some (.int (b2i (chB (z.2.2.2.2.2.2.2.2.2.2.2.1 (24 * a + t2)) ((staZ z.2.2.2.2.2.2.2.2.2.2.2.1 a k t2).2.1))))]) (st' := []) ?_
                      refine G.wk (vs' := [some (.ref (E.1 286)), some (.int (nI a)), some (.int (nI k)), some (.long (staC k ((z.2.2.2.2.2.2.2.2.2.2.2.1 (24 * a + t2))) ((staZ z.2.2.2.2.2.2.2.2.2.2.2.1 a k t2).2.1) ((staZ z.2.2.2.2.2.2.2.2.2.2.2.1 a k t2).2.2) ((staZ z.2.2.2.2.2.2.2.2.2.2.2.1 a k t2).1))), none, some (.long ((staZ z.2.2.2.2.2.2.2.2.2.2.2.1 a k t2).2.1)), none, some (.long ((staZ z.2.2.2.2.2.2.2.2.2.2.2.1 a k t2).2.2)), none, some (.int (nI t2)), some (.long (z.2.2.2.2.2.2.2.2.2.2.2.1 (24 * a + t2))), none, none]) ⟨rfl, rfl, rfl, rfl, rfl, rfl, rfl, rfl, trivial⟩ ?_
                      exact k181
                    · have h160 := b_t h160
                      refine r_goto (pc := 163) (tgt := 174) C dX8_statistic_163 (by decide) ?_
                      refine r_lconst (pc := 174) (v := 1) C dX8_statistic_174 rfl ?_
                      refine r_goto (pc := 175) (tgt := 179) C dX8_statistic_175 (by decide) ?_
                      refine r_ladd (pc := 179) C dX8_statistic_179 ?_
                      refine r_tl (staC k ((z.2.2.2.2.2.2.2.2.2.2.2.1 (24 * a + t2))) ((staZ z.2.2.2.2.2.2.2.2.2.2.2.1 a k t2).2.1) ((staZ z.2.2.2.2.2.2.2.2.2.2.2.1 a k t2).2.2) ((staZ z.2.2.2.2.2.2.2.2.2.2.2.1 a k t2).1)) (by unfold staC; rw [if_neg h97, show staB k ((z.2.2.2.2.2.2.2.2.2.2.2.1 (24 * a + t2))) ((staZ z.2.2.2.2.2.2.2.2.2.2.2.1 a k t2).2.1) ((staZ z.2.2.2.2.2.2.2.2.2.2.2.1 a k t2).2.2) = true by unfold staB; rw [if_neg h125, if_neg h140, if_pos h155]; exact h160]; rfl) ?_
                      refine r_lstore_n (pc := 180) C dX8_statistic_180 (by decide) ?_
                      refine G.eq (pc' := 181) (vs' := [some (.ref (E.1 286)), some (.int (nI a)), some (.int (nI k)), some (.long (staC k ((z.2.2.2.2.2.2.2.2.2.2.2.1 (24 * a + t2))) ((staZ z.2.2.2.2.2.2.2.2.2.2.2.1 a k t2).2.1) ((staZ z.2.2.2.2.2.2.2.2.2.2.2.1 a k t2).2.2) ((staZ z.2.2.2.2.2.2.2.2.2.2.2.1 a k t2).1))), none, some (.long ((staZ z.2.2.2.2.2.2.2.2.2.2.2.1 a k t2).2.1)), none, some (.long ((staZ z.2.2.2.2.2.2.2.2.2.2.2.1 a k t2).2.2)), none, some (.int (nI t2)), some (.long (z.2.2.2.2.2.2.2.2.2.2.2.1 (24 * a + t2))), none, some (.int (b2i (chB (z.2.2.2.2.2.2.2.2.2.2.2.1 (24 * a + t2)) ((staZ z.2.2.2.2.2.2.2.2.2.2.2.1 a k t2).2.1))))]) (st' := []) ?_
                      refine G.wk (vs' := [some (.ref (E.1 286)), some (.int (nI a)), some (.int (nI k)), some (.long (staC k ((z.2.2.2.2.2.2.2.2.2.2.2.1 (24 * a + t2))) ((staZ z.2.2.2.2.2.2.2.2.2.2.2.1 a k t2).2.1) ((staZ z.2.2.2.2.2.2.2.2.2.2.2.1 a k t2).2.2) ((staZ z.2.2.2.2.2.2.2.2.2.2.2.1 a k t2).1))), none, some (.long ((staZ z.2.2.2.2.2.2.2.2.2.2.2.1 a k t2).2.1)), none, some (.long ((staZ z.2.2.2.2.2.2.2.2.2.2.2.1 a k t2).2.2)), none, some (.int (nI t2)), some (.long (z.2.2.2.2.2.2.2.2.2.2.2.1 (24 * a + t2))), none, none]) ⟨rfl, rfl, rfl, rfl, rfl, rfl, rfl, rfl, trivial⟩ ?_
                      exact k181
                · have h140 := c_eq (by omega) (by omega) h140
                  refine r_lload (pc := 143) C dX8_statistic_143 rfl ?_
                  refine r_lconst (pc := 145) (v := 0) C dX8_statistic_145 rfl ?_
                  refine r_lcmp (pc := 146) C dX8_statistic_146 ?_
                  refine r_if_ge (pc := 147) (tgt := 178) C dX8_statistic_147 (by decide) (fun h147 => ?_) (fun h147 => ?_)
                  · have h147 := k_ge h147
                    refine r_lconst (pc := 178) (v := 0) C dX8_statistic_178 rfl ?_
                    refine r_ladd (pc := 179) C dX8_statistic_179 ?_
                    refine r_tl (staC k ((z.2.2.2.2.2.2.2.2.2.2.2.1 (24 * a + t2))) ((staZ z.2.2.2.2.2.2.2.2.2.2.2.1 a k t2).2.1) ((staZ z.2.2.2.2.2.2.2.2.2.2.2.1 a k t2).2.2) ((staZ z.2.2.2.2.2.2.2.2.2.2.2.1 a k t2).1)) (by unfold staC; rw [if_neg h97, show staB k ((z.2.2.2.2.2.2.2.2.2.2.2.1 (24 * a + t2))) ((staZ z.2.2.2.2.2.2.2.2.2.2.2.1 a k t2).2.1) ((staZ z.2.2.2.2.2.2.2.2.2.2.2.1 a k t2).2.2) = false by unfold staB; rw [if_neg h125, if_pos h140]; exact dF (fun q => q h147)]; rfl) ?_
                    refine r_lstore_n (pc := 180) C dX8_statistic_180 (by decide) ?_
                    refine G.eq (pc' := 181) (vs' := [some (.ref (E.1 286)), some (.int (nI a)), some (.int (nI k)), some (.long (staC k ((z.2.2.2.2.2.2.2.2.2.2.2.1 (24 * a + t2))) ((staZ z.2.2.2.2.2.2.2.2.2.2.2.1 a k t2).2.1) ((staZ z.2.2.2.2.2.2.2.2.2.2.2.1 a k t2).2.2) ((staZ z.2.2.2.2.2.2.2.2.2.2.2.1 a k t2).1))), none, some (.long ((staZ z.2.2.2.2.2.2.2.2.2.2.2.1 a k t2).2.1)), none, some (.long ((staZ z.2.2.2.2.2.2.2.2.2.2.2.1 a k t2).2.2)), none, some (.int (nI t2)), some (.long (z.2.2.2.2.2.2.2.2.2.2.2.1 (24 * a + t2))), none, some (.int (b2i (chB (z.2.2.2.2.2.2.2.2.2.2.2.1 (24 * a + t2)) ((staZ z.2.2.2.2.2.2.2.2.2.2.2.1 a k t2).2.1))))]) (st' := []) ?_
                    refine G.wk (vs' := [some (.ref (E.1 286)), some (.int (nI a)), some (.int (nI k)), some (.long (staC k ((z.2.2.2.2.2.2.2.2.2.2.2.1 (24 * a + t2))) ((staZ z.2.2.2.2.2.2.2.2.2.2.2.1 a k t2).2.1) ((staZ z.2.2.2.2.2.2.2.2.2.2.2.1 a k t2).2.2) ((staZ z.2.2.2.2.2.2.2.2.2.2.2.1 a k t2).1))), none, some (.long ((staZ z.2.2.2.2.2.2.2.2.2.2.2.1 a k t2).2.1)), none, some (.long ((staZ z.2.2.2.2.2.2.2.2.2.2.2.1 a k t2).2.2)), none, some (.int (nI t2)), some (.long (z.2.2.2.2.2.2.2.2.2.2.2.1 (24 * a + t2))), none, none]) ⟨rfl, rfl, rfl, rfl, rfl, rfl, rfl, rfl, trivial⟩ ?_
                    exact k181
                  · have h147 := k_nge h147
                    refine r_goto (pc := 150) (tgt := 174) C dX8_statistic_150 (by decide) ?_
                    refine r_lconst (pc := 174) (v := 1) C dX8_statistic_174 rfl ?_
                    refine r_goto (pc := 175) (tgt := 179) C dX8_statistic_175 (by decide) ?_
                    refine r_ladd (pc := 179) C dX8_statistic_179 ?_
                    refine r_tl (staC k ((z.2.2.2.2.2.2.2.2.2.2.2.1 (24 * a + t2))) ((staZ z.2.2.2.2.2.2.2.2.2.2.2.1 a k t2).2.1) ((staZ z.2.2.2.2.2.2.2.2.2.2.2.1 a k t2).2.2) ((staZ z.2.2.2.2.2.2.2.2.2.2.2.1 a k t2).1)) (by unfold staC; rw [if_neg h97, show staB k ((z.2.2.2.2.2.2.2.2.2.2.2.1 (24 * a + t2))) ((staZ z.2.2.2.2.2.2.2.2.2.2.2.1 a k t2).2.1) ((staZ z.2.2.2.2.2.2.2.2.2.2.2.1 a k t2).2.2) = true by unfold staB; rw [if_neg h125, if_pos h140]; exact dT h147]; rfl) ?_
                    refine r_lstore_n (pc := 180) C dX8_statistic_180 (by decide) ?_
                    refine G.eq (pc' := 181) (vs' := [some (.ref (E.1 286)), some (.int (nI a)), some (.int (nI k)), some (.long (staC k ((z.2.2.2.2.2.2.2.2.2.2.2.1 (24 * a + t2))) ((staZ z.2.2.2.2.2.2.2.2.2.2.2.1 a k t2).2.1) ((staZ z.2.2.2.2.2.2.2.2.2.2.2.1 a k t2).2.2) ((staZ z.2.2.2.2.2.2.2.2.2.2.2.1 a k t2).1))), none, some (.long ((staZ z.2.2.2.2.2.2.2.2.2.2.2.1 a k t2).2.1)), none, some (.long ((staZ z.2.2.2.2.2.2.2.2.2.2.2.1 a k t2).2.2)), none, some (.int (nI t2)), some (.long (z.2.2.2.2.2.2.2.2.2.2.2.1 (24 * a + t2))), none, some (.int (b2i (chB (z.2.2.2.2.2.2.2.2.2.2.2.1 (24 * a + t2)) ((staZ z.2.2.2.2.2.2.2.2.2.2.2.1 a k t2).2.1))))]) (st' := []) ?_
                    refine G.wk (vs' := [some (.ref (E.1 286)), some (.int (nI a)), some (.int (nI k)), some (.long (staC k ((z.2.2.2.2.2.2.2.2.2.2.2.1 (24 * a + t2))) ((staZ z.2.2.2.2.2.2.2.2.2.2.2.1 a k t2).2.1) ((staZ z.2.2.2.2.2.2.2.2.2.2.2.1 a k t2).2.2) ((staZ z.2.2.2.2.2.2.2.2.2.2.2.1 a k t2).1))), none, some (.long ((staZ z.2.2.2.2.2.2.2.2.2.2.2.1 a k t2).2.1)), none, some (.long ((staZ z.2.2.2.2.2.2.2.2.2.2.2.1 a k t2).2.2)), none, some (.int (nI t2)), some (.long (z.2.2.2.2.2.2.2.2.2.2.2.1 (24 * a + t2))), none, none]) ⟨rfl, rfl, rfl, rfl, rfl, rfl, rfl, rfl, trivial⟩ ?_
                    exact k181
              · have h125 := z_eq (by omega) h125
                refine r_lload (pc := 128) C dX8_statistic_128 rfl ?_
                refine r_lconst (pc := 130) (v := 0) C dX8_statistic_130 rfl ?_
                refine r_lcmp (pc := 131) C dX8_statistic_131 ?_
                refine r_if_eq (pc := 132) (tgt := 178) C dX8_statistic_132 (by decide) (fun h132 => ?_) (fun h132 => ?_)
                · have h132 := k_eq h132
                  refine r_lconst (pc := 178) (v := 0) C dX8_statistic_178 rfl ?_
                  refine r_ladd (pc := 179) C dX8_statistic_179 ?_
                  refine r_tl (staC k ((z.2.2.2.2.2.2.2.2.2.2.2.1 (24 * a + t2))) ((staZ z.2.2.2.2.2.2.2.2.2.2.2.1 a k t2).2.1) ((staZ z.2.2.2.2.2.2.2.2.2.2.2.1 a k t2).2.2) ((staZ z.2.2.2.2.2.2.2.2.2.2.2.1 a k t2).1)) (by unfold staC; rw [if_neg h97, show staB k ((z.2.2.2.2.2.2.2.2.2.2.2.1 (24 * a + t2))) ((staZ z.2.2.2.2.2.2.2.2.2.2.2.1 a k t2).2.1) ((staZ z.2.2.2.2.2.2.2.2.2.2.2.1 a k t2).2.2) = false by unfold staB; rw [if_pos h125]; exact dF (fun q => q h132)]; rfl) ?_
                  refine r_lstore_n (pc := 180) C dX8_statistic_180 (by decide) ?_
                  refine G.eq (pc' := 181) (vs' := [some (.ref (E.1 286)), some (.int (nI a)), some (.int (nI k)), some (.long (staC k ((z.2.2.2.2.2.2.2.2.2.2.2.1 (24 * a + t2))) ((staZ z.2.2.2.2.2.2.2.2.2.2.2.1 a k t2).2.1) ((staZ z.2.2.2.2.2.2.2.2.2.2.2.1 a k t2).2.2) ((staZ z.2.2.2.2.2.2.2.2.2.2.2.1 a k t2).1))), none, some (.long ((staZ z.2.2.2.2.2.2.2.2.2.2.2.1 a k t2).2.1)), none, some (.long ((staZ z.2.2.2.2.2.2.2.2.2.2.2.1 a k t2).2.2)), none, some (.int (nI t2)), some (.long (z.2.2.2.2.2.2.2.2.2.2.2.1 (24 * a + t2))), none, some (.int (b2i (chB (z.2.2.2.2.2.2.2.2.2.2.2.1 (24 * a + t2)) ((staZ z.2.2.2.2.2.2.2.2.2.2.2.1 a k t2).2.1))))]) (st' := []) ?_
                  refine G.wk (vs' := [some (.ref (E.1 286)), some (.int (nI a)), some (.int (nI k)), some (.long (staC k ((z.2.2.2.2.2.2.2.2.2.2.2.1 (24 * a + t2))) ((staZ z.2.2.2.2.2.2.2.2.2.2.2.1 a k t2).2.1) ((staZ z.2.2.2.2.2.2.2.2.2.2.2.1 a k t2).2.2) ((staZ z.2.2.2.2.2.2.2.2.2.2.2.1 a k t2).1))), none, some (.long ((staZ z.2.2.2.2.2.2.2.2.2.2.2.1 a k t2).2.1)), none, some (.long ((staZ z.2.2.2.2.2.2.2.2.2.2.2.1 a k t2).2.2)), none, some (.int (nI t2)), some (.long (z.2.2.2.2.2.2.2.2.2.2.2.1 (24 * a + t2))), none, none]) ⟨rfl, rfl, rfl, rfl, rfl, rfl, rfl, rfl, trivial⟩ ?_
                  exact k181
                · have h132 := k_ne h132
                  refine r_goto (pc := 135) (tgt := 174) C dX8_statistic_135 (by decide) ?_
                  refine r_lconst (pc := 174) (v := 1) C dX8_statistic_174 rfl ?_
                  refine r_goto (pc := 175) (tgt := 179) C dX8_statistic_175 (by decide) ?_
                  refine r_ladd (pc := 179) C dX8_statistic_179 ?_
                  refine r_tl (staC k ((z.2.2.2.2.2.2.2.2.2.2.2.1 (24 * a + t2))) ((staZ z.2.2.2.2.2.2.2.2.2.2.2.1 a k t2).2.1) ((staZ z.2.2.2.2.2.2.2.2.2.2.2.1 a k t2).2.2) ((staZ z.2.2.2.2.2.2.2.2.2.2.2.1 a k t2).1)) (by unfold staC; rw [if_neg h97, show staB k ((z.2.2.2.2.2.2.2.2.2.2.2.1 (24 * a + t2))) ((staZ z.2.2.2.2.2.2.2.2.2.2.2.1 a k t2).2.1) ((staZ z.2.2.2.2.2.2.2.2.2.2.2.1 a k t2).2.2) = true by unfold staB; rw [if_pos h125]; exact dT h132]; rfl) ?_
                  refine r_lstore_n (pc := 180) C dX8_statistic_180 (by decide) ?_
                  refine G.eq (pc' := 181) (vs' := [some (.ref (E.1 286)), some (.int (nI a)), some (.int (nI k)), some (.long (staC k ((z.2.2.2.2.2.2.2.2.2.2.2.1 (24 * a + t2))) ((staZ z.2.2.2.2.2.2.2.2.2.2.2.1 a k t2).2.1) ((staZ z.2.2.2.2.2.2.2.2.2.2.2.1 a k t2).2.2) ((staZ z.2.2.2.2.2.2.2.2.2.2.2.1 a k t2).1))), none, some (.long ((staZ z.2.2.2.2.2.2.2.2.2.2.2.1 a k t2).2.1)), none, some (.long ((staZ z.2.2.2.2.2.2.2.2.2.2.2.1 a k t2).2.2)), none, some (.int (nI t2)), some (.long (z.2.2.2.2.2.2.2.2.2.2.2.1 (24 * a + t2))), none, some (.int (b2i (chB (z.2.2.2.2.2.2.2.2.2.2.2.1 (24 * a + t2)) ((staZ z.2.2.2.2.2.2.2.2.2.2.2.1 a k t2).2.1))))]) (st' := []) ?_
                  refine G.wk (vs' := [some (.ref (E.1 286)), some (.int (nI a)), some (.int (nI k)), some (.long (staC k ((z.2.2.2.2.2.2.2.2.2.2.2.1 (24 * a + t2))) ((staZ z.2.2.2.2.2.2.2.2.2.2.2.1 a k t2).2.1) ((staZ z.2.2.2.2.2.2.2.2.2.2.2.1 a k t2).2.2) ((staZ z.2.2.2.2.2.2.2.2.2.2.2.1 a k t2).1))), none, some (.long ((staZ z.2.2.2.2.2.2.2.2.2.2.2.1 a k t2).2.1)), none, some (.long ((staZ z.2.2.2.2.2.2.2.2.2.2.2.1 a k t2).2.2)), none, some (.int (nI t2)), some (.long (z.2.2.2.2.2.2.2.2.2.2.2.1 (24 * a + t2))), none, none]) ⟨rfl, rfl, rfl, rfl, rfl, rfl, rfl, rfl, trivial⟩ ?_
                  exact k181
            · have h97 := c_eq (by omega) (by omega) h97
              refine r_lload (pc := 100) C dX8_statistic_100 rfl ?_
              refine r_callS (pc := 102) C dX8_statistic_102 cs_RX8_169 (c_X8_absolute (z.2.2.2.2.2.2.2.2.2.2.2.1 (24 * a + t2))) ⟨rfl, rfl, by decide, by decide⟩ rfl rfl (Nat.le_of_ble_eq_true rfl) ⟨Nat.zero_le _, Nat.zero_le _⟩ ?_
              rintro _ _ ⟨_, rfl, rfl, rfl⟩
              show G M S E (0, 0) g 105 [some (.ref (E.1 286)), some (.int (nI a)), some (.int (nI k)), some (.long ((staZ z.2.2.2.2.2.2.2.2.2.2.2.1 a k t2).1)), none, some (.long ((staZ z.2.2.2.2.2.2.2.2.2.2.2.1 a k t2).2.1)), none, some (.long ((staZ z.2.2.2.2.2.2.2.2.2.2.2.1 a k t2).2.2)), none, some (.int (nI t2)), some (.long (z.2.2.2.2.2.2.2.2.2.2.2.1 (24 * a + t2))), none, some (.int (b2i (chB (z.2.2.2.2.2.2.2.2.2.2.2.1 (24 * a + t2)) ((staZ z.2.2.2.2.2.2.2.2.2.2.2.1 a k t2).2.1))))] [.long (abL (z.2.2.2.2.2.2.2.2.2.2.2.1 (24 * a + t2)))]
              refine r_lload_n (pc := 105) C dX8_statistic_105 rfl ?_
              refine r_lcmp (pc := 106) C dX8_statistic_106 ?_
              refine r_if_le (pc := 107) (tgt := 118) C dX8_statistic_107 (by decide) (fun h107 => ?_) (fun h107 => ?_)
              · have h107 := k_le h107
                refine r_lload_n (pc := 118) C dX8_statistic_118 rfl ?_
                refine r_tl (staC k ((z.2.2.2.2.2.2.2.2.2.2.2.1 (24 * a + t2))) ((staZ z.2.2.2.2.2.2.2.2.2.2.2.1 a k t2).2.1) ((staZ z.2.2.2.2.2.2.2.2.2.2.2.1 a k t2).2.2) ((staZ z.2.2.2.2.2.2.2.2.2.2.2.1 a k t2).1)) (by unfold staC; rw [if_pos h97, if_neg h107]) ?_
                refine r_lstore_n (pc := 119) C dX8_statistic_119 (by decide) ?_
                refine G.eq (pc' := 120) (vs' := [some (.ref (E.1 286)), some (.int (nI a)), some (.int (nI k)), some (.long (staC k ((z.2.2.2.2.2.2.2.2.2.2.2.1 (24 * a + t2))) ((staZ z.2.2.2.2.2.2.2.2.2.2.2.1 a k t2).2.1) ((staZ z.2.2.2.2.2.2.2.2.2.2.2.1 a k t2).2.2) ((staZ z.2.2.2.2.2.2.2.2.2.2.2.1 a k t2).1))), none, some (.long ((staZ z.2.2.2.2.2.2.2.2.2.2.2.1 a k t2).2.1)), none, some (.long ((staZ z.2.2.2.2.2.2.2.2.2.2.2.1 a k t2).2.2)), none, some (.int (nI t2)), some (.long (z.2.2.2.2.2.2.2.2.2.2.2.1 (24 * a + t2))), none, some (.int (b2i (chB (z.2.2.2.2.2.2.2.2.2.2.2.1 (24 * a + t2)) ((staZ z.2.2.2.2.2.2.2.2.2.2.2.1 a k t2).2.1))))]) (st' := []) ?_
                refine r_goto (pc := 120) (tgt := 181) C dX8_statistic_120 (by decide) ?_
                refine G.wk (vs' := [some (.ref (E.1 286)), some (.int (nI a)), some (.int (nI k)), some (.long (staC k ((z.2.2.2.2.2.2.2.2.2.2.2.1 (24 * a + t2))) ((staZ z.2.2.2.2.2.2.2.2.2.2.2.1 a k t2).2.1) ((staZ z.2.2.2.2.2.2.2.2.2.2.2.1 a k t2).2.2) ((staZ z.2.2.2.2.2.2.2.2.2.2.2.1 a k t2).1))), none, some (.long ((staZ z.2.2.2.2.2.2.2.2.2.2.2.1 a k t2).2.1)), none, some (.long ((staZ z.2.2.2.2.2.2.2.2.2.2.2.1 a k t2).2.2)), none, some (.int (nI t2)), some (.long (z.2.2.2.2.2.2.2.2.2.2.2.1 (24 * a + t2))), none, none]) ⟨rfl, rfl, rfl, rfl, rfl, rfl, rfl, rfl, trivial⟩ ?_
                exact k181
              · have h107 := k_nle h107
                refine r_lload (pc := 110) C dX8_statistic_110 rfl ?_
                refine r_callS (pc := 112) C dX8_statistic_112 cs_RX8_169 (c_X8_absolute (z.2.2.2.2.2.2.2.2.2.2.2.1 (24 * a + t2))) ⟨rfl, rfl, by decide, by decide⟩ rfl rfl (Nat.le_of_ble_eq_true rfl) ⟨Nat.zero_le _, Nat.zero_le _⟩ ?_
                rintro _ _ ⟨_, rfl, rfl, rfl⟩
                show G M S E (0, 0) g 115 [some (.ref (E.1 286)), some (.int (nI a)), some (.int (nI k)), some (.long ((staZ z.2.2.2.2.2.2.2.2.2.2.2.1 a k t2).1)), none, some (.long ((staZ z.2.2.2.2.2.2.2.2.2.2.2.1 a k t2).2.1)), none, some (.long ((staZ z.2.2.2.2.2.2.2.2.2.2.2.1 a k t2).2.2)), none, some (.int (nI t2)), some (.long (z.2.2.2.2.2.2.2.2.2.2.2.1 (24 * a + t2))), none, some (.int (b2i (chB (z.2.2.2.2.2.2.2.2.2.2.2.1 (24 * a + t2)) ((staZ z.2.2.2.2.2.2.2.2.2.2.2.1 a k t2).2.1))))] [.long (abL (z.2.2.2.2.2.2.2.2.2.2.2.1 (24 * a + t2)))]
                refine r_goto (pc := 115) (tgt := 119) C dX8_statistic_115 (by decide) ?_
                refine r_tl (staC k ((z.2.2.2.2.2.2.2.2.2.2.2.1 (24 * a + t2))) ((staZ z.2.2.2.2.2.2.2.2.2.2.2.1 a k t2).2.1) ((staZ z.2.2.2.2.2.2.2.2.2.2.2.1 a k t2).2.2) ((staZ z.2.2.2.2.2.2.2.2.2.2.2.1 a k t2).1)) (by unfold staC; rw [if_pos h97, if_pos h107]) ?_
                refine r_lstore_n (pc := 119) C dX8_statistic_119 (by decide) ?_
                refine G.eq (pc' := 120) (vs' := [some (.ref (E.1 286)), some (.int (nI a)), some (.int (nI k)), some (.long (staC k ((z.2.2.2.2.2.2.2.2.2.2.2.1 (24 * a + t2))) ((staZ z.2.2.2.2.2.2.2.2.2.2.2.1 a k t2).2.1) ((staZ z.2.2.2.2.2.2.2.2.2.2.2.1 a k t2).2.2) ((staZ z.2.2.2.2.2.2.2.2.2.2.2.1 a k t2).1))), none, some (.long ((staZ z.2.2.2.2.2.2.2.2.2.2.2.1 a k t2).2.1)), none, some (.long ((staZ z.2.2.2.2.2.2.2.2.2.2.2.1 a k t2).2.2)), none, some (.int (nI t2)), some (.long (z.2.2.2.2.2.2.2.2.2.2.2.1 (24 * a + t2))), none, some (.int (b2i (chB (z.2.2.2.2.2.2.2.2.2.2.2.1 (24 * a + t2)) ((staZ z.2.2.2.2.2.2.2.2.2.2.2.1 a k t2).2.1))))]) (st' := []) ?_
                refine r_goto (pc := 120) (tgt := 181) C dX8_statistic_120 (by decide) ?_
                refine G.wk (vs' := [some (.ref (E.1 286)), some (.int (nI a)), some (.int (nI k)), some (.long (staC k ((z.2.2.2.2.2.2.2.2.2.2.2.1 (24 * a + t2))) ((staZ z.2.2.2.2.2.2.2.2.2.2.2.1 a k t2).2.1) ((staZ z.2.2.2.2.2.2.2.2.2.2.2.1 a k t2).2.2) ((staZ z.2.2.2.2.2.2.2.2.2.2.2.1 a k t2).1))), none, some (.long ((staZ z.2.2.2.2.2.2.2.2.2.2.2.1 a k t2).2.1)), none, some (.long ((staZ z.2.2.2.2.2.2.2.2.2.2.2.1 a k t2).2.2)), none, some (.int (nI t2)), some (.long (z.2.2.2.2.2.2.2.2.2.2.2.1 (24 * a + t2))), none, none]) ⟨rfl, rfl, rfl, rfl, rfl, rfl, rfl, rfl, trivial⟩ ?_
                exact k181
          refine r_lload (pc := 60) C dX8_statistic_60 rfl ?_
          refine r_lconst (pc := 62) (v := 0) C dX8_statistic_62 rfl ?_
          refine r_lcmp (pc := 63) C dX8_statistic_63 ?_
          refine r_if_ge (pc := 64) (tgt := 74) C dX8_statistic_64 (by decide) (fun h64 => ?_) (fun h64 => ?_)
          · have h64 := k_ge h64
            refine r_lload (pc := 74) C dX8_statistic_74 rfl ?_
            refine r_lconst (pc := 76) (v := 0) C dX8_statistic_76 rfl ?_
            refine r_lcmp (pc := 77) C dX8_statistic_77 ?_
            refine r_if_le (pc := 78) (tgt := 92) C dX8_statistic_78 (by decide) (fun h78 => ?_) (fun h78 => ?_)
            · have h78 := k_le h78
              refine r_iconst (pc := 92) (v := nI 0) C dX8_statistic_92 (by decide +kernel) ?_
              refine r_ti (b2i (chB (z.2.2.2.2.2.2.2.2.2.2.2.1 (24 * a + t2)) ((staZ z.2.2.2.2.2.2.2.2.2.2.2.1 a k t2).2.1))) (by rw [show chB (z.2.2.2.2.2.2.2.2.2.2.2.1 (24 * a + t2)) ((staZ z.2.2.2.2.2.2.2.2.2.2.2.1 a k t2).2.1) = false by unfold chB; rw [show decide (¬ 0 ≤ z.2.2.2.2.2.2.2.2.2.2.2.1 (24 * a + t2)) = false from dF (fun q => q h64), show decide (0 < z.2.2.2.2.2.2.2.2.2.2.2.1 (24 * a + t2)) = false from dF h78]; rfl]; rfl) ?_
              exact k93
            · have h78 := k_nle h78
              refine r_lload (pc := 81) C dX8_statistic_81 rfl ?_
              refine r_lconst (pc := 83) (v := 0) C dX8_statistic_83 rfl ?_
              refine r_lcmp (pc := 84) C dX8_statistic_84 ?_
              refine r_if_ge (pc := 85) (tgt := 92) C dX8_statistic_85 (by decide) (fun h85 => ?_) (fun h85 => ?_)
              · have h85 := k_ge h85
                refine r_iconst (pc := 92) (v := nI 0) C dX8_statistic_92 (by decide +kernel) ?_
                refine r_ti (b2i (chB (z.2.2.2.2.2.2.2.2.2.2.2.1 (24 * a + t2)) ((staZ z.2.2.2.2.2.2.2.2.2.2.2.1 a k t2).2.1))) (by rw [show chB (z.2.2.2.2.2.2.2.2.2.2.2.1 (24 * a + t2)) ((staZ z.2.2.2.2.2.2.2.2.2.2.2.1 a k t2).2.1) = false by unfold chB; rw [show decide (¬ 0 ≤ z.2.2.2.2.2.2.2.2.2.2.2.1 (24 * a + t2)) = false from dF (fun q => q h64), show decide (0 < z.2.2.2.2.2.2.2.2.2.2.2.1 (24 * a + t2)) = true from dT h78, show decide (¬ 0 ≤ (staZ z.2.2.2.2.2.2.2.2.2.2.2.1 a k t2).2.1) = false from dF (fun q => q h85)]; rfl]; rfl) ?_
                exact k93
              · have h85 := k_nge h85
                refine r_iconst (pc := 88) (v := nI 1) C dX8_statistic_88 (by decide +kernel) ?_
                refine r_goto (pc := 89) (tgt := 93) C dX8_statistic_89 (by decide) ?_
                refine r_ti (b2i (chB (z.2.2.2.2.2.2.2.2.2.2.2.1 (24 * a + t2)) ((staZ z.2.2.2.2.2.2.2.2.2.2.2.1 a k t2).2.1))) (by rw [show chB (z.2.2.2.2.2.2.2.2.2.2.2.1 (24 * a + t2)) ((staZ z.2.2.2.2.2.2.2.2.2.2.2.1 a k t2).2.1) = true by unfold chB; rw [show decide (¬ 0 ≤ z.2.2.2.2.2.2.2.2.2.2.2.1 (24 * a + t2)) = false from dF (fun q => q h64), show decide (0 < z.2.2.2.2.2.2.2.2.2.2.2.1 (24 * a + t2)) = true from dT h78, show decide (¬ 0 ≤ (staZ z.2.2.2.2.2.2.2.2.2.2.2.1 a k t2).2.1) = true from dT h85]; rfl]; rfl) ?_
                exact k93
          · have h64 := k_nge h64
            refine r_lload (pc := 67) C dX8_statistic_67 rfl ?_
            refine r_lconst (pc := 69) (v := 0) C dX8_statistic_69 rfl ?_
            refine r_lcmp (pc := 70) C dX8_statistic_70 ?_
            refine r_if_gt (pc := 71) (tgt := 88) C dX8_statistic_71 (by decide) (fun h71 => ?_) (fun h71 => ?_)
            · have h71 := k_gt h71
              refine r_iconst (pc := 88) (v := nI 1) C dX8_statistic_88 (by decide +kernel) ?_
              refine r_goto (pc := 89) (tgt := 93) C dX8_statistic_89 (by decide) ?_
              refine r_ti (b2i (chB (z.2.2.2.2.2.2.2.2.2.2.2.1 (24 * a + t2)) ((staZ z.2.2.2.2.2.2.2.2.2.2.2.1 a k t2).2.1))) (by rw [show chB (z.2.2.2.2.2.2.2.2.2.2.2.1 (24 * a + t2)) ((staZ z.2.2.2.2.2.2.2.2.2.2.2.1 a k t2).2.1) = true by unfold chB; rw [show decide (¬ 0 ≤ z.2.2.2.2.2.2.2.2.2.2.2.1 (24 * a + t2)) = true from dT h64, show decide (0 < (staZ z.2.2.2.2.2.2.2.2.2.2.2.1 a k t2).2.1) = true from dT h71]; rfl]; rfl) ?_
              exact k93
            · have h71 := k_ngt h71
              refine r_lload (pc := 74) C dX8_statistic_74 rfl ?_
              refine r_lconst (pc := 76) (v := 0) C dX8_statistic_76 rfl ?_
              refine r_lcmp (pc := 77) C dX8_statistic_77 ?_
              refine r_if_le (pc := 78) (tgt := 92) C dX8_statistic_78 (by decide) (fun h78 => ?_) (fun h78 => ?_)
              · have h78 := k_le h78
                refine r_iconst (pc := 92) (v := nI 0) C dX8_statistic_92 (by decide +kernel) ?_
                refine r_ti (b2i (chB (z.2.2.2.2.2.2.2.2.2.2.2.1 (24 * a + t2)) ((staZ z.2.2.2.2.2.2.2.2.2.2.2.1 a k t2).2.1))) (by rw [show chB (z.2.2.2.2.2.2.2.2.2.2.2.1 (24 * a + t2)) ((staZ z.2.2.2.2.2.2.2.2.2.2.2.1 a k t2).2.1) = false by unfold chB; rw [show decide (¬ 0 ≤ z.2.2.2.2.2.2.2.2.2.2.2.1 (24 * a + t2)) = true from dT h64, show decide (0 < (staZ z.2.2.2.2.2.2.2.2.2.2.2.1 a k t2).2.1) = false from dF h71, show decide (0 < z.2.2.2.2.2.2.2.2.2.2.2.1 (24 * a + t2)) = false from dF h78]; rfl]; rfl) ?_
                exact k93
              · have h78 := k_nle h78
                refine r_lload (pc := 81) C dX8_statistic_81 rfl ?_
                refine r_lconst (pc := 83) (v := 0) C dX8_statistic_83 rfl ?_
                refine r_lcmp (pc := 84) C dX8_statistic_84 ?_
                refine r_if_ge (pc := 85) (tgt := 92) C dX8_statistic_85 (by decide) (fun h85 => ?_) (fun h85 => ?_)
                · have h85 := k_ge h85
                  refine r_iconst (pc := 92) (v := nI 0) C dX8_statistic_92 (by decide +kernel) ?_
                  refine r_ti (b2i (chB (z.2.2.2.2.2.2.2.2.2.2.2.1 (24 * a + t2)) ((staZ z.2.2.2.2.2.2.2.2.2.2.2.1 a k t2).2.1))) (by rw [show chB (z.2.2.2.2.2.2.2.2.2.2.2.1 (24 * a + t2)) ((staZ z.2.2.2.2.2.2.2.2.2.2.2.1 a k t2).2.1) = false by unfold chB; rw [show decide (¬ 0 ≤ z.2.2.2.2.2.2.2.2.2.2.2.1 (24 * a + t2)) = true from dT h64, show decide (0 < (staZ z.2.2.2.2.2.2.2.2.2.2.2.1 a k t2).2.1) = false from dF h71, show decide (0 < z.2.2.2.2.2.2.2.2.2.2.2.1 (24 * a + t2)) = true from dT h78, show decide (¬ 0 ≤ (staZ z.2.2.2.2.2.2.2.2.2.2.2.1 a k t2).2.1) = false from dF (fun q => q h85)]; rfl]; rfl) ?_
                  exact k93
                · have h85 := k_nge h85
                  refine r_iconst (pc := 88) (v := nI 1) C dX8_statistic_88 (by decide +kernel) ?_
                  refine r_goto (pc := 89) (tgt := 93) C dX8_statistic_89 (by decide) ?_
                  refine r_ti (b2i (chB (z.2.2.2.2.2.2.2.2.2.2.2.1 (24 * a + t2)) ((staZ z.2.2.2.2.2.2.2.2.2.2.2.1 a k t2).2.1))) (by rw [show chB (z.2.2.2.2.2.2.2.2.2.2.2.1 (24 * a + t2)) ((staZ z.2.2.2.2.2.2.2.2.2.2.2.1 a k t2).2.1) = true by unfold chB; rw [show decide (¬ 0 ≤ z.2.2.2.2.2.2.2.2.2.2.2.1 (24 * a + t2)) = true from dT h64, show decide (0 < (staZ z.2.2.2.2.2.2.2.2.2.2.2.1 a k t2).2.1) = false from dF h71, show decide (0 < z.2.2.2.2.2.2.2.2.2.2.2.1 (24 * a + t2)) = true from dT h78, show decide (¬ 0 ≤ (staZ z.2.2.2.2.2.2.2.2.2.2.2.1 a k t2).2.1) = true from dT h85]; rfl]; rfl) ?_
                  exact k93
    · have h19 := b_f h19
      refine r_iconst (pc := 22) (v := (-1)) C dX8_statistic_22 (by decide +kernel) ?_
      exact r_iret (pc := 23) C Z dX8_statistic_23 rfl (by rw [show qSta z x y = -1 by simp only [qSta, h4, h19, cond_true, cond_false, if_true, if_false, not_true_eq_false, not_false_eq_true, ↓reduceIte]]; exact ⟨rfl, rfl⟩)
  · have h4 := b_f h4
    refine r_bipush (pc := 7) (v := (-2)) C dX8_statistic_7 (by decide +kernel) ?_
    exact r_iret (pc := 9) C Z dX8_statistic_9 rfl (by rw [show qSta z x y = -2 by simp only [qSta, h4, cond_true, cond_false, if_true, if_false, not_true_eq_false, not_false_eq_true, ↓reduceIte]]; exact ⟨rfl, rfl⟩)
