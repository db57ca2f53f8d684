theorem stZ_f2 (z : MZ) (c a : Nat → Int64) (t : Nat) : stZ (s_f12 z c a) t = s_f2 (stZ (s_f1 z c) t) a := by
  have e1 : stZ (s_f12 z c a) t = bif fitB 24 c then s_fr (s_f12 z c a) (stR z.2.2.2.2.2.2.2.2.2.2.2.1 t c) else s_f12 z c a := by unfold stZ; rfl
  have e2 : stZ (s_f1 z c) t = bif fitB 24 c then s_fr (s_f1 z c) (stR z.2.2.2.2.2.2.2.2.2.2.2.1 t c) else s_f1 z c := by unfold stZ; rfl
  rw [e1, e2]
  cases fitB 24 c with
  | true => simp only [cond_true, s_fr, s_f12, s_f2, s_f1]
  | false => simp only [cond_false, s_f12, s_f2, s_f1]
theorem stV_f2 (z : MZ) (c a : Nat → Int64) : stV (s_f12 z c a) = stV (s_f1 z c) := by
  simp only [stV, s_f12, s_f1]
set_option maxHeartbeats 4000000 in
set_option maxRecDepth 100000 in
theorem c_X8_sumSide {S : ST} {E : ET} {g : Nat → va_E} {z : MZ} (hM : MC S E g z) (h4n : 4 ≤ z.1) (hN : z.1 ≤ 24) (hr : z.2.1 ≤ 1) (x : Int32) : CtI S E yX8_sumSide cX8_sumSide 2 (Option.some FieldType.int) rmX8_sumSide [.ref (E.1 286), .int x] g (fun u g' => u = (qSum z x).1 ∧ (∃ a : Nat → Int64, MC S E g' (s_f2 (qSum z x).2 a)) ∧ Fr g g' 286 308) := by
  refine Ct.of RX8 (by decide +kernel) rfl (Nat.le_of_ble_eq_true rfl) (fun M C Z => ?_)
  refine G.eq (pc' := 0) (vs' := [some (.ref (E.1 286)), some (.int x)]) (st' := []) ?_
  refine r_iload_n (pc := 0) C dX8_sumSide_0 rfl ?_
  refine r_callS (pc := 1) C dX8_sumSide_1 cs_RX8_112 (c_X8_isRegister x) ⟨rfl, rfl, by decide, by decide⟩ rfl rfl (Nat.le_of_ble_eq_true rfl) ⟨Nat.zero_le _, Nat.zero_le _⟩ ?_
  rintro _ _ ⟨_, rfl, rfl, rfl⟩
  show G M S E (0, 0) g 4 [some (.ref (E.1 286)), some (.int x)] [.int (b2i (hix 6 x))]
  refine r_if_ne (pc := 4) (tgt := 10) C dX8_sumSide_4 (by decide) (fun h4 => ?_) (fun h4 => ?_)
  · have h4 := b_t h4
    obtain ⟨t, rfl, ht⟩ := hix_nat h4 (by omega)
    refine r_aload_n (pc := 10) C dX8_sumSide_10 rfl ?_
    refine r_aload_n (pc := 11) C dX8_sumSide_11 rfl ?_
    refine r_getf (pc := 12) C dX8_sumSide_12 fl_RX8_28 hM.1 rfl ?_
    refine r_callV (pc := 15) C dX8_sumSide_15 cv_RX8_219 (c_X8_sumWeighted ⟨_, hM.1, rfl, rfl, rfl, rfl, rfl, rfl, rfl, rfl, rfl, rfl, rfl, rfl, rfl, rfl, rfl, rfl, rfl, rfl, rfl, rfl, rfl, rfl, rfl⟩ hN hr hM.2.2.2.1 (by decide) (by decide) (by decide) hM.2.2.2.2.2.1 hM.2.2.2.2.2.2.1) ⟨rfl, rfl, by decide, by decide⟩ hM.1 rfl rfl (Nat.le_of_ble_eq_true rfl) ⟨Nat.zero_le _, Nat.zero_le _⟩ ?_
    rintro _ _ ⟨rfl, a2, rfl⟩
    show G M S E (0, 0) (va_up (va_up g 291 (xJ S 24 (suZ z.1 z.2.1 z.2.2.2.2.2.2.2.2.2.2.2.2.2.1 5))) 292 (xJ S 24 a2)) 18 [some (.ref (E.1 286)), some (.int (nI t))] []
    refine r_aload_n (pc := 18) C dX8_sumSide_18 rfl ?_
    refine r_iload_n (pc := 19) C dX8_sumSide_19 rfl ?_
    have hM1 : MC S E (va_up (va_up g 291 (xJ S 24 (suZ z.1 z.2.1 z.2.2.2.2.2.2.2.2.2.2.2.2.2.1 5))) 292 (xJ S 24 a2)) (s_f12 z (suZ z.1 z.2.1 z.2.2.2.2.2.2.2.2.2.2.2.2.2.1 5) a2) := ⟨(Ce.up (Ce.up hM.1 (by decide)) (by decide)), (Ce.up (Ce.up hM.2.1 (by decide)) (by decide)), (Ce.up (Ce.up hM.2.2.1 (by decide)) (by decide)), (Ce.up (Ce.up hM.2.2.2.1 (by decide)) (by decide)), (Ce.up (Ce.up hM.2.2.2.2.1 (by decide)) (by decide)), (Ce.up (Ce.new hM.2.2.2.2.2.1) (by decide)), (Ce.new (Ce.up hM.2.2.2.2.2.2.1 (by decide))), (Ce.up (Ce.up hM.2.2.2.2.2.2.2.1 (by decide)) (by decide)), (Ce.up (Ce.up hM.2.2.2.2.2.2.2.2.1 (by decide)) (by decide)), (Ce.up (Ce.up hM.2.2.2.2.2.2.2.2.2.1 (by decide)) (by decide)), (Ce.up (Ce.up hM.2.2.2.2.2.2.2.2.2.2.1 (by decide)) (by decide)), (Ce.up (Ce.up hM.2.2.2.2.2.2.2.2.2.2.2.1 (by decide)) (by decide)), (Ce.up (Ce.up hM.2.2.2.2.2.2.2.2.2.2.2.2.1 (by decide)) (by decide)), (Ce.up (Ce.up hM.2.2.2.2.2.2.2.2.2.2.2.2.2.1 (by decide)) (by decide)), (Ce.up (Ce.up hM.2.2.2.2.2.2.2.2.2.2.2.2.2.2.1 (by decide)) (by decide)), (Ce.up (Ce.up hM.2.2.2.2.2.2.2.2.2.2.2.2.2.2.2.1 (by decide)) (by decide)), (Ce.up (Ce.up hM.2.2.2.2.2.2.2.2.2.2.2.2.2.2.2.2.1 (by decide)) (by decide)), (Ce.up (Ce.up hM.2.2.2.2.2.2.2.2.2.2.2.2.2.2.2.2.2.1 (by decide)) (by decide)), (Ce.up (Ce.up hM.2.2.2.2.2.2.2.2.2.2.2.2.2.2.2.2.2.2.1 (by decide)) (by decide)), (Ce.up (Ce.up hM.2.2.2.2.2.2.2.2.2.2.2.2.2.2.2.2.2.2.2.1 (by decide)) (by decide)), (Ce.up (Ce.up hM.2.2.2.2.2.2.2.2.2.2.2.2.2.2.2.2.2.2.2.2.1 (by decide)) (by decide)), (Ce.up (Ce.up hM.2.2.2.2.2.2.2.2.2.2.2.2.2.2.2.2.2.2.2.2.2 (by decide)) (by decide))⟩
    have hf1 : Fr g (va_up (va_up g 291 (xJ S 24 (suZ z.1 z.2.1 z.2.2.2.2.2.2.2.2.2.2.2.2.2.1 5))) 292 (xJ S 24 a2)) 286 308 := ((Fr.rf.up (by omega) (by omega)).up (by omega) (by omega))
    refine r_callV (pc := 20) C dX8_sumSide_20 cv_RX8_133 (c_X8_store hM1 hN t ht) ⟨rfl, rfl, by decide, by decide⟩ (Ce.up (Ce.up hM.1 (by decide)) (by decide)) rfl rfl (Nat.le_of_ble_eq_true rfl) ⟨Nat.zero_le _, Nat.zero_le _⟩ ?_
    rintro _ g2 ⟨_, rfl, rfl, hM2, hF2⟩
    show G M S E (0, 0) g2 23 [some (.ref (E.1 286)), some (.int (nI t))] [.int (stV (s_f12 z (suZ z.1 z.2.1 z.2.2.2.2.2.2.2.2.2.2.2.2.2.1 5) a2))]
    rw [stZ_f2] at hM2
    exact r_iret (pc := 23) C Z dX8_sumSide_23 rfl (by rw [show qSum z (nI t) = sto z (suZ z.1 z.2.1 z.2.2.2.2.2.2.2.2.2.2.2.2.2.1 5) t by simp only [qSum, h4, iN_nI (show t < 2 ^ 31 by omega), cond_true, cond_false, if_true, if_false, not_true_eq_false, not_false_eq_true, ↓reduceIte]]; exact ⟨stV_f2 z _ a2, ⟨a2, hM2⟩, hf1.tr hF2 (by omega) (by omega)⟩)
  · have h4 := b_f h4
    refine r_bipush (pc := 7) (v := (-2)) C dX8_sumSide_7 (by decide +kernel) ?_
    exact r_iret (pc := 9) C Z dX8_sumSide_9 rfl (by rw [show qSum z x = (-2, z) by simp only [qSum, h4, cond_true, cond_false, if_true, if_false, not_true_eq_false, not_false_eq_true, ↓reduceIte]]; exact ⟨rfl, ⟨z.2.2.2.2.2.2.2.2.2.2.2.2.2.2.2.2.1, hM⟩, Fr.rf⟩)
set_option maxHeartbeats 4000000 in
set_option maxRecDepth 100000 in
theorem c_X8_productSide {S : ST} {E : ET} {g : Nat → va_E} {z : MZ} (hM : MC S E g z) (h4n : 4 ≤ z.1) (hN : z.1 ≤ 24) (hr : z.2.1 ≤ 1) (x : Int32) : CtI S E yX8_productSide cX8_productSide 3 (Option.some FieldType.int) rmX8_productSide [.ref (E.1 286), .int x] g (fun u g' => u = (qPrS z x).1 ∧ (∃ a : Nat → Int64, MC S E g' (s_f2 (qPrS z x).2 a)) ∧ Fr g g' 286 308) := by
  refine Ct.of RX8 (by decide +kernel) rfl (Nat.le_of_ble_eq_true rfl) (fun M C Z => ?_)
  refine G.eq (pc' := 0) (vs' := [some (.ref (E.1 286)), some (.int x), none]) (st' := []) ?_
  refine r_iload_n (pc := 0) C dX8_productSide_0 rfl ?_
  refine r_callS (pc := 1) C dX8_productSide_1 cs_RX8_112 (c_X8_isRegister x) ⟨rfl, rfl, by decide, by decide⟩ rfl rfl (Nat.le_of_ble_eq_true rfl) ⟨Nat.zero_le _, Nat.zero_le _⟩ ?_
  rintro _ _ ⟨_, rfl, rfl, rfl⟩
  show G M S E (0, 0) g 4 [some (.ref (E.1 286)), some (.int x), none] [.int (b2i (hix 6 x))]
  refine r_if_ne (pc := 4) (tgt := 10) C dX8_productSide_4 (by decide) (fun h4 => ?_) (fun h4 => ?_)
  · have h4 := b_t h4
    obtain ⟨t, rfl, ht⟩ := hix_nat h4 (by omega)
    refine r_aload_n (pc := 10) C dX8_productSide_10 rfl ?_
    refine r_aload_n (pc := 11) C dX8_productSide_11 rfl ?_
    refine r_getf (pc := 12) C dX8_productSide_12 fl_RX8_25 hM.1 rfl ?_
    refine r_callV (pc := 15) C dX8_productSide_15 cv_RX8_219 (c_X8_sumWeighted ⟨_, hM.1, rfl, rfl, rfl, rfl, rfl, rfl, rfl, rfl, rfl, rfl, rfl, rfl, rfl, rfl, rfl, rfl, rfl, rfl, rfl, rfl, rfl, rfl, rfl⟩ hN hr hM.2.2.1 (by decide) (by decide) (by decide) hM.2.2.2.2.2.1 hM.2.2.2.2.2.2.1) ⟨rfl, rfl, by decide, by decide⟩ hM.1 rfl rfl (Nat.le_of_ble_eq_true rfl) ⟨Nat.zero_le _, Nat.zero_le _⟩ ?_
    rintro _ _ ⟨rfl, a2, rfl⟩
    show G M S E (0, 0) (va_up (va_up g 291 (xJ S 24 (suZ z.1 z.2.1 z.2.2.2.2.2.2.2.2.2.2.2.2.1 5))) 292 (xJ S 24 a2)) 18 [some (.ref (E.1 286)), some (.int (nI t)), none] []
    refine r_iconst (pc := 18) (v := nI 1) C dX8_productSide_18 (by decide +kernel) ?_
    refine r_istore_n (pc := 19) C dX8_productSide_19 (by decide) ?_
    refine G.eq (pc' := 20) (vs' := [some (.ref (E.1 286)), some (.int (nI t)), some (.int (nI 1))]) (st' := []) ?_
    refine bk (P := fun t2 => G M S E (0, 0) (va_up (va_up g 291 (xJ S 24 (psZ z.1 z.2.1 (suZ z.1 z.2.1 z.2.2.2.2.2.2.2.2.2.2.2.2.1 5) t2))) 292 (xJ S 24 a2)) 20 [some (.ref (E.1 286)), some (.int (nI t)), some (.int (nI (1 + t2)))] []) (T := z.1 - (z.2.1 + 1)) ?_ (fun t2 ht ih => ?_)
    · show G M S E (0, 0) (va_up (va_up g 291 (xJ S 24 (psZ z.1 z.2.1 (suZ z.1 z.2.1 z.2.2.2.2.2.2.2.2.2.2.2.2.1 5) (z.1 - (z.2.1 + 1))))) 292 (xJ S 24 a2)) 20 [some (.ref (E.1 286)), some (.int (nI t)), some (.int (nI (1 + (z.1 - (z.2.1 + 1)))))] []
      refine r_aload_n (pc := 20) C dX8_productSide_20 rfl ?_
      refine r_getf (pc := 21) C dX8_productSide_21 fl_RX8_109 (Ce.up (Ce.up hM.1 (by decide)) (by decide)) rfl ?_
      refine r_iload_n (pc := 24) C dX8_productSide_24 rfl ?_
      refine r_iadd (pc := 25) C dX8_productSide_25 ?_
      refine r_ti (nI (z.2.1 + (1 + (z.1 - (z.2.1 + 1))))) (nI_add _ _) ?_
      refine r_aload_n (pc := 26) C dX8_productSide_26 rfl ?_
      refine r_getf (pc := 27) C dX8_productSide_27 fl_RX8_17 (Ce.up (Ce.up hM.1 (by decide)) (by decide)) rfl ?_
      refine r_icmp_ge (pc := 30) (tgt := 54) C dX8_productSide_30 (by decide) (fun h30 => ?_) (fun h30 => ?_)
      · have h30 := c_le (by omega) (by omega) h30
        refine r_aload_n (pc := 54) C dX8_productSide_54 rfl ?_
        refine r_iload_n (pc := 55) C dX8_productSide_55 rfl ?_
        have hM1 : MC S E (va_up (va_up g 291 (xJ S 24 (psZ z.1 z.2.1 (suZ z.1 z.2.1 z.2.2.2.2.2.2.2.2.2.2.2.2.1 5) (z.1 - (z.2.1 + 1))))) 292 (xJ S 24 a2)) (s_f12 z (psZ z.1 z.2.1 (suZ z.1 z.2.1 z.2.2.2.2.2.2.2.2.2.2.2.2.1 5) (z.1 - (z.2.1 + 1))) a2) := ⟨(Ce.up (Ce.up hM.1 (by decide)) (by decide)), (Ce.up (Ce.up hM.2.1 (by decide)) (by decide)), (Ce.up (Ce.up hM.2.2.1 (by decide)) (by decide)), (Ce.up (Ce.up hM.2.2.2.1 (by decide)) (by decide)), (Ce.up (Ce.up hM.2.2.2.2.1 (by decide)) (by decide)), (Ce.up (Ce.new hM.2.2.2.2.2.1) (by decide)), (Ce.new (Ce.up hM.2.2.2.2.2.2.1 (by decide))), (Ce.up (Ce.up hM.2.2.2.2.2.2.2.1 (by decide)) (by decide)), (Ce.up (Ce.up hM.2.2.2.2.2.2.2.2.1 (by decide)) (by decide)), (Ce.up (Ce.up hM.2.2.2.2.2.2.2.2.2.1 (by decide)) (by decide)), (Ce.up (Ce.up hM.2.2.2.2.2.2.2.2.2.2.1 (by decide)) (by decide)), (Ce.up (Ce.up hM.2.2.2.2.2.2.2.2.2.2.2.1 (by decide)) (by decide)), (Ce.up (Ce.up hM.2.2.2.2.2.2.2.2.2.2.2.2.1 (by decide)) (by decide)), (Ce.up (Ce.up hM.2.2.2.2.2.2.2.2.2.2.2.2.2.1 (by decide)) (by decide)), (Ce.up (Ce.up hM.2.2.2.2.2.2.2.2.2.2.2.2.2.2.1 (by decide)) (by decide)), (Ce.up (Ce.up hM.2.2.2.2.2.2.2.2.2.2.2.2.2.2.2.1 (by decide)) (by decide)), (Ce.up (Ce.up hM.2.2.2.2.2.2.2.2.2.2.2.2.2.2.2.2.1 (by decide)) (by decide)), (Ce.up (Ce.up hM.2.2.2.2.2.2.2.2.2.2.2.2.2.2.2.2.2.1 (by decide)) (by decide)), (Ce.up (Ce.up hM.2.2.2.2.2.2.2.2.2.2.2.2.2.2.2.2.2.2.1 (by decide)) (by decide)), (Ce.up (Ce.up hM.2.2.2.2.2.2.2.2.2.2.2.2.2.2.2.2.2.2.2.1 (by decide)) (by decide)), (Ce.up (Ce.up hM.2.2.2.2.2.2.2.2.2.2.2.2.2.2.2.2.2.2.2.2.1 (by decide)) (by decide)), (Ce.up (Ce.up hM.2.2.2.2.2.2.2.2.2.2.2.2.2.2.2.2.2.2.2.2.2 (by decide)) (by decide))⟩
        have hf1 : Fr g (va_up (va_up g 291 (xJ S 24 (psZ z.1 z.2.1 (suZ z.1 z.2.1 z.2.2.2.2.2.2.2.2.2.2.2.2.1 5) (z.1 - (z.2.1 + 1))))) 292 (xJ S 24 a2)) 286 308 := ((Fr.rf.up (by omega) (by omega)).up (by omega) (by omega))
        refine r_callV (pc := 56) C dX8_productSide_56 cv_RX8_133 (c_X8_store hM1 hN t ht) ⟨rfl, rfl, by decide, by decide⟩ (Ce.up (Ce.up hM.1 (by decide)) (by decide)) rfl rfl (Nat.le_of_ble_eq_true rfl) ⟨Nat.zero_le _, Nat.zero_le _⟩ ?_
        rintro _ g2 ⟨_, rfl, rfl, hM2, hF2⟩
        show G M S E (0, 0) g2 59 [some (.ref (E.1 286)), some (.int (nI t)), some (.int (nI (1 + (z.1 - (z.2.1 + 1)))))] [.int (stV (s_f12 z (psZ z.1 z.2.1 (suZ z.1 z.2.1 z.2.2.2.2.2.2.2.2.2.2.2.2.1 5) (z.1 - (z.2.1 + 1))) a2))]
        rw [stZ_f2] at hM2
        exact r_iret (pc := 59) C Z dX8_productSide_59 rfl (by rw [show qPrS z (nI t) = sto z (psZ z.1 z.2.1 (suZ z.1 z.2.1 z.2.2.2.2.2.2.2.2.2.2.2.2.1 5) (z.1 - (z.2.1 + 1))) t by simp only [qPrS, h4, iN_nI (show t < 2 ^ 31 by omega), cond_true, cond_false, if_true, if_false, not_true_eq_false, not_false_eq_true, ↓reduceIte]]; exact ⟨stV_f2 z _ a2, ⟨a2, hM2⟩, hf1.tr hF2 (by omega) (by omega)⟩)
      · have h30 := c_nle (by omega) (by omega) h30
        omega
    · show G M S E (0, 0) (va_up (va_up g 291 (xJ S 24 (psZ z.1 z.2.1 (suZ z.1 z.2.1 z.2.2.2.2.2.2.2.2.2.2.2.2.1 5) t2))) 292 (xJ S 24 a2)) 20 [some (.ref (E.1 286)), some (.int (nI t)), some (.int (nI (1 + t2)))] []
      refine r_aload_n (pc := 20) C dX8_productSide_20 rfl ?_
      refine r_getf (pc := 21) C dX8_productSide_21 fl_RX8_109 (Ce.up (Ce.up hM.1 (by decide)) (by decide)) rfl ?_
      refine r_iload_n (pc := 24) C dX8_productSide_24 rfl ?_
      refine r_iadd (pc := 25) C dX8_productSide_25 ?_
      refine r_ti (nI (z.2.1 + (1 + t2))) (nI_add _ _) ?_
      refine r_aload_n (pc := 26) C dX8_productSide_26 rfl ?_
      refine r_getf (pc := 27) C dX8_productSide_27 fl_RX8_17 (Ce.up (Ce.up hM.1 (by decide)) (by decide)) rfl ?_
      refine r_icmp_ge (pc := 30) (tgt := 54) C dX8_productSide_30 (by decide) (fun h30 => ?_) (fun h30 => ?_)
      · have h30 := c_le (by omega) (by omega) h30
        omega
      · have h30 := c_nle (by omega) (by omega) h30
        refine r_aload_n (pc := 33) C dX8_productSide_33 rfl ?_
        refine r_aload_n (pc := 34) C dX8_productSide_34 rfl ?_
        refine r_getf (pc := 35) C dX8_productSide_35 fl_RX8_34 (Ce.up (Ce.up hM.1 (by decide)) (by decide)) rfl ?_
        refine r_aload_n (pc := 38) C dX8_productSide_38 rfl ?_
        refine r_getf (pc := 39) C dX8_productSide_39 fl_RX8_109 (Ce.up (Ce.up hM.1 (by decide)) (by decide)) rfl ?_
        refine r_iload_n (pc := 42) C dX8_productSide_42 rfl ?_
        refine r_iadd (pc := 43) C dX8_productSide_43 ?_
        refine r_ti (nI (z.2.1 + (1 + t2))) (nI_add _ _) ?_
        refine r_iconst (pc := 44) (v := (-1)) C dX8_productSide_44 (by decide +kernel) ?_
        refine r_callV (pc := 45) C dX8_productSide_45 cv_RX8_89 (c_X8_over (Ce.up (Ce.up hM.1 (by decide)) (by decide)) rfl hN (Ce.up (Ce.new hM.2.2.2.2.2.1) (by decide)) (by decide) (z.2.1 + (1 + t2)) (-1) (by omega) (by decide)) ⟨rfl, rfl, by decide, by decide⟩ (Ce.up (Ce.up hM.1 (by decide)) (by decide)) rfl rfl (Nat.le_of_ble_eq_true rfl) ⟨Nat.zero_le _, Nat.zero_le _⟩ ?_
        rintro _ _ ⟨rfl, rfl⟩
        show G M S E (0, 0) (va_up (va_up (va_up g 291 (xJ S 24 (psZ z.1 z.2.1 (suZ z.1 z.2.1 z.2.2.2.2.2.2.2.2.2.2.2.2.1 5) t2))) 292 (xJ S 24 a2)) 291 (xJ S 24 (ovF z.1 (z.2.1 + (1 + t2)) (psZ z.1 z.2.1 (suZ z.1 z.2.1 z.2.2.2.2.2.2.2.2.2.2.2.2.1 5) t2)))) 48 [some (.ref (E.1 286)), some (.int (nI t)), some (.int (nI (1 + t2)))] []
        refine G.heap (show (va_up (va_up (va_up g 291 (xJ S 24 (psZ z.1 z.2.1 (suZ z.1 z.2.1 z.2.2.2.2.2.2.2.2.2.2.2.2.1 5) t2))) 292 (xJ S 24 a2)) 291 (xJ S 24 (ovF z.1 (z.2.1 + (1 + t2)) (psZ z.1 z.2.1 (suZ z.1 z.2.1 z.2.2.2.2.2.2.2.2.2.2.2.2.1 5) t2)))) = (va_up (va_up g 291 (xJ S 24 (ovF z.1 (z.2.1 + (1 + t2)) (psZ z.1 z.2.1 (suZ z.1 z.2.1 z.2.2.2.2.2.2.2.2.2.2.2.2.1 5) t2)))) 292 (xJ S 24 a2)) from by funext q; simp only [va_up]; (repeat' split) <;> first | rfl | omega) ?_
        refine r_iinc (pc := 48) (v := nI (1 + t2 + 1)) C dX8_productSide_48 rfl (nI_i1 _) (by decide) ?_
        refine G.eq (pc' := 51) (vs' := [some (.ref (E.1 286)), some (.int (nI t)), some (.int (nI (1 + t2 + 1)))]) (st' := []) ?_
        refine r_goto (pc := 51) (tgt := 20) C dX8_productSide_51 (by decide) ?_
        exact ih
  · have h4 := b_f h4
    refine r_bipush (pc := 7) (v := (-2)) C dX8_productSide_7 (by decide +kernel) ?_
    exact r_iret (pc := 9) C Z dX8_productSide_9 rfl (by rw [show qPrS z x = (-2, z) by simp only [qPrS, h4, cond_true, cond_false, if_true, if_false, not_true_eq_false, not_false_eq_true, ↓reduceIte]]; exact ⟨rfl, ⟨z.2.2.2.2.2.2.2.2.2.2.2.2.2.2.2.2.1, hM⟩, Fr.rf⟩)
