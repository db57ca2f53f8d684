theorem stZ_f2 (z : MZ) (c a : Nat → Int64) (t : Nat) : stZ (s_f12 z c a) t = s_f2 (stZ (s_f1 z c) t) a := by
  have e1 : stZ (s_f12 z c a) t = bif fitB 24 c then s_fr (s_f12 z c a) (stR z.2.2.2.2.2.2.2.2.2.2.2.1 t c) else s_f12 z c a := by unfold stZ; rfl
  have e2 : stZ (s_f1 z c) t = bif fitB 24 c then s_fr (s_f1 z c) (stR z.2.2.2.2.2.2.2.2.2.2.2.1 t c) else s_f1 z c := by unfold stZ; rfl
  rw [e1, e2]
  cases fitB 24 c with
  | true => simp only [cond_true, s_fr, s_f12, s_f2, s_f1]
  | false => simp only [cond_false, s_f12, s_f2, s_f1]
theorem stV_f2 (z : MZ) (c a : Nat → Int64) : stV (s_f12 z c a) = stV (s_f1 z c) := by
  simp only [stV, s_f12, s_f1]
set_option maxHeartbeats 4000000 in
set_option maxRecDepth 100000 in
theorem c_X8_sumSide {S : ST} {E : ET} {g : Nat → va_E} {z : MZ} (hM : MC S E g z) (h4n : 4 ≤ z.1) (hN : z.1 ≤ 24) (hr : z.2.1 ≤ 1) (x : Int32) : CtI S E yX8_sumSide cX8_sumSide 2 (Option.some FieldType.int) rmX8_sumSide [.ref (E.1 286), .int x] g (fun u g' => u = (qSum z x).1 ∧ (∃ a : Nat → Int64, MC S E g' (s_f2 (qSum z x).2 a)) ∧ Fr g g' 286 308) := by
  refine Ct.of RX8 (by decide +kernel) rfl (Nat.le_of_ble_eq_true rfl) (fun M C Z => ?_)
  refine G.eq (pc' := 0) (vs' := [some (.ref (E.1 286)), some (.int x)]) (st' := []) ?_
  refine r_iload_n (pc := 0) C dX8_sumSide_0 rfl ?_
  refine r_callS (pc := 1) C dX8_sumSide_1 cs_RX8_112 (c_X8_isRegister x) ⟨rfl, rfl, by decide, by decide⟩ rfl rfl (Nat.le_of_ble_eq_true rfl) ⟨Nat.zero_le _, Nat.zero_le _⟩ ?_
  rintro _ _ ⟨_, rfl, rfl, rfl⟩
  show G M S E (0, 0) g 4 [some (.ref (E.1 286)), some (.int x)] [.int (b2i (hix 6 x))]
  refine r_if_ne (pc := 4) (tgt := 10) C dX8_sumSide_4 (by decide) (fun h4 => ?_) (fun h4 => ?_)
  · have h4 := b_t h4
    obtain ⟨t, rfl, ht⟩ := hix_nat h4 (by omega)
    refine r_aload_n (pc := 10) C dX8_sumSide_10 rfl ?_
    refine r_aload_n (pc := 11) C dX8_sumSide_11 rfl ?_
    refine r_getf (pc := 12) C dX8_sumSide_12 fl_RX8_28 hM.1 rfl ?_
    refine r_callV (pc := 15) C dX8_sumSide_15 cv_RX8_219 (c_X8_sumWeighted ⟨_, hM.1, rfl, rfl, rfl, rfl, rfl, rfl, rfl, rfl, rfl, rfl, rfl, rfl, rfl, rfl, rfl, rfl, rfl, rfl, rfl, rfl, rfl, rfl, rfl⟩ hN hr hM.2.2.2.1 (by decide) (by decide) (by decide) hM.2.2.2.2.2.1 hM.2.2.2.2.2.2.1) ⟨rfl, rfl, by decide, by decide⟩ hM.1 rfl rfl (Nat.le_of_ble_eq_true rfl) ⟨Nat.zero_le _, Nat.zero_le _⟩ ?_
    rintro _ _ ⟨rfl, a2, rfl⟩
    show G M S E (0, 0) (va_up (va_up g 291 (xJ S 24 (suZ z.1 z.2.1 z.2.2.2.2.2.2.2.2.2.2.2.2.2.1 5))) 292 (xJ S 24 a2)) 18 [some (.ref (E.1 286)), some (.int (nI t))] []
    refine r_aload_n (pc := 18) C dX8_sumSide_18 rfl ?_
    refine r_iload_n (pc := 19) C dX8_sumSide_19 rfl ?_
    have hM1 : MC S E (va_up (va_up g 291 (xJ S 24 (suZ z.1 z.2.1 z.2.2.2.2.2.2.2.2.2.2.2.2.2.1 5))) 292 (xJ S 24 a2)) (s_f12 z (suZ z.1 z.2.1 z.2.2.2.2.2.2.2.2.2.2.2.2.2.1 5) a2) := ⟨(Ce.up (Ce.up hM.1 (by decide)) (by decide)), (Ce.up (Ce.up hM.2.1 (by decide)) (by decide)), (Ce.up (Ce.up hM.2.2.1 (by decide)) (by decide)), (Ce.up (Ce.up hM.2.2.2.1 (by decide)) (by decide)), (Ce.up (Ce.up hM.2.2.2.2.1 (by decide)) (by decide)), (Ce.up (Ce.new hM.2.2.2.2.2.1) (by decide)), (Ce.new (Ce.up hM.2.2.2.2.2.2.1 (by decide))), (Ce.up (Ce.up hM.2.2.2.2.2.2.2.1 (by decide)) (by decide)), (Ce.up (Ce.up hM.2.2.2.2.2.2.2.2.1 (by decide)) (by decide)), (Ce.up (Ce.up hM.2.2.2.2.2.2.2.2.2.1 (by decide)) (by decide)), (Ce.up (Ce.up hM.2.2.2.2.2.2.2.2.2.2.1 (by decide)) (by decide)), (Ce.up (Ce.up hM.2.2.2.2.2.2.2.2.2.2.2.1 (by decide)) (by decide)), (Ce.up (Ce.up hM.2.2.2.2.2.2.2.2.2.2.2.2.1 (by decide)) (by decide)), (Ce.up (Ce.up hM.2.2.2.2.2.2.2.2.2.2.2.2.2.1 (by decide)) (by decide)), (Ce.up (Ce.up hM.2.2.2.2.2.2.2.2.2.2.2.2.2.2.1 (by decide)) (by decide)), (Ce.up (Ce.up hM.2.2.2.2.2.2.2.2.2.2.2.2.2.2.2.1 (by decide)) (by decide)), (Ce.up (Ce.up hM.2.2.2.2.2.2.2.2.2.2.2.2.2.2.2.2.1 (by decide)) (by decide)), (Ce.up (Ce.up hM.2.2.2.2.2.2.2.2.2.2.2.2.2.2.2.2.2.1 (by decide)) (by decide)), (Ce.up (Ce.up hM.2.2.2.2.2.2.2.2.2.2.2.2.2.2.2.2.2.2.1 (by decide)) (by decide)), (Ce.up (Ce.up hM.2.2.2.2.2.2.2.2.2.2.2.2.2.2.2.2.2.2.2.1 (by decide)) (by decide)), (Ce.up (Ce.up hM.2.2.2.2.2.2.2.2.2.2.2.2.2.2.2.2.2.2.2.2.1 (by decide)) (by decide)), (Ce.up (Ce.up hM.2.2.2.2.2.2.2.2.2.2.2.2.2.2.2.2.2.2.2.2.2 (by decide)) (by decide))⟩
    have hf1 : Fr g (va_up (va_up g 291 (xJ S 24 (suZ z.1 z.2.1 z.2.2.2.2.2.2.2.2.2.2.2.2.2.1 5))) 292 (xJ S 24 a2)) 286 308 := ((Fr.rf.up (by omega) (by omega)).up (by omega) (by omega))
    refine r_callV (pc := 20) C dX8_sumSide_20 cv_RX8_133 (c_X8_store hM1 hN t ht) ⟨rfl, rfl, by decide, by decide⟩ (Ce.up (Ce.up hM.1 (by decide)) (by decide)) rfl rfl (Nat.le_of_ble_eq_true rfl) ⟨Nat.zero_le _, Nat.zero_le _⟩ ?_
    rintro _ g2 ⟨_, rfl, rfl, hM2, hF2⟩
    show G M S E (0, 0) g2 23 [some (.ref (E.1 286)), some (.int (nI t))] [.int (stV (s_f12 z (suZ z.1 z.2.1 z.2.2.2.2.2.2.2.2.2.2.2.2.2.1 5) a2))]
    rw [stZ_f2] at hM2
    exact r_iret (pc := 23) C Z dX8_sumSide_23 rfl (by rw [show qSum z (nI t) = sto z (suZ z.1 z.2.1 z.2.2.2.2.2.2.2.2.2.2.2.2.2.1 5) t by simp only [qSum, h4, iN_nI (show t < 2 ^ 31 by omega), cond_true, cond_false, if_true, if_false, not_true_eq_false, not_false_eq_true, ↓reduceIte]]; exact ⟨stV_f2 z _ a2, ⟨a2, hM2⟩, hf1.tr hF2 (by omega) (by omega)⟩)
  · have h4 := b_f h4
    refine r_bipush (pc := 7) (v := (-2)) C dX8_sumSide_7 (by decide +kernel) ?_
    exact r_iret (pc := 9) C Z dX8_sumSide_9 rfl (by rw [show qSum z x = (-2, z) by simp only [qSum, h4, cond_true, cond_false, if_true, if_false, not_true_eq_false, not_false_eq_true, ↓reduceIte]]; exact ⟨rfl, ⟨z.2.2.2.2.2.2.2.2.2.2.2.2.2.2.2.2.1, hM⟩, Fr.rf⟩)
