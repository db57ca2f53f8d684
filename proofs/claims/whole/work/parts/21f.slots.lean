def qRel (z : MZ) (x : Int32) : Int32 × MZ := bif hix 4 x then (if 0 ≤ z.2.2.2.2.2.2.2.2.2.2.2.2.2.2.2.2.2.2.2.2.2.2.2.2.2.2.2.2.1 (iN x) then nI 1 else nI 0, s_ss z (upd z.2.2.2.2.2.2.2.2.2.2.2.2.2.2.2.2.2.2.2.2.2.2.2.2.2.2.2.2.1 (iN x) (-1))) else (-1, z)
set_option maxHeartbeats 4000000 in
set_option maxRecDepth 100000 in
theorem c_X8_release {S : ST} {E : ET} {g : Nat → va_E} {z : MZ} (hM : MC S E g z) (x : Int32) : CtI S E yX8_release cX8_release 3 (Option.some FieldType.int) rmX8_release [.ref (E.1 286), .int x] g (fun u g' => u = (qRel z x).1 ∧ MC S E g' (qRel z x).2 ∧ Fr g g' 286 308) := by
  refine Ct.of RX8 (by decide +kernel) rfl (Nat.le_of_ble_eq_true rfl) (fun M C Z => ?_)
  refine G.eq (pc' := 0) (vs' := [some (.ref (E.1 286)), some (.int x), none]) (st' := []) ?_
  refine r_iload_n (pc := 0) C dX8_release_0 rfl ?_
  refine r_callS (pc := 1) C dX8_release_1 cs_RX8_287 (c_X8_isSlot x) ⟨rfl, rfl, by decide, by decide⟩ rfl rfl (Nat.le_of_ble_eq_true rfl) ⟨Nat.zero_le _, Nat.zero_le _⟩ ?_
  rintro _ _ ⟨_, rfl, rfl, rfl⟩
  show G M S E (0, 0) g 4 [some (.ref (E.1 286)), some (.int x), none] [.int (b2i (hix 4 x))]
  refine r_if_ne (pc := 4) (tgt := 9) C dX8_release_4 (by decide) (fun h4 => ?_) (fun h4 => ?_)
  · have h4 := b_t h4
    obtain ⟨t, rfl, ht⟩ := hix_nat h4 (by omega)
    refine r_aload_n (pc := 9) C dX8_release_9 rfl ?_
    refine r_getf (pc := 10) C dX8_release_10 fl_RX8_74 hM.1 rfl ?_
    refine r_iload_n (pc := 13) C dX8_release_13 rfl ?_
    refine r_iald (pc := 14) C dX8_release_14 hM.2.2.2.2.2.2.2.2.2.2.2.2.2.2.2.2.2.2.1 rfl (by omega) (by omega) ?_
    refine r_if_ge (pc := 15) (tgt := 22) C dX8_release_15 (by decide) (fun h15 => ?_) (fun h15 => ?_)
    · refine r_iconst (pc := 22) (v := nI 1) C dX8_release_22 (by decide +kernel) ?_
      refine r_istore_n (pc := 23) C dX8_release_23 (by decide) ?_
      refine G.eq (pc' := 24) (vs' := [some (.ref (E.1 286)), some (.int (nI t)), some (.int (nI 1))]) (st' := []) ?_
      refine r_aload_n (pc := 24) C dX8_release_24 rfl ?_
      refine r_getf (pc := 25) C dX8_release_25 fl_RX8_74 hM.1 rfl ?_
      refine r_iload_n (pc := 28) C dX8_release_28 rfl ?_
      refine r_iconst (pc := 29) (v := (-1)) C dX8_release_29 (by decide +kernel) ?_
      refine r_iast (pc := 30) C dX8_release_30 hM.2.2.2.2.2.2.2.2.2.2.2.2.2.2.2.2.2.2.1 rfl (by omega) (by omega) ?_
      refine r_iload_n (pc := 31) C dX8_release_31 rfl ?_
      exact r_iret (pc := 32) C Z dX8_release_32 rfl (by rw [show qRel z (nI t) = (nI 1, s_ss z (upd z.2.2.2.2.2.2.2.2.2.2.2.2.2.2.2.2.2.2.2.2.2.2.2.2.2.2.2.2.1 t (-1))) by simp only [qRel, h4, cond_true, iN_nI (show t < 2 ^ 31 by omega)]; rw [if_pos h15]]; exact ⟨rfl, ⟨(Ce.up hM.1 (by decide)), (Ce.up hM.2.1 (by decide)), (Ce.up hM.2.2.1 (by decide)), (Ce.up hM.2.2.2.1 (by decide)), (Ce.up hM.2.2.2.2.1 (by decide)), (Ce.up hM.2.2.2.2.2.1 (by decide)), (Ce.up hM.2.2.2.2.2.2.1 (by decide)), (Ce.up hM.2.2.2.2.2.2.2.1 (by decide)), (Ce.up hM.2.2.2.2.2.2.2.2.1 (by decide)), (Ce.up hM.2.2.2.2.2.2.2.2.2.1 (by decide)), (Ce.up hM.2.2.2.2.2.2.2.2.2.2.1 (by decide)), (Ce.up hM.2.2.2.2.2.2.2.2.2.2.2.1 (by decide)), (Ce.up hM.2.2.2.2.2.2.2.2.2.2.2.2.1 (by decide)), (Ce.up hM.2.2.2.2.2.2.2.2.2.2.2.2.2.1 (by decide)), (Ce.up hM.2.2.2.2.2.2.2.2.2.2.2.2.2.2.1 (by decide)), (Ce.up hM.2.2.2.2.2.2.2.2.2.2.2.2.2.2.2.1 (by decide)), (Ce.up hM.2.2.2.2.2.2.2.2.2.2.2.2.2.2.2.2.1 (by decide)), (Ce.up hM.2.2.2.2.2.2.2.2.2.2.2.2.2.2.2.2.2.1 (by decide)), (Ce.new hM.2.2.2.2.2.2.2.2.2.2.2.2.2.2.2.2.2.2.1), (Ce.up hM.2.2.2.2.2.2.2.2.2.2.2.2.2.2.2.2.2.2.2.1 (by decide)), (Ce.up hM.2.2.2.2.2.2.2.2.2.2.2.2.2.2.2.2.2.2.2.2.1 (by decide)), (Ce.up hM.2.2.2.2.2.2.2.2.2.2.2.2.2.2.2.2.2.2.2.2.2 (by decide))⟩, (Fr.rf.up (by omega) (by omega))⟩)
    · refine r_iconst (pc := 18) (v := nI 0) C dX8_release_18 (by decide +kernel) ?_
      refine r_goto (pc := 19) (tgt := 23) C dX8_release_19 (by decide) ?_
      refine r_istore_n (pc := 23) C dX8_release_23 (by decide) ?_
      refine G.eq (pc' := 24) (vs' := [some (.ref (E.1 286)), some (.int (nI t)), some (.int (nI 0))]) (st' := []) ?_
      refine r_aload_n (pc := 24) C dX8_release_24 rfl ?_
      refine r_getf (pc := 25) C dX8_release_25 fl_RX8_74 hM.1 rfl ?_
      refine r_iload_n (pc := 28) C dX8_release_28 rfl ?_
      refine r_iconst (pc := 29) (v := (-1)) C dX8_release_29 (by decide +kernel) ?_
      refine r_iast (pc := 30) C dX8_release_30 hM.2.2.2.2.2.2.2.2.2.2.2.2.2.2.2.2.2.2.1 rfl (by omega) (by omega) ?_
      refine r_iload_n (pc := 31) C dX8_release_31 rfl ?_
      exact r_iret (pc := 32) C Z dX8_release_32 rfl (by rw [show qRel z (nI t) = (nI 0, s_ss z (upd z.2.2.2.2.2.2.2.2.2.2.2.2.2.2.2.2.2.2.2.2.2.2.2.2.2.2.2.2.1 t (-1))) by simp only [qRel, h4, cond_true, iN_nI (show t < 2 ^ 31 by omega)]; rw [if_neg h15]]; exact ⟨rfl, ⟨(Ce.up hM.1 (by decide)), (Ce.up hM.2.1 (by decide)), (Ce.up hM.2.2.1 (by decide)), (Ce.up hM.2.2.2.1 (by decide)), (Ce.up hM.2.2.2.2.1 (by decide)), (Ce.up hM.2.2.2.2.2.1 (by decide)), (Ce.up hM.2.2.2.2.2.2.1 (by decide)), (Ce.up hM.2.2.2.2.2.2.2.1 (by decide)), (Ce.up hM.2.2.2.2.2.2.2.2.1 (by decide)), (Ce.up hM.2.2.2.2.2.2.2.2.2.1 (by decide)), (Ce.up hM.2.2.2.2.2.2.2.2.2.2.1 (by decide)), (Ce.up hM.2.2.2.2.2.2.2.2.2.2.2.1 (by decide)), (Ce.up hM.2.2.2.2.2.2.2.2.2.2.2.2.1 (by decide)), (Ce.up hM.2.2.2.2.2.2.2.2.2.2.2.2.2.1 (by decide)), (Ce.up hM.2.2.2.2.2.2.2.2.2.2.2.2.2.2.1 (by decide)), (Ce.up hM.2.2.2.2.2.2.2.2.2.2.2.2.2.2.2.1 (by decide)), (Ce.up hM.2.2.2.2.2.2.2.2.2.2.2.2.2.2.2.2.1 (by decide)), (Ce.up hM.2.2.2.2.2.2.2.2.2.2.2.2.2.2.2.2.2.1 (by decide)), (Ce.new hM.2.2.2.2.2.2.2.2.2.2.2.2.2.2.2.2.2.2.1), (Ce.up hM.2.2.2.2.2.2.2.2.2.2.2.2.2.2.2.2.2.2.2.1 (by decide)), (Ce.up hM.2.2.2.2.2.2.2.2.2.2.2.2.2.2.2.2.2.2.2.2.1 (by decide)), (Ce.up hM.2.2.2.2.2.2.2.2.2.2.2.2.2.2.2.2.2.2.2.2.2 (by decide))⟩, (Fr.rf.up (by omega) (by omega))⟩)
  · have h4 := b_f h4
    refine r_iconst (pc := 7) (v := (-1)) C dX8_release_7 (by decide +kernel) ?_
    exact r_iret (pc := 8) C Z dX8_release_8 rfl (by rw [show qRel z x = (-1, z) by simp only [qRel, h4, cond_true, cond_false, if_true, if_false, not_true_eq_false, not_false_eq_true, ↓reduceIte]]; exact ⟨rfl, hM, Fr.rf⟩)
