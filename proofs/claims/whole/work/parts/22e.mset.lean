set_option maxHeartbeats 4000000 in
set_option maxRecDepth 100000 in
theorem c_X8_replace_294 {S : ST} {E : ET} {g : Nat → va_E} {N r : Nat} (hMB : MB E g N r) (hN : N ≤ 24) (hr : r ≤ 1) {f fr : Nat → Int64} (c294 : Ce E g 294 (xJ S 120 f)) (c287 : Ce E g 287 (xJ S 144 fr)) (i t : Nat) (hi : i < 5) (ht : t < 6) : CtI S E yX8_replace cX8_replace 6 (Option.some FieldType.int) rmX8_replace [.ref (E.1 286), .ref (E.1 294), .int (nI i), .int (nI t)] g (fun u g' => u = chZ f fr i t 24 ∧ g' = va_up g 294 (xJ S 120 (rpZ f fr i t))) := by
  refine Ct.of RX8 (by decide +kernel) rfl (Nat.le_of_ble_eq_true rfl) (fun M C Z => ?_)
  obtain ⟨fs, hb⟩ := id hMB
  refine G.eq (pc' := 0) (vs' := [some (.ref (E.1 286)), some (.ref (E.1 294)), some (.int (nI i)), some (.int (nI t)), none, none]) (st' := []) ?_
  refine r_iconst (pc := 0) (v := nI 0) C dX8_replace_0 (by decide +kernel) ?_
  refine r_istore (pc := 1) C dX8_replace_1 (by decide) ?_
  refine G.eq (pc' := 3) (vs' := [some (.ref (E.1 286)), some (.ref (E.1 294)), some (.int (nI i)), some (.int (nI t)), some (.int (nI 0)), none]) (st' := []) ?_
  refine r_iconst (pc := 3) (v := nI 0) C dX8_replace_3 (by decide +kernel) ?_
  refine r_istore (pc := 4) C dX8_replace_4 (by decide) ?_
  refine G.eq (pc' := 6) (vs' := [some (.ref (E.1 286)), some (.ref (E.1 294)), some (.int (nI i)), some (.int (nI t)), some (.int (nI 0)), some (.int (nI 0))]) (st' := []) ?_
  refine G.heap (Ce.id c294) ?_
  refine bk (P := fun t2 => G M S E (0, 0) (va_up g 294 (xJ S 120 (rpI f fr i t t2))) 6 [some (.ref (E.1 286)), some (.ref (E.1 294)), some (.int (nI i)), some (.int (nI t)), some (.int (chZ f fr i t t2)), some (.int (nI t2))] []) (T := 24) ?_ (fun t2 ht ih => ?_)
  · show G M S E (0, 0) (va_up g 294 (xJ S 120 (rpI f fr i t 24))) 6 [some (.ref (E.1 286)), some (.ref (E.1 294)), some (.int (nI i)), some (.int (nI t)), some (.int (chZ f fr i t 24)), some (.int (nI 24))] []
    refine r_iload (pc := 6) C dX8_replace_6 rfl ?_
    refine r_bipush (pc := 8) (v := nI 24) C dX8_replace_8 (by decide +kernel) ?_
    refine r_icmp_ge (pc := 10) (tgt := 73) C dX8_replace_10 (by decide) (fun h10 => ?_) (fun h10 => ?_)
    · have h10 := c_le (by omega) (by omega) h10
      refine G.cJ (f' := rpZ f fr i t) (fun j _ => rpI_end f fr i t j) ?_
      refine r_iload (pc := 73) C dX8_replace_73 rfl ?_
      exact r_iret (pc := 75) C Z dX8_replace_75 rfl (⟨rfl, rfl⟩)
    · have h10 := c_nle (by omega) (by omega) h10
      omega
  · show G M S E (0, 0) (va_up g 294 (xJ S 120 (rpI f fr i t t2))) 6 [some (.ref (E.1 286)), some (.ref (E.1 294)), some (.int (nI i)), some (.int (nI t)), some (.int (chZ f fr i t t2)), some (.int (nI t2))] []
    refine r_iload (pc := 6) C dX8_replace_6 rfl ?_
    refine r_bipush (pc := 8) (v := nI 24) C dX8_replace_8 (by decide +kernel) ?_
    refine r_icmp_ge (pc := 10) (tgt := 73) C dX8_replace_10 (by decide) (fun h10 => ?_) (fun h10 => ?_)
    · have h10 := c_le (by omega) (by omega) h10
      omega
    · have h10 := c_nle (by omega) (by omega) h10
      refine r_aload_n (pc := 13) C dX8_replace_13 rfl ?_
      refine r_bipush (pc := 14) (v := nI 24) C dX8_replace_14 (by decide +kernel) ?_
      refine r_iload_n (pc := 16) C dX8_replace_16 rfl ?_
      refine r_imul (pc := 17) C dX8_replace_17 ?_
      refine r_ti (nI (24 * i)) (pk_mul _ _) ?_
      refine r_iload (pc := 18) C dX8_replace_18 rfl ?_
      refine r_iadd (pc := 20) C dX8_replace_20 ?_
      refine r_ti (nI (24 * i + t2)) (nI_add _ _) ?_
      refine r_lald (pc := 21) C dX8_replace_21 (Ce.new c294) rfl (by omega) (by omega) ?_
      refine r_aload_n (pc := 22) C dX8_replace_22 rfl ?_
      refine r_getf (pc := 23) C dX8_replace_23 fl_RX8_21 (Ce.up hb.1 (by decide)) hb.2.2.2.1 ?_
      refine r_bipush (pc := 26) (v := nI 24) C dX8_replace_26 (by decide +kernel) ?_
      refine r_iload_n (pc := 28) C dX8_replace_28 rfl ?_
      refine r_imul (pc := 29) C dX8_replace_29 ?_
      refine r_ti (nI (24 * t)) (pk_mul _ _) ?_
      refine r_iload (pc := 30) C dX8_replace_30 rfl ?_
      refine r_iadd (pc := 32) C dX8_replace_32 ?_
      refine r_ti (nI (24 * t + t2)) (nI_add _ _) ?_
      refine r_lald (pc := 33) C dX8_replace_33 (Ce.up c287 (by decide)) rfl (by omega) (by omega) ?_
      refine r_lcmp (pc := 34) C dX8_replace_34 ?_
      refine r_if_eq (pc := 35) (tgt := 42) C dX8_replace_35 (by decide) (fun h35 => ?_) (fun h35 => ?_)
      · have h35 := k_eq h35
        refine r_iload (pc := 42) C dX8_replace_42 rfl ?_
        rw [rpI_at] at h35
        refine r_ti (chZ f fr i t (t2 + 1)) (by rw [chZ_s]; exact (if_pos h35).symm) ?_
        refine r_istore (pc := 44) C dX8_replace_44 (by decide) ?_
        refine G.eq (pc' := 46) (vs' := [some (.ref (E.1 286)), some (.ref (E.1 294)), some (.int (nI i)), some (.int (nI t)), some (.int (chZ f fr i t (t2 + 1))), some (.int (nI t2))]) (st' := []) ?_
        refine r_aload_n (pc := 46) C dX8_replace_46 rfl ?_
        refine r_bipush (pc := 47) (v := nI 24) C dX8_replace_47 (by decide +kernel) ?_
        refine r_iload_n (pc := 49) C dX8_replace_49 rfl ?_
        refine r_imul (pc := 50) C dX8_replace_50 ?_
        refine r_ti (nI (24 * i)) (pk_mul _ _) ?_
        refine r_iload (pc := 51) C dX8_replace_51 rfl ?_
        refine r_iadd (pc := 53) C dX8_replace_53 ?_
        refine r_ti (nI (24 * i + t2)) (nI_add _ _) ?_
        refine r_aload_n (pc := 54) C dX8_replace_54 rfl ?_
        refine r_getf (pc := 55) C dX8_replace_55 fl_RX8_21 (Ce.up hb.1 (by decide)) hb.2.2.2.1 ?_
        refine r_bipush (pc := 58) (v := nI 24) C dX8_replace_58 (by decide +kernel) ?_
        refine r_iload_n (pc := 60) C dX8_replace_60 rfl ?_
        refine r_imul (pc := 61) C dX8_replace_61 ?_
        refine r_ti (nI (24 * t)) (pk_mul _ _) ?_
        refine r_iload (pc := 62) C dX8_replace_62 rfl ?_
        refine r_iadd (pc := 64) C dX8_replace_64 ?_
        refine r_ti (nI (24 * t + t2)) (nI_add _ _) ?_
        refine r_lald (pc := 65) C dX8_replace_65 (Ce.up c287 (by decide)) rfl (by omega) (by omega) ?_
        refine r_last2 (pc := 66) C dX8_replace_66 c294.1 rfl (by omega) (by omega) ?_
        refine r_iinc (pc := 67) (v := nI (t2 + 1)) C dX8_replace_67 rfl (nI_i1 _) (by decide) ?_
        refine G.eq (pc' := 70) (vs' := [some (.ref (E.1 286)), some (.ref (E.1 294)), some (.int (nI i)), some (.int (nI t)), some (.int (chZ f fr i t (t2 + 1))), some (.int (nI (t2 + 1)))]) (st' := []) ?_
        refine r_goto (pc := 70) (tgt := 6) C dX8_replace_70 (by decide) ?_
        rw [rpI_s] at ih
        exact ih
      · have h35 := k_ne h35
        refine r_iconst (pc := 38) (v := nI 1) C dX8_replace_38 (by decide +kernel) ?_
        refine r_goto (pc := 39) (tgt := 44) C dX8_replace_39 (by decide) ?_
        rw [rpI_at] at h35
        refine r_ti (chZ f fr i t (t2 + 1)) (by rw [chZ_s]; exact (if_neg h35).symm) ?_
        refine r_istore (pc := 44) C dX8_replace_44 (by decide) ?_
        refine G.eq (pc' := 46) (vs' := [some (.ref (E.1 286)), some (.ref (E.1 294)), some (.int (nI i)), some (.int (nI t)), some (.int (chZ f fr i t (t2 + 1))), some (.int (nI t2))]) (st' := []) ?_
        refine r_aload_n (pc := 46) C dX8_replace_46 rfl ?_
        refine r_bipush (pc := 47) (v := nI 24) C dX8_replace_47 (by decide +kernel) ?_
        refine r_iload_n (pc := 49) C dX8_replace_49 rfl ?_
        refine r_imul (pc := 50) C dX8_replace_50 ?_
        refine r_ti (nI (24 * i)) (pk_mul _ _) ?_
        refine r_iload (pc := 51) C dX8_replace_51 rfl ?_
        refine r_iadd (pc := 53) C dX8_replace_53 ?_
        refine r_ti (nI (24 * i + t2)) (nI_add _ _) ?_
        refine r_aload_n (pc := 54) C dX8_replace_54 rfl ?_
        refine r_getf (pc := 55) C dX8_replace_55 fl_RX8_21 (Ce.up hb.1 (by decide)) hb.2.2.2.1 ?_
        refine r_bipush (pc := 58) (v := nI 24) C dX8_replace_58 (by decide +kernel) ?_
        refine r_iload_n (pc := 60) C dX8_replace_60 rfl ?_
        refine r_imul (pc := 61) C dX8_replace_61 ?_
        refine r_ti (nI (24 * t)) (pk_mul _ _) ?_
        refine r_iload (pc := 62) C dX8_replace_62 rfl ?_
        refine r_iadd (pc := 64) C dX8_replace_64 ?_
        refine r_ti (nI (24 * t + t2)) (nI_add _ _) ?_
        refine r_lald (pc := 65) C dX8_replace_65 (Ce.up c287 (by decide)) rfl (by omega) (by omega) ?_
        refine r_last2 (pc := 66) C dX8_replace_66 c294.1 rfl (by omega) (by omega) ?_
        refine r_iinc (pc := 67) (v := nI (t2 + 1)) C dX8_replace_67 rfl (nI_i1 _) (by decide) ?_
        refine G.eq (pc' := 70) (vs' := [some (.ref (E.1 286)), some (.ref (E.1 294)), some (.int (nI i)), some (.int (nI t)), some (.int (chZ f fr i t (t2 + 1))), some (.int (nI (t2 + 1)))]) (st' := []) ?_
        refine r_goto (pc := 70) (tgt := 6) C dX8_replace_70 (by decide) ?_
        rw [rpI_s] at ih
        exact ih
set_option maxHeartbeats 4000000 in
set_option maxRecDepth 100000 in
theorem c_X8_replace_295 {S : ST} {E : ET} {g : Nat → va_E} {N r : Nat} (hMB : MB E g N r) (hN : N ≤ 24) (hr : r ≤ 1) {f fr : Nat → Int64} (c295 : Ce E g 295 (xJ S 120 f)) (c287 : Ce E g 287 (xJ S 144 fr)) (i t : Nat) (hi : i < 5) (ht : t < 6) : CtI S E yX8_replace cX8_replace 6 (Option.some FieldType.int) rmX8_replace [.ref (E.1 286), .ref (E.1 295), .int (nI i), .int (nI t)] g (fun u g' => u = chZ f fr i t 24 ∧ g' = va_up g 295 (xJ S 120 (rpZ f fr i t))) := by
  refine Ct.of RX8 (by decide +kernel) rfl (Nat.le_of_ble_eq_true rfl) (fun M C Z => ?_)
  obtain ⟨fs, hb⟩ := id hMB
  refine G.eq (pc' := 0) (vs' := [some (.ref (E.1 286)), some (.ref (E.1 295)), some (.int (nI i)), some (.int (nI t)), none, none]) (st' := []) ?_
  refine r_iconst (pc := 0) (v := nI 0) C dX8_replace_0 (by decide +kernel) ?_
  refine r_istore (pc := 1) C dX8_replace_1 (by decide) ?_
  refine G.eq (pc' := 3) (vs' := [some (.ref (E.1 286)), some (.ref (E.1 295)), some (.int (nI i)), some (.int (nI t)), some (.int (nI 0)), none]) (st' := []) ?_
  refine r_iconst (pc := 3) (v := nI 0) C dX8_replace_3 (by decide +kernel) ?_
  refine r_istore (pc := 4) C dX8_replace_4 (by decide) ?_
  refine G.eq (pc' := 6) (vs' := [some (.ref (E.1 286)), some (.ref (E.1 295)), some (.int (nI i)), some (.int (nI t)), some (.int (nI 0)), some (.int (nI 0))]) (st' := []) ?_
  refine G.heap (Ce.id c295) ?_
  refine bk (P := fun t2 => G M S E (0, 0) (va_up g 295 (xJ S 120 (rpI f fr i t t2))) 6 [some (.ref (E.1 286)), some (.ref (E.1 295)), some (.int (nI i)), some (.int (nI t)), some (.int (chZ f fr i t t2)), some (.int (nI t2))] []) (T := 24) ?_ (fun t2 ht ih => ?_)
  · show G M S E (0, 0) (va_up g 295 (xJ S 120 (rpI f fr i t 24))) 6 [some (.ref (E.1 286)), some (.ref (E.1 295)), some (.int (nI i)), some (.int (nI t)), some (.int (chZ f fr i t 24)), some (.int (nI 24))] []
    refine r_iload (pc := 6) C dX8_replace_6 rfl ?_
    refine r_bipush (pc := 8) (v := nI 24) C dX8_replace_8 (by decide +kernel) ?_
    refine r_icmp_ge (pc := 10) (tgt := 73) C dX8_replace_10 (by decide) (fun h10 => ?_) (fun h10 => ?_)
    · have h10 := c_le (by omega) (by omega) h10
      refine G.cJ (f' := rpZ f fr i t) (fun j _ => rpI_end f fr i t j) ?_
      refine r_iload (pc := 73) C dX8_replace_73 rfl ?_
      exact r_iret (pc := 75) C Z dX8_replace_75 rfl (⟨rfl, rfl⟩)
    · have h10 := c_nle (by omega) (by omega) h10
      omega
  · show G M S E (0, 0) (va_up g 295 (xJ S 120 (rpI f fr i t t2))) 6 [some (.ref (E.1 286)), some (.ref (E.1 295)), some (.int (nI i)), some (.int (nI t)), some (.int (chZ f fr i t t2)), some (.int (nI t2))] []
    refine r_iload (pc := 6) C dX8_replace_6 rfl ?_
    refine r_bipush (pc := 8) (v := nI 24) C dX8_replace_8 (by decide +kernel) ?_
    refine r_icmp_ge (pc := 10) (tgt := 73) C dX8_replace_10 (by decide) (fun h10 => ?_) (fun h10 => ?_)
    · have h10 := c_le (by omega) (by omega) h10
      omega
    · have h10 := c_nle (by omega) (by omega) h10
      refine r_aload_n (pc := 13) C dX8_replace_13 rfl ?_
      refine r_bipush (pc := 14) (v := nI 24) C dX8_replace_14 (by decide +kernel) ?_
      refine r_iload_n (pc := 16) C dX8_replace_16 rfl ?_
      refine r_imul (pc := 17) C dX8_replace_17 ?_
      refine r_ti (nI (24 * i)) (pk_mul _ _) ?_
      refine r_iload (pc := 18) C dX8_replace_18 rfl ?_
      refine r_iadd (pc := 20) C dX8_replace_20 ?_
      refine r_ti (nI (24 * i + t2)) (nI_add _ _) ?_
      refine r_lald (pc := 21) C dX8_replace_21 (Ce.new c295) rfl (by omega) (by omega) ?_
      refine r_aload_n (pc := 22) C dX8_replace_22 rfl ?_
      refine r_getf (pc := 23) C dX8_replace_23 fl_RX8_21 (Ce.up hb.1 (by decide)) hb.2.2.2.1 ?_
      refine r_bipush (pc := 26) (v := nI 24) C dX8_replace_26 (by decide +kernel) ?_
      refine r_iload_n (pc := 28) C dX8_replace_28 rfl ?_
      refine r_imul (pc := 29) C dX8_replace_29 ?_
      refine r_ti (nI (24 * t)) (pk_mul _ _) ?_
      refine r_iload (pc := 30) C dX8_replace_30 rfl ?_
      refine r_iadd (pc := 32) C dX8_replace_32 ?_
      refine r_ti (nI (24 * t + t2)) (nI_add _ _) ?_
      refine r_lald (pc := 33) C dX8_replace_33 (Ce.up c287 (by decide)) rfl (by omega) (by omega) ?_
      refine r_lcmp (pc := 34) C dX8_replace_34 ?_
      refine r_if_eq (pc := 35) (tgt := 42) C dX8_replace_35 (by decide) (fun h35 => ?_) (fun h35 => ?_)
      · have h35 := k_eq h35
        refine r_iload (pc := 42) C dX8_replace_42 rfl ?_
        rw [rpI_at] at h35
        refine r_ti (chZ f fr i t (t2 + 1)) (by rw [chZ_s]; exact (if_pos h35).symm) ?_
        refine r_istore (pc := 44) C dX8_replace_44 (by decide) ?_
        refine G.eq (pc' := 46) (vs' := [some (.ref (E.1 286)), some (.ref (E.1 295)), some (.int (nI i)), some (.int (nI t)), some (.int (chZ f fr i t (t2 + 1))), some (.int (nI t2))]) (st' := []) ?_
        refine r_aload_n (pc := 46) C dX8_replace_46 rfl ?_
        refine r_bipush (pc := 47) (v := nI 24) C dX8_replace_47 (by decide +kernel) ?_
        refine r_iload_n (pc := 49) C dX8_replace_49 rfl ?_
        refine r_imul (pc := 50) C dX8_replace_50 ?_
        refine r_ti (nI (24 * i)) (pk_mul _ _) ?_
        refine r_iload (pc := 51) C dX8_replace_51 rfl ?_
        refine r_iadd (pc := 53) C dX8_replace_53 ?_
        refine r_ti (nI (24 * i + t2)) (nI_add _ _) ?_
        refine r_aload_n (pc := 54) C dX8_replace_54 rfl ?_
        refine r_getf (pc := 55) C dX8_replace_55 fl_RX8_21 (Ce.up hb.1 (by decide)) hb.2.2.2.1 ?_
        refine r_bipush (pc := 58) (v := nI 24) C dX8_replace_58 (by decide +kernel) ?_
        refine r_iload_n (pc := 60) C dX8_replace_60 rfl ?_
        refine r_imul (pc := 61) C dX8_replace_61 ?_
        refine r_ti (nI (24 * t)) (pk_mul _ _) ?_
        refine r_iload (pc := 62) C dX8_replace_62 rfl ?_
        refine r_iadd (pc := 64) C dX8_replace_64 ?_
        refine r_ti (nI (24 * t + t2)) (nI_add _ _) ?_
        refine r_lald (pc := 65) C dX8_replace_65 (Ce.up c287 (by decide)) rfl (by omega) (by omega) ?_
        refine r_last2 (pc := 66) C dX8_replace_66 c295.1 rfl (by omega) (by omega) ?_
        refine r_iinc (pc := 67) (v := nI (t2 + 1)) C dX8_replace_67 rfl (nI_i1 _) (by decide) ?_
        refine G.eq (pc' := 70) (vs' := [some (.ref (E.1 286)), some (.ref (E.1 295)), some (.int (nI i)), some (.int (nI t)), some (.int (chZ f fr i t (t2 + 1))), some (.int (nI (t2 + 1)))]) (st' := []) ?_
        refine r_goto (pc := 70) (tgt := 6) C dX8_replace_70 (by decide) ?_
        rw [rpI_s] at ih
        exact ih
      · have h35 := k_ne h35
        refine r_iconst (pc := 38) (v := nI 1) C dX8_replace_38 (by decide +kernel) ?_
        refine r_goto (pc := 39) (tgt := 44) C dX8_replace_39 (by decide) ?_
        rw [rpI_at] at h35
        refine r_ti (chZ f fr i t (t2 + 1)) (by rw [chZ_s]; exact (if_neg h35).symm) ?_
        refine r_istore (pc := 44) C dX8_replace_44 (by decide) ?_
        refine G.eq (pc' := 46) (vs' := [some (.ref (E.1 286)), some (.ref (E.1 295)), some (.int (nI i)), some (.int (nI t)), some (.int (chZ f fr i t (t2 + 1))), some (.int (nI t2))]) (st' := []) ?_
        refine r_aload_n (pc := 46) C dX8_replace_46 rfl ?_
        refine r_bipush (pc := 47) (v := nI 24) C dX8_replace_47 (by decide +kernel) ?_
        refine r_iload_n (pc := 49) C dX8_replace_49 rfl ?_
        refine r_imul (pc := 50) C dX8_replace_50 ?_
        refine r_ti (nI (24 * i)) (pk_mul _ _) ?_
        refine r_iload (pc := 51) C dX8_replace_51 rfl ?_
        refine r_iadd (pc := 53) C dX8_replace_53 ?_
        refine r_ti (nI (24 * i + t2)) (nI_add _ _) ?_
        refine r_aload_n (pc := 54) C dX8_replace_54 rfl ?_
        refine r_getf (pc := 55) C dX8_replace_55 fl_RX8_21 (Ce.up hb.1 (by decide)) hb.2.2.2.1 ?_
        refine r_bipush (pc := 58) (v := nI 24) C dX8_replace_58 (by decide +kernel) ?_
        refine r_iload_n (pc := 60) C dX8_replace_60 rfl ?_
        refine r_imul (pc := 61) C dX8_replace_61 ?_
        refine r_ti (nI (24 * t)) (pk_mul _ _) ?_
        refine r_iload (pc := 62) C dX8_replace_62 rfl ?_
        refine r_iadd (pc := 64) C dX8_replace_64 ?_
        refine r_ti (nI (24 * t + t2)) (nI_add _ _) ?_
        refine r_lald (pc := 65) C dX8_replace_65 (Ce.up c287 (by decide)) rfl (by omega) (by omega) ?_
        refine r_last2 (pc := 66) C dX8_replace_66 c295.1 rfl (by omega) (by omega) ?_
        refine r_iinc (pc := 67) (v := nI (t2 + 1)) C dX8_replace_67 rfl (nI_i1 _) (by decide) ?_
        refine G.eq (pc' := 70) (vs' := [some (.ref (E.1 286)), some (.ref (E.1 295)), some (.int (nI i)), some (.int (nI t)), some (.int (chZ f fr i t (t2 + 1))), some (.int (nI (t2 + 1)))]) (st' := []) ?_
        refine r_goto (pc := 70) (tgt := 6) C dX8_replace_70 (by decide) ?_
        rw [rpI_s] at ih
        exact ih
set_option maxHeartbeats 4000000 in
set_option maxRecDepth 100000 in
theorem c_X8_setAlpha {S : ST} {E : ET} {g : Nat → va_E} {z : MZ} (hM : MC S E g z) (h4 : 4 ≤ z.1) (hN : z.1 ≤ 24) (hr : z.2.1 ≤ 1) (x y : Int32) : CtI S E yX8_setAlpha cX8_setAlpha 4 (Option.some FieldType.int) rmX8_setAlpha [.ref (E.1 286), .int x, .int y] g (fun u g' => u = (qSeA z x y).1 ∧ (∃ z', MC S E g' z' ∧ Sv z' (qSeA z x y).2) ∧ Fr g g' 286 308) := by
  refine Ct.of RX8 (by decide +kernel) rfl (Nat.le_of_ble_eq_true rfl) (fun M C Z => ?_)
  refine G.eq (pc' := 0) (vs' := [some (.ref (E.1 286)), some (.int x), some (.int y), none]) (st' := []) ?_
  refine r_iload_n (pc := 0) C dX8_setAlpha_0 rfl ?_
  refine r_callS (pc := 1) C dX8_setAlpha_1 cs_RX8_112 (c_X8_isRegister y) ⟨rfl, rfl, by decide, by decide⟩ rfl rfl (Nat.le_of_ble_eq_true rfl) ⟨Nat.zero_le _, Nat.zero_le _⟩ ?_
  rintro _ _ ⟨_, rfl, rfl, rfl⟩
  show G M S E (0, 0) g 4 [some (.ref (E.1 286)), some (.int x), some (.int y), none] [.int (b2i (hix 6 y))]
  refine r_if_ne (pc := 4) (tgt := 10) C dX8_setAlpha_4 (by decide) (fun h4 => ?_) (fun h4 => ?_)
  · have h4 := b_t h4
    refine r_iload_n (pc := 10) C dX8_setAlpha_10 rfl ?_
    refine r_i2l (pc := 11) C dX8_setAlpha_11 ?_
    refine r_lconst (pc := 12) (v := 0) C dX8_setAlpha_12 rfl ?_
    refine r_ldc2 (pc := 13) C dX8_setAlpha_13 qK_RX8_105 ?_
    refine r_callS (pc := 16) C dX8_setAlpha_16 cs_RX8_7 (c_X8_isBetween x.toInt64 0 4) ⟨rfl, rfl, by decide, by decide⟩ rfl rfl (Nat.le_of_ble_eq_true rfl) ⟨Nat.zero_le _, Nat.zero_le _⟩ ?_
    rintro _ _ ⟨_, rfl, rfl, rfl⟩
    show G M S E (0, 0) g 19 [some (.ref (E.1 286)), some (.int x), some (.int y), none] [.int (b2i (btw x.toInt64 0 4))]
    refine r_if_ne (pc := 19) (tgt := 24) C dX8_setAlpha_19 (by decide) (fun h19 => ?_) (fun h19 => ?_)
    · have h19 := b_t h19
      obtain ⟨t, rfl, ht⟩ := hix_nat h4 (by omega)
      obtain ⟨k, rfl, hk0, hk1, hk⟩ := btw_nat (p := 0) (q := 4) h19 (by decide) (by decide)
      refine r_aload_n (pc := 24) C dX8_setAlpha_24 rfl ?_
      refine r_getf (pc := 25) C dX8_setAlpha_25 fl_RX8_25 hM.1 rfl ?_
      refine r_iconst (pc := 28) (v := nI 0) C dX8_setAlpha_28 (by decide +kernel) ?_
      refine r_aload_n (pc := 29) C dX8_setAlpha_29 rfl ?_
      refine r_getf (pc := 30) C dX8_setAlpha_30 fl_RX8_43 hM.1 rfl ?_
      refine r_iconst (pc := 33) (v := nI 0) C dX8_setAlpha_33 (by decide +kernel) ?_
      refine r_callS (pc := 34) C dX8_setAlpha_34 cs_RX8_186 (c_X8_copyPair hM.2.2.1 hM.2.2.2.2.2.2.2.2.1 (by decide) 0 0 (by omega) (by omega) (by decide) (by decide)) ⟨rfl, rfl, by decide, by decide⟩ rfl rfl (Nat.le_of_ble_eq_true rfl) ⟨Nat.zero_le _, Nat.zero_le _⟩ ?_
      rintro _ _ ⟨rfl, rfl⟩
      show G M S E (0, 0) (va_up g 294 (xJ S 120 (cp120 z.2.2.2.2.2.2.2.2.2.2.2.2.1 0 z.2.2.2.2.2.2.2.2.2.2.2.2.2.2.2.2.2.2.1 0))) 37 [some (.ref (E.1 286)), some (.int (nI k)), some (.int (nI t)), none] []
      refine r_aload_n (pc := 37) C dX8_setAlpha_37 rfl ?_
      refine r_aload_n (pc := 38) C dX8_setAlpha_38 rfl ?_
      refine r_getf (pc := 39) C dX8_setAlpha_39 fl_RX8_43 (Ce.up hM.1 (by decide)) rfl ?_
      refine r_iload_n (pc := 42) C dX8_setAlpha_42 rfl ?_
      refine r_iload_n (pc := 43) C dX8_setAlpha_43 rfl ?_
      refine r_callV (pc := 44) C dX8_setAlpha_44 cv_RX8_203 (c_X8_replace_294 ⟨_, (Ce.up hM.1 (by decide)), rfl, rfl, rfl, rfl, rfl, rfl, rfl, rfl, rfl, rfl, rfl, rfl, rfl, rfl, rfl, rfl, rfl, rfl, rfl, rfl, rfl, rfl, rfl⟩ hN hr (Ce.new hM.2.2.2.2.2.2.2.2.1) (Ce.up hM.2.1 (by decide)) k t (by omega) ht) ⟨rfl, rfl, by decide, by decide⟩ (Ce.up hM.1 (by decide)) rfl rfl (Nat.le_of_ble_eq_true rfl) ⟨Nat.zero_le _, Nat.zero_le _⟩ ?_
      rintro _ _ ⟨_, rfl, rfl, rfl⟩
      rw [bx_uu]
      show G M S E (0, 0) (va_up g 294 (xJ S 120 (rpZ (cp120 z.2.2.2.2.2.2.2.2.2.2.2.2.1 0 z.2.2.2.2.2.2.2.2.2.2.2.2.2.2.2.2.2.2.1 0) z.2.2.2.2.2.2.2.2.2.2.2.1 k t))) 47 [some (.ref (E.1 286)), some (.int (nI k)), some (.int (nI t)), none] [.int (chZ (cp120 z.2.2.2.2.2.2.2.2.2.2.2.2.1 0 z.2.2.2.2.2.2.2.2.2.2.2.2.2.2.2.2.2.2.1 0) z.2.2.2.2.2.2.2.2.2.2.2.1 k t 24)]
      refine r_istore_n (pc := 47) C dX8_setAlpha_47 (by decide) ?_
      refine G.eq (pc' := 48) (vs' := [some (.ref (E.1 286)), some (.int (nI k)), some (.int (nI t)), some (.int (chZ (cp120 z.2.2.2.2.2.2.2.2.2.2.2.2.1 0 z.2.2.2.2.2.2.2.2.2.2.2.2.2.2.2.2.2.2.1 0) z.2.2.2.2.2.2.2.2.2.2.2.1 k t 24))]) (st' := []) ?_
      refine r_aload_n (pc := 48) C dX8_setAlpha_48 rfl ?_
      have hf0 : Fr g (va_up g 294 (xJ S 120 (rpZ (cp120 z.2.2.2.2.2.2.2.2.2.2.2.2.1 0 z.2.2.2.2.2.2.2.2.2.2.2.2.2.2.2.2.2.2.1 0) z.2.2.2.2.2.2.2.2.2.2.2.1 k t))) 286 308 := (Fr.rf.up (by omega) (by omega))
      refine r_callV (pc := 49) C dX8_setAlpha_49 cv_RX8_207 (c_X8_findBeta ⟨_, (Ce.up hM.1 (by decide)), rfl, rfl, rfl, rfl, rfl, rfl, rfl, rfl, rfl, rfl, rfl, rfl, rfl, rfl, rfl, rfl, rfl, rfl, rfl, rfl, rfl, rfl, rfl⟩ hN hr (Ce.new hM.2.2.2.2.2.2.2.2.1) (Ce.up hM.2.2.2.2.2.2.2.2.2.1 (by decide)) (Ce.up hM.2.2.2.2.2.2.1 (by decide)) (Ce.up hM.2.2.2.2.2.2.2.1 (by decide))) ⟨rfl, rfl, by decide, by decide⟩ (Ce.up hM.1 (by decide)) rfl rfl (Nat.le_of_ble_eq_true rfl) ⟨Nat.zero_le _, Nat.zero_le _⟩ ?_
      rintro _ g2 ⟨_, rfl, rfl, c4, c5, ⟨a2, c2⟩, ⟨a3, c3⟩, hf1⟩
      show G M S E (0, 0) g2 52 [some (.ref (E.1 286)), some (.int (nI k)), some (.int (nI t)), some (.int (chZ (cp120 z.2.2.2.2.2.2.2.2.2.2.2.2.1 0 z.2.2.2.2.2.2.2.2.2.2.2.2.2.2.2.2.2.2.1 0) z.2.2.2.2.2.2.2.2.2.2.2.1 k t 24))] [.int (b2i (bOkZ z.1 z.2.1 (rpZ (cp120 z.2.2.2.2.2.2.2.2.2.2.2.2.1 0 z.2.2.2.2.2.2.2.2.2.2.2.2.2.2.2.2.2.2.1 0) z.2.2.2.2.2.2.2.2.2.2.2.1 k t)))]
      refine r_if_ne (pc := 52) (tgt := 58) C dX8_setAlpha_52 (by decide) (fun h52 => ?_) (fun h52 => ?_)
      · have h52 := b_t h52
        refine r_aload_n (pc := 58) C dX8_setAlpha_58 rfl ?_
        have hM1 : MC S E g2 (s_scr z a2 a3 (rpZ (cp120 z.2.2.2.2.2.2.2.2.2.2.2.2.1 0 z.2.2.2.2.2.2.2.2.2.2.2.2.2.2.2.2.2.2.1 0) z.2.2.2.2.2.2.2.2.2.2.2.1 k t) (nbZ z.1 z.2.1 (rpZ (cp120 z.2.2.2.2.2.2.2.2.2.2.2.2.1 0 z.2.2.2.2.2.2.2.2.2.2.2.2.2.2.2.2.2.2.1 0) z.2.2.2.2.2.2.2.2.2.2.2.1 k t) z.2.2.2.2.2.2.2.2.2.2.2.2.2.2.2.2.2.2.2.1 5)) := (by simp only [MC, s_n, s_r, s_len, s_rem, s_pc, s_hd, s_at_, s_wr, s_cu, s_hs, s_sv, s_fr, s_fa, s_fb, s_fe, s_f1, s_f2, s_f3, s_f4, s_f5, s_f6, s_fp, s_fc, s_wd, s_bg, s_fi, s_fo, s_st, s_ss, s_fl, s_fm, s_fs, s_tnp, s_scr, s_f12, s_wr2, s_u, s_nr]; exact ⟨((Ce.up hM.1 (by decide)).fr hf1 (by omega)), ((Ce.up hM.2.1 (by decide)).fr hf1 (by omega)), ((Ce.up hM.2.2.1 (by decide)).fr hf1 (by omega)), ((Ce.up hM.2.2.2.1 (by decide)).fr hf1 (by omega)), ((Ce.up hM.2.2.2.2.1 (by decide)).fr hf1 (by omega)), ((Ce.up hM.2.2.2.2.2.1 (by decide)).fr hf1 (by omega)), c2, c3, c4, c5, ((Ce.up hM.2.2.2.2.2.2.2.2.2.2.1 (by decide)).fr hf1 (by omega)), ((Ce.up hM.2.2.2.2.2.2.2.2.2.2.2.1 (by decide)).fr hf1 (by omega)), ((Ce.up hM.2.2.2.2.2.2.2.2.2.2.2.2.1 (by decide)).fr hf1 (by omega)), ((Ce.up hM.2.2.2.2.2.2.2.2.2.2.2.2.2.1 (by decide)).fr hf1 (by omega)), ((Ce.up hM.2.2.2.2.2.2.2.2.2.2.2.2.2.2.1 (by decide)).fr hf1 (by omega)), ((Ce.up hM.2.2.2.2.2.2.2.2.2.2.2.2.2.2.2.1 (by decide)).fr hf1 (by omega)), ((Ce.up hM.2.2.2.2.2.2.2.2.2.2.2.2.2.2.2.2.1 (by decide)).fr hf1 (by omega)), ((Ce.up hM.2.2.2.2.2.2.2.2.2.2.2.2.2.2.2.2.2.1 (by decide)).fr hf1 (by omega)), ((Ce.up hM.2.2.2.2.2.2.2.2.2.2.2.2.2.2.2.2.2.2.1 (by decide)).fr hf1 (by omega)), ((Ce.up hM.2.2.2.2.2.2.2.2.2.2.2.2.2.2.2.2.2.2.2.1 (by decide)).fr hf1 (by omega)), ((Ce.up hM.2.2.2.2.2.2.2.2.2.2.2.2.2.2.2.2.2.2.2.2.1 (by decide)).fr hf1 (by omega)), ((Ce.up hM.2.2.2.2.2.2.2.2.2.2.2.2.2.2.2.2.2.2.2.2.2 (by decide)).fr hf1 (by omega))⟩)
        refine r_callV (pc := 59) C dX8_setAlpha_59 cv_RX8_200 (c_X8_takesNewPair hM1) ⟨rfl, rfl, by decide, by decide⟩ ((Ce.up hM.1 (by decide)).fr hf1 (by omega)) rfl rfl (Nat.le_of_ble_eq_true rfl) ⟨Nat.zero_le _, Nat.zero_le _⟩ ?_
        rintro _ g3 ⟨rfl, hM2, hF2⟩
        show G M S E (0, 0) g3 62 [some (.ref (E.1 286)), some (.int (nI k)), some (.int (nI t)), some (.int (chZ (cp120 z.2.2.2.2.2.2.2.2.2.2.2.2.1 0 z.2.2.2.2.2.2.2.2.2.2.2.2.2.2.2.2.2.2.1 0) z.2.2.2.2.2.2.2.2.2.2.2.1 k t 24))] []
        refine r_iload_n (pc := 62) C dX8_setAlpha_62 rfl ?_
        exact r_iret (pc := 63) C Z dX8_setAlpha_63 rfl (by rw [show qSeA z (nI k) (nI t) = (chZ (cp120 z.2.2.2.2.2.2.2.2.2.2.2.2.1 0 z.2.2.2.2.2.2.2.2.2.2.2.2.2.2.2.2.2.2.1 0) z.2.2.2.2.2.2.2.2.2.2.2.1 k t 24, s_tnp z (cp120 (rpZ (cp120 z.2.2.2.2.2.2.2.2.2.2.2.2.1 0 z.2.2.2.2.2.2.2.2.2.2.2.2.2.2.2.2.2.2.1 0) z.2.2.2.2.2.2.2.2.2.2.2.1 k t) 0 z.2.2.2.2.2.2.2.2.2.2.2.2.1 0) (cp120 (nbZ z.1 z.2.1 (rpZ (cp120 z.2.2.2.2.2.2.2.2.2.2.2.2.1 0 z.2.2.2.2.2.2.2.2.2.2.2.2.2.2.2.2.2.2.1 0) z.2.2.2.2.2.2.2.2.2.2.2.1 k t) z.2.2.2.2.2.2.2.2.2.2.2.2.2.2.2.2.2.2.2.1 5) 0 z.2.2.2.2.2.2.2.2.2.2.2.2.2.1 0) (nI 0) 0) by simp only [qSeA, h4, h19, h52, iN_nI (show t < 2 ^ 31 by omega), iN_nI hk, cond_true, cond_false, if_true, if_false, not_true_eq_false, not_false_eq_true, ↓reduceIte]]; exact ⟨rfl, ⟨_, hM2, (by simp only [Sv, s_n, s_r, s_len, s_rem, s_pc, s_hd, s_at_, s_wr, s_cu, s_hs, s_sv, s_fr, s_fa, s_fb, s_fe, s_f1, s_f2, s_f3, s_f4, s_f5, s_f6, s_fp, s_fc, s_wd, s_bg, s_fi, s_fo, s_st, s_ss, s_fl, s_fm, s_fs, s_tnp, s_scr, s_f12, s_wr2, s_u, s_nr, and_self])⟩, (hf0.tr (hf1.wide (lo' := 286) (hi' := 308) (by omega) (by omega)) (by omega) (by omega)).tr hF2 (by omega) (by omega)⟩)
      · have h52 := b_f h52
        refine r_bipush (pc := 55) (v := (-3)) C dX8_setAlpha_55 (by decide +kernel) ?_
        exact r_iret (pc := 57) C Z dX8_setAlpha_57 rfl (by rw [show qSeA z (nI k) (nI t) = (-3, z) by simp only [qSeA, h4, h19, h52, iN_nI (show t < 2 ^ 31 by omega), iN_nI hk, cond_true, cond_false, if_true, if_false, not_true_eq_false, not_false_eq_true, ↓reduceIte]]; exact ⟨rfl, ⟨s_scr z a2 a3 (rpZ (cp120 z.2.2.2.2.2.2.2.2.2.2.2.2.1 0 z.2.2.2.2.2.2.2.2.2.2.2.2.2.2.2.2.2.2.1 0) z.2.2.2.2.2.2.2.2.2.2.2.1 k t) (nbZ z.1 z.2.1 (rpZ (cp120 z.2.2.2.2.2.2.2.2.2.2.2.2.1 0 z.2.2.2.2.2.2.2.2.2.2.2.2.2.2.2.2.2.2.1 0) z.2.2.2.2.2.2.2.2.2.2.2.1 k t) z.2.2.2.2.2.2.2.2.2.2.2.2.2.2.2.2.2.2.2.1 5), (by simp only [MC, s_n, s_r, s_len, s_rem, s_pc, s_hd, s_at_, s_wr, s_cu, s_hs, s_sv, s_fr, s_fa, s_fb, s_fe, s_f1, s_f2, s_f3, s_f4, s_f5, s_f6, s_fp, s_fc, s_wd, s_bg, s_fi, s_fo, s_st, s_ss, s_fl, s_fm, s_fs, s_tnp, s_scr, s_f12, s_wr2, s_u, s_nr]; exact ⟨((Ce.up hM.1 (by decide)).fr hf1 (by omega)), ((Ce.up hM.2.1 (by decide)).fr hf1 (by omega)), ((Ce.up hM.2.2.1 (by decide)).fr hf1 (by omega)), ((Ce.up hM.2.2.2.1 (by decide)).fr hf1 (by omega)), ((Ce.up hM.2.2.2.2.1 (by decide)).fr hf1 (by omega)), ((Ce.up hM.2.2.2.2.2.1 (by decide)).fr hf1 (by omega)), c2, c3, c4, c5, ((Ce.up hM.2.2.2.2.2.2.2.2.2.2.1 (by decide)).fr hf1 (by omega)), ((Ce.up hM.2.2.2.2.2.2.2.2.2.2.2.1 (by decide)).fr hf1 (by omega)), ((Ce.up hM.2.2.2.2.2.2.2.2.2.2.2.2.1 (by decide)).fr hf1 (by omega)), ((Ce.up hM.2.2.2.2.2.2.2.2.2.2.2.2.2.1 (by decide)).fr hf1 (by omega)), ((Ce.up hM.2.2.2.2.2.2.2.2.2.2.2.2.2.2.1 (by decide)).fr hf1 (by omega)), ((Ce.up hM.2.2.2.2.2.2.2.2.2.2.2.2.2.2.2.1 (by decide)).fr hf1 (by omega)), ((Ce.up hM.2.2.2.2.2.2.2.2.2.2.2.2.2.2.2.2.1 (by decide)).fr hf1 (by omega)), ((Ce.up hM.2.2.2.2.2.2.2.2.2.2.2.2.2.2.2.2.2.1 (by decide)).fr hf1 (by omega)), ((Ce.up hM.2.2.2.2.2.2.2.2.2.2.2.2.2.2.2.2.2.2.1 (by decide)).fr hf1 (by omega)), ((Ce.up hM.2.2.2.2.2.2.2.2.2.2.2.2.2.2.2.2.2.2.2.1 (by decide)).fr hf1 (by omega)), ((Ce.up hM.2.2.2.2.2.2.2.2.2.2.2.2.2.2.2.2.2.2.2.2.1 (by decide)).fr hf1 (by omega)), ((Ce.up hM.2.2.2.2.2.2.2.2.2.2.2.2.2.2.2.2.2.2.2.2.2 (by decide)).fr hf1 (by omega))⟩), (by simp only [Sv, s_n, s_r, s_len, s_rem, s_pc, s_hd, s_at_, s_wr, s_cu, s_hs, s_sv, s_fr, s_fa, s_fb, s_fe, s_f1, s_f2, s_f3, s_f4, s_f5, s_f6, s_fp, s_fc, s_wd, s_bg, s_fi, s_fo, s_st, s_ss, s_fl, s_fm, s_fs, s_tnp, s_scr, s_f12, s_wr2, s_u, s_nr, and_self])⟩, hf0.tr (hf1.wide (lo' := 286) (hi' := 308) (by omega) (by omega)) (by omega) (by omega)⟩)
    · have h19 := b_f h19
      refine r_iconst (pc := 22) (v := (-1)) C dX8_setAlpha_22 (by decide +kernel) ?_
      exact r_iret (pc := 23) C Z dX8_setAlpha_23 rfl (by rw [show qSeA z x y = (-1, z) by simp only [qSeA, h4, h19, cond_true, cond_false, if_true, if_false, not_true_eq_false, not_false_eq_true, ↓reduceIte]]; exact ⟨rfl, ⟨z, hM, Sv.rf⟩, Fr.rf⟩)
  · have h4 := b_f h4
    refine r_bipush (pc := 7) (v := (-2)) C dX8_setAlpha_7 (by decide +kernel) ?_
    exact r_iret (pc := 9) C Z dX8_setAlpha_9 rfl (by rw [show qSeA z x y = (-2, z) by simp only [qSeA, h4, cond_true, cond_false, if_true, if_false, not_true_eq_false, not_false_eq_true, ↓reduceIte]]; exact ⟨rfl, ⟨z, hM, Sv.rf⟩, Fr.rf⟩)
set_option maxHeartbeats 4000000 in
set_option maxRecDepth 100000 in
theorem c_X8_setBeta {S : ST} {E : ET} {g : Nat → va_E} {z : MZ} (hM : MC S E g z) (h4 : 4 ≤ z.1) (hN : z.1 ≤ 24) (hr : z.2.1 ≤ 1) (x y : Int32) : CtI S E yX8_setBeta cX8_setBeta 4 (Option.some FieldType.int) rmX8_setBeta [.ref (E.1 286), .int x, .int y] g (fun u g' => u = (qSeB z x y).1 ∧ (∃ z', MC S E g' z' ∧ Sv z' (qSeB z x y).2) ∧ Fr g g' 286 308) := by
  refine Ct.of RX8 (by decide +kernel) rfl (Nat.le_of_ble_eq_true rfl) (fun M C Z => ?_)
  refine G.eq (pc' := 0) (vs' := [some (.ref (E.1 286)), some (.int x), some (.int y), none]) (st' := []) ?_
  refine r_iload_n (pc := 0) C dX8_setBeta_0 rfl ?_
  refine r_callS (pc := 1) C dX8_setBeta_1 cs_RX8_112 (c_X8_isRegister y) ⟨rfl, rfl, by decide, by decide⟩ rfl rfl (Nat.le_of_ble_eq_true rfl) ⟨Nat.zero_le _, Nat.zero_le _⟩ ?_
  rintro _ _ ⟨_, rfl, rfl, rfl⟩
  show G M S E (0, 0) g 4 [some (.ref (E.1 286)), some (.int x), some (.int y), none] [.int (b2i (hix 6 y))]
  refine r_if_ne (pc := 4) (tgt := 10) C dX8_setBeta_4 (by decide) (fun h4 => ?_) (fun h4 => ?_)
  · have h4 := b_t h4
    refine r_iload_n (pc := 10) C dX8_setBeta_10 rfl ?_
    refine r_i2l (pc := 11) C dX8_setBeta_11 ?_
    refine r_lconst (pc := 12) (v := 0) C dX8_setBeta_12 rfl ?_
    refine r_ldc2 (pc := 13) C dX8_setBeta_13 qK_RX8_105 ?_
    refine r_callS (pc := 16) C dX8_setBeta_16 cs_RX8_7 (c_X8_isBetween x.toInt64 0 4) ⟨rfl, rfl, by decide, by decide⟩ rfl rfl (Nat.le_of_ble_eq_true rfl) ⟨Nat.zero_le _, Nat.zero_le _⟩ ?_
    rintro _ _ ⟨_, rfl, rfl, rfl⟩
    show G M S E (0, 0) g 19 [some (.ref (E.1 286)), some (.int x), some (.int y), none] [.int (b2i (btw x.toInt64 0 4))]
    refine r_if_ne (pc := 19) (tgt := 24) C dX8_setBeta_19 (by decide) (fun h19 => ?_) (fun h19 => ?_)
    · have h19 := b_t h19
      obtain ⟨t, rfl, ht⟩ := hix_nat h4 (by omega)
      obtain ⟨k, rfl, hk0, hk1, hk⟩ := btw_nat (p := 0) (q := 4) h19 (by decide) (by decide)
      refine r_aload_n (pc := 24) C dX8_setBeta_24 rfl ?_
      refine r_getf (pc := 25) C dX8_setBeta_25 fl_RX8_28 hM.1 rfl ?_
      refine r_iconst (pc := 28) (v := nI 0) C dX8_setBeta_28 (by decide +kernel) ?_
      refine r_aload_n (pc := 29) C dX8_setBeta_29 rfl ?_
      refine r_getf (pc := 30) C dX8_setBeta_30 fl_RX8_46 hM.1 rfl ?_
      refine r_iconst (pc := 33) (v := nI 0) C dX8_setBeta_33 (by decide +kernel) ?_
      refine r_callS (pc := 34) C dX8_setBeta_34 cs_RX8_186 (c_X8_copyPair hM.2.2.2.1 hM.2.2.2.2.2.2.2.2.2.1 (by decide) 0 0 (by omega) (by omega) (by decide) (by decide)) ⟨rfl, rfl, by decide, by decide⟩ rfl rfl (Nat.le_of_ble_eq_true rfl) ⟨Nat.zero_le _, Nat.zero_le _⟩ ?_
      rintro _ _ ⟨rfl, rfl⟩
      show G M S E (0, 0) (va_up g 295 (xJ S 120 (cp120 z.2.2.2.2.2.2.2.2.2.2.2.2.2.1 0 z.2.2.2.2.2.2.2.2.2.2.2.2.2.2.2.2.2.2.2.1 0))) 37 [some (.ref (E.1 286)), some (.int (nI k)), some (.int (nI t)), none] []
      refine r_aload_n (pc := 37) C dX8_setBeta_37 rfl ?_
      refine r_aload_n (pc := 38) C dX8_setBeta_38 rfl ?_
      refine r_getf (pc := 39) C dX8_setBeta_39 fl_RX8_46 (Ce.up hM.1 (by decide)) rfl ?_
      refine r_iload_n (pc := 42) C dX8_setBeta_42 rfl ?_
      refine r_iload_n (pc := 43) C dX8_setBeta_43 rfl ?_
      refine r_callV (pc := 44) C dX8_setBeta_44 cv_RX8_203 (c_X8_replace_295 ⟨_, (Ce.up hM.1 (by decide)), rfl, rfl, rfl, rfl, rfl, rfl, rfl, rfl, rfl, rfl, rfl, rfl, rfl, rfl, rfl, rfl, rfl, rfl, rfl, rfl, rfl, rfl, rfl⟩ hN hr (Ce.new hM.2.2.2.2.2.2.2.2.2.1) (Ce.up hM.2.1 (by decide)) k t (by omega) ht) ⟨rfl, rfl, by decide, by decide⟩ (Ce.up hM.1 (by decide)) rfl rfl (Nat.le_of_ble_eq_true rfl) ⟨Nat.zero_le _, Nat.zero_le _⟩ ?_
      rintro _ _ ⟨_, rfl, rfl, rfl⟩
      rw [bx_uu]
      show G M S E (0, 0) (va_up g 295 (xJ S 120 (rpZ (cp120 z.2.2.2.2.2.2.2.2.2.2.2.2.2.1 0 z.2.2.2.2.2.2.2.2.2.2.2.2.2.2.2.2.2.2.2.1 0) z.2.2.2.2.2.2.2.2.2.2.2.1 k t))) 47 [some (.ref (E.1 286)), some (.int (nI k)), some (.int (nI t)), none] [.int (chZ (cp120 z.2.2.2.2.2.2.2.2.2.2.2.2.2.1 0 z.2.2.2.2.2.2.2.2.2.2.2.2.2.2.2.2.2.2.2.1 0) z.2.2.2.2.2.2.2.2.2.2.2.1 k t 24)]
      refine r_istore_n (pc := 47) C dX8_setBeta_47 (by decide) ?_
      refine G.eq (pc' := 48) (vs' := [some (.ref (E.1 286)), some (.int (nI k)), some (.int (nI t)), some (.int (chZ (cp120 z.2.2.2.2.2.2.2.2.2.2.2.2.2.1 0 z.2.2.2.2.2.2.2.2.2.2.2.2.2.2.2.2.2.2.2.1 0) z.2.2.2.2.2.2.2.2.2.2.2.1 k t 24))]) (st' := []) ?_
      refine r_aload_n (pc := 48) C dX8_setBeta_48 rfl ?_
      have hf0 : Fr g (va_up g 295 (xJ S 120 (rpZ (cp120 z.2.2.2.2.2.2.2.2.2.2.2.2.2.1 0 z.2.2.2.2.2.2.2.2.2.2.2.2.2.2.2.2.2.2.2.1 0) z.2.2.2.2.2.2.2.2.2.2.2.1 k t))) 286 308 := (Fr.rf.up (by omega) (by omega))
      refine r_callV (pc := 49) C dX8_setBeta_49 cv_RX8_196 (c_X8_findAlpha ⟨_, (Ce.up hM.1 (by decide)), rfl, rfl, rfl, rfl, rfl, rfl, rfl, rfl, rfl, rfl, rfl, rfl, rfl, rfl, rfl, rfl, rfl, rfl, rfl, rfl, rfl, rfl, rfl⟩ hN hr (Ce.up hM.2.2.2.2.2.2.2.2.1 (by decide)) (Ce.new hM.2.2.2.2.2.2.2.2.2.1) (Ce.up hM.2.2.2.2.2.2.1 (by decide)) (Ce.up hM.2.2.2.2.2.2.2.1 (by decide))) ⟨rfl, rfl, by decide, by decide⟩ (Ce.up hM.1 (by decide)) rfl rfl (Nat.le_of_ble_eq_true rfl) ⟨Nat.zero_le _, Nat.zero_le _⟩ ?_
      rintro _ g2 ⟨_, rfl, rfl, ⟨a4, c4, e4⟩, c5, ⟨a2, c2⟩, ⟨a3, c3⟩, hf1⟩
      show G M S E (0, 0) g2 52 [some (.ref (E.1 286)), some (.int (nI k)), some (.int (nI t)), some (.int (chZ (cp120 z.2.2.2.2.2.2.2.2.2.2.2.2.2.1 0 z.2.2.2.2.2.2.2.2.2.2.2.2.2.2.2.2.2.2.2.1 0) z.2.2.2.2.2.2.2.2.2.2.2.1 k t 24))] [.int (b2i (aOkZ z.1 z.2.1 (rpZ (cp120 z.2.2.2.2.2.2.2.2.2.2.2.2.2.1 0 z.2.2.2.2.2.2.2.2.2.2.2.2.2.2.2.2.2.2.2.1 0) z.2.2.2.2.2.2.2.2.2.2.2.1 k t) z.2.2.2.2.2.2.2.2.2.2.2.2.2.2.2.2.2.2.1))]
      refine r_if_ne (pc := 52) (tgt := 58) C dX8_setBeta_52 (by decide) (fun h52 => ?_) (fun h52 => ?_)
      · have h52 := b_t h52
        have e4 := e4 h52
        subst e4
        refine r_aload_n (pc := 58) C dX8_setBeta_58 rfl ?_
        have hM1 : MC S E g2 (s_scr z a2 a3 (naZ z.1 z.2.1 (rpZ (cp120 z.2.2.2.2.2.2.2.2.2.2.2.2.2.1 0 z.2.2.2.2.2.2.2.2.2.2.2.2.2.2.2.2.2.2.2.1 0) z.2.2.2.2.2.2.2.2.2.2.2.1 k t) z.2.2.2.2.2.2.2.2.2.2.2.2.2.2.2.2.2.2.1 5) (rpZ (cp120 z.2.2.2.2.2.2.2.2.2.2.2.2.2.1 0 z.2.2.2.2.2.2.2.2.2.2.2.2.2.2.2.2.2.2.2.1 0) z.2.2.2.2.2.2.2.2.2.2.2.1 k t)) := (by simp only [MC, s_n, s_r, s_len, s_rem, s_pc, s_hd, s_at_, s_wr, s_cu, s_hs, s_sv, s_fr, s_fa, s_fb, s_fe, s_f1, s_f2, s_f3, s_f4, s_f5, s_f6, s_fp, s_fc, s_wd, s_bg, s_fi, s_fo, s_st, s_ss, s_fl, s_fm, s_fs, s_tnp, s_scr, s_f12, s_wr2, s_u, s_nr]; exact ⟨((Ce.up hM.1 (by decide)).fr hf1 (by omega)), ((Ce.up hM.2.1 (by decide)).fr hf1 (by omega)), ((Ce.up hM.2.2.1 (by decide)).fr hf1 (by omega)), ((Ce.up hM.2.2.2.1 (by decide)).fr hf1 (by omega)), ((Ce.up hM.2.2.2.2.1 (by decide)).fr hf1 (by omega)), ((Ce.up hM.2.2.2.2.2.1 (by decide)).fr hf1 (by omega)), c2, c3, c4, c5, ((Ce.up hM.2.2.2.2.2.2.2.2.2.2.1 (by decide)).fr hf1 (by omega)), ((Ce.up hM.2.2.2.2.2.2.2.2.2.2.2.1 (by decide)).fr hf1 (by omega)), ((Ce.up hM.2.2.2.2.2.2.2.2.2.2.2.2.1 (by decide)).fr hf1 (by omega)), ((Ce.up hM.2.2.2.2.2.2.2.2.2.2.2.2.2.1 (by decide)).fr hf1 (by omega)), ((Ce.up hM.2.2.2.2.2.2.2.2.2.2.2.2.2.2.1 (by decide)).fr hf1 (by omega)), ((Ce.up hM.2.2.2.2.2.2.2.2.2.2.2.2.2.2.2.1 (by decide)).fr hf1 (by omega)), ((Ce.up hM.2.2.2.2.2.2.2.2.2.2.2.2.2.2.2.2.1 (by decide)).fr hf1 (by omega)), ((Ce.up hM.2.2.2.2.2.2.2.2.2.2.2.2.2.2.2.2.2.1 (by decide)).fr hf1 (by omega)), ((Ce.up hM.2.2.2.2.2.2.2.2.2.2.2.2.2.2.2.2.2.2.1 (by decide)).fr hf1 (by omega)), ((Ce.up hM.2.2.2.2.2.2.2.2.2.2.2.2.2.2.2.2.2.2.2.1 (by decide)).fr hf1 (by omega)), ((Ce.up hM.2.2.2.2.2.2.2.2.2.2.2.2.2.2.2.2.2.2.2.2.1 (by decide)).fr hf1 (by omega)), ((Ce.up hM.2.2.2.2.2.2.2.2.2.2.2.2.2.2.2.2.2.2.2.2.2 (by decide)).fr hf1 (by omega))⟩)
        refine r_callV (pc := 59) C dX8_setBeta_59 cv_RX8_200 (c_X8_takesNewPair hM1) ⟨rfl, rfl, by decide, by decide⟩ ((Ce.up hM.1 (by decide)).fr hf1 (by omega)) rfl rfl (Nat.le_of_ble_eq_true rfl) ⟨Nat.zero_le _, Nat.zero_le _⟩ ?_
        rintro _ g3 ⟨rfl, hM2, hF2⟩
        show G M S E (0, 0) g3 62 [some (.ref (E.1 286)), some (.int (nI k)), some (.int (nI t)), some (.int (chZ (cp120 z.2.2.2.2.2.2.2.2.2.2.2.2.2.1 0 z.2.2.2.2.2.2.2.2.2.2.2.2.2.2.2.2.2.2.2.1 0) z.2.2.2.2.2.2.2.2.2.2.2.1 k t 24))] []
        refine r_iload_n (pc := 62) C dX8_setBeta_62 rfl ?_
        exact r_iret (pc := 63) C Z dX8_setBeta_63 rfl (by rw [show qSeB z (nI k) (nI t) = (chZ (cp120 z.2.2.2.2.2.2.2.2.2.2.2.2.2.1 0 z.2.2.2.2.2.2.2.2.2.2.2.2.2.2.2.2.2.2.2.1 0) z.2.2.2.2.2.2.2.2.2.2.2.1 k t 24, s_tnp z (cp120 (naZ z.1 z.2.1 (rpZ (cp120 z.2.2.2.2.2.2.2.2.2.2.2.2.2.1 0 z.2.2.2.2.2.2.2.2.2.2.2.2.2.2.2.2.2.2.2.1 0) z.2.2.2.2.2.2.2.2.2.2.2.1 k t) z.2.2.2.2.2.2.2.2.2.2.2.2.2.2.2.2.2.2.1 5) 0 z.2.2.2.2.2.2.2.2.2.2.2.2.1 0) (cp120 (rpZ (cp120 z.2.2.2.2.2.2.2.2.2.2.2.2.2.1 0 z.2.2.2.2.2.2.2.2.2.2.2.2.2.2.2.2.2.2.2.1 0) z.2.2.2.2.2.2.2.2.2.2.2.1 k t) 0 z.2.2.2.2.2.2.2.2.2.2.2.2.2.1 0) (nI 0) 0) by simp only [qSeB, h4, h19, h52, iN_nI (show t < 2 ^ 31 by omega), iN_nI hk, cond_true, cond_false, if_true, if_false, not_true_eq_false, not_false_eq_true, ↓reduceIte]]; exact ⟨rfl, ⟨_, hM2, (by simp only [Sv, s_n, s_r, s_len, s_rem, s_pc, s_hd, s_at_, s_wr, s_cu, s_hs, s_sv, s_fr, s_fa, s_fb, s_fe, s_f1, s_f2, s_f3, s_f4, s_f5, s_f6, s_fp, s_fc, s_wd, s_bg, s_fi, s_fo, s_st, s_ss, s_fl, s_fm, s_fs, s_tnp, s_scr, s_f12, s_wr2, s_u, s_nr, and_self])⟩, (hf0.tr (hf1.wide (lo' := 286) (hi' := 308) (by omega) (by omega)) (by omega) (by omega)).tr hF2 (by omega) (by omega)⟩)
      · have h52 := b_f h52
        refine r_bipush (pc := 55) (v := (-3)) C dX8_setBeta_55 (by decide +kernel) ?_
        exact r_iret (pc := 57) C Z dX8_setBeta_57 rfl (by rw [show qSeB z (nI k) (nI t) = (-3, z) by simp only [qSeB, h4, h19, h52, iN_nI (show t < 2 ^ 31 by omega), iN_nI hk, cond_true, cond_false, if_true, if_false, not_true_eq_false, not_false_eq_true, ↓reduceIte]]; exact ⟨rfl, ⟨s_scr z a2 a3 (a4) (rpZ (cp120 z.2.2.2.2.2.2.2.2.2.2.2.2.2.1 0 z.2.2.2.2.2.2.2.2.2.2.2.2.2.2.2.2.2.2.2.1 0) z.2.2.2.2.2.2.2.2.2.2.2.1 k t), (by simp only [MC, s_n, s_r, s_len, s_rem, s_pc, s_hd, s_at_, s_wr, s_cu, s_hs, s_sv, s_fr, s_fa, s_fb, s_fe, s_f1, s_f2, s_f3, s_f4, s_f5, s_f6, s_fp, s_fc, s_wd, s_bg, s_fi, s_fo, s_st, s_ss, s_fl, s_fm, s_fs, s_tnp, s_scr, s_f12, s_wr2, s_u, s_nr]; exact ⟨((Ce.up hM.1 (by decide)).fr hf1 (by omega)), ((Ce.up hM.2.1 (by decide)).fr hf1 (by omega)), ((Ce.up hM.2.2.1 (by decide)).fr hf1 (by omega)), ((Ce.up hM.2.2.2.1 (by decide)).fr hf1 (by omega)), ((Ce.up hM.2.2.2.2.1 (by decide)).fr hf1 (by omega)), ((Ce.up hM.2.2.2.2.2.1 (by decide)).fr hf1 (by omega)), c2, c3, c4, c5, ((Ce.up hM.2.2.2.2.2.2.2.2.2.2.1 (by decide)).fr hf1 (by omega)), ((Ce.up hM.2.2.2.2.2.2.2.2.2.2.2.1 (by decide)).fr hf1 (by omega)), ((Ce.up hM.2.2.2.2.2.2.2.2.2.2.2.2.1 (by decide)).fr hf1 (by omega)), ((Ce.up hM.2.2.2.2.2.2.2.2.2.2.2.2.2.1 (by decide)).fr hf1 (by omega)), ((Ce.up hM.2.2.2.2.2.2.2.2.2.2.2.2.2.2.1 (by decide)).fr hf1 (by omega)), ((Ce.up hM.2.2.2.2.2.2.2.2.2.2.2.2.2.2.2.1 (by decide)).fr hf1 (by omega)), ((Ce.up hM.2.2.2.2.2.2.2.2.2.2.2.2.2.2.2.2.1 (by decide)).fr hf1 (by omega)), ((Ce.up hM.2.2.2.2.2.2.2.2.2.2.2.2.2.2.2.2.2.1 (by decide)).fr hf1 (by omega)), ((Ce.up hM.2.2.2.2.2.2.2.2.2.2.2.2.2.2.2.2.2.2.1 (by decide)).fr hf1 (by omega)), ((Ce.up hM.2.2.2.2.2.2.2.2.2.2.2.2.2.2.2.2.2.2.2.1 (by decide)).fr hf1 (by omega)), ((Ce.up hM.2.2.2.2.2.2.2.2.2.2.2.2.2.2.2.2.2.2.2.2.1 (by decide)).fr hf1 (by omega)), ((Ce.up hM.2.2.2.2.2.2.2.2.2.2.2.2.2.2.2.2.2.2.2.2.2 (by decide)).fr hf1 (by omega))⟩), (by simp only [Sv, s_n, s_r, s_len, s_rem, s_pc, s_hd, s_at_, s_wr, s_cu, s_hs, s_sv, s_fr, s_fa, s_fb, s_fe, s_f1, s_f2, s_f3, s_f4, s_f5, s_f6, s_fp, s_fc, s_wd, s_bg, s_fi, s_fo, s_st, s_ss, s_fl, s_fm, s_fs, s_tnp, s_scr, s_f12, s_wr2, s_u, s_nr, and_self])⟩, hf0.tr (hf1.wide (lo' := 286) (hi' := 308) (by omega) (by omega)) (by omega) (by omega)⟩)
    · have h19 := b_f h19
      refine r_iconst (pc := 22) (v := (-1)) C dX8_setBeta_22 (by decide +kernel) ?_
      exact r_iret (pc := 23) C Z dX8_setBeta_23 rfl (by rw [show qSeB z x y = (-1, z) by simp only [qSeB, h4, h19, cond_true, cond_false, if_true, if_false, not_true_eq_false, not_false_eq_true, ↓reduceIte]]; exact ⟨rfl, ⟨z, hM, Sv.rf⟩, Fr.rf⟩)
  · have h4 := b_f h4
    refine r_bipush (pc := 7) (v := (-2)) C dX8_setBeta_7 (by decide +kernel) ?_
    exact r_iret (pc := 9) C Z dX8_setBeta_9 rfl (by rw [show qSeB z x y = (-2, z) by simp only [qSeB, h4, cond_true, cond_false, if_true, if_false, not_true_eq_false, not_false_eq_true, ↓reduceIte]]; exact ⟨rfl, ⟨z, hM, Sv.rf⟩, Fr.rf⟩)
