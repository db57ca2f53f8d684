def MB (E : ET) (g : Nat → va_E) (N r : Nat) : Prop := ∃ fs : List Value, Ce E g 286 (.inr (8, fs)) ∧ fs[0]? = some (.int (nI N)) ∧ fs[1]? = some (.int (nI r)) ∧ fs[4]? = some (.ref (E.1 287)) ∧ fs[5]? = some (.ref (E.1 288)) ∧ fs[6]? = some (.ref (E.1 289)) ∧ fs[7]? = some (.ref (E.1 290)) ∧ fs[8]? = some (.ref (E.1 291)) ∧ fs[9]? = some (.ref (E.1 292)) ∧ fs[10]? = some (.ref (E.1 293)) ∧ fs[11]? = some (.ref (E.1 294)) ∧ fs[12]? = some (.ref (E.1 295)) ∧ fs[13]? = some (.ref (E.1 296)) ∧ fs[14]? = some (.ref (E.1 297)) ∧ fs[15]? = some (.ref (E.1 298)) ∧ fs[17]? = some (.ref (E.1 299)) ∧ fs[18]? = some (.ref (E.1 300)) ∧ fs[19]? = some (.ref (E.1 301)) ∧ fs[20]? = some (.ref (E.1 302)) ∧ fs[24]? = some (.ref (E.1 303)) ∧ fs[25]? = some (.ref (E.1 304)) ∧ fs[26]? = some (.ref (E.1 305)) ∧ fs[27]? = some (.ref (E.1 306)) ∧ fs[28]? = some (.ref (E.1 307))
theorem MB.fr {E : ET} {g h : Nat → va_E} {N r lo hi : Nat} (c : MB E g N r) (hf : Fr g h lo hi) (hl : 286 < lo) : MB E h N r := by
  obtain ⟨fs, h1, h2⟩ := c
  exact ⟨fs, h1.fr hf (by omega), h2⟩
theorem MC.mb {S : ST} {E : ET} {g : Nat → va_E} {z : MZ} (c : MC S E g z) : MB E g z.1 z.2.1 := ⟨_, c.1, rfl, rfl, rfl, rfl, rfl, rfl, rfl, rfl, rfl, rfl, rfl, rfl, rfl, rfl, rfl, rfl, rfl, rfl, rfl, rfl, rfl, rfl, rfl⟩
/-- a term of the relation, out of flat rows -/
def facZ (n r : Nat) (f : Nat → Int64) (i j : Nat) : Nat → Int64 := ovFs n (r + 1) (i + j) (ovFs n (0 + 1) (i - j) (ldF n f (24 * j)))
def bZ (n r : Nat) (f : Nat → Int64) (i t : Nat) : Nat → Int64 := it (fun j h => plW n (facZ n r f i j) (nI 1) h) t (fun _ => 0)
def nbZ (n r : Nat) (f h : Nat → Int64) (t : Nat) : Nat → Int64 := it (fun i h => stR h i (bZ n r f i (i + 1))) t h
def aZ0 (n r : Nat) (f h : Nat → Int64) (i t : Nat) : Nat → Int64 := it (fun j c => plW n (facZ n r f i j) (-1) c) t (ldF n h (24 * i))
def aZ (n r : Nat) (h f : Nat → Int64) (i : Nat) : Nat → Int64 := tmFs n (r + 1) (2 * i) (aZ0 n r f h i i)
def naZ (n r : Nat) (h f : Nat → Int64) (t : Nat) : Nat → Int64 := it (fun i f => stR f i (aZ n r h f i)) t f
def swZ (n p : Nat) (f : Nat → Int64) (i : Nat) : Nat → Int64 := shF n p (ldF n f (24 * i)) n
set_option maxHeartbeats 4000000 in
set_option maxRecDepth 100000 in
theorem c_X8_addTerm {S : ST} {E : ET} {g : Nat → va_E} {N r : Nat} (hMB : MB E g N r) (hN : N ≤ 24) (hr : r ≤ 1) {f a2 a3 : Nat → Int64} (c294 : Ce E g 294 (xJ S 120 f)) (c292 : Ce E g 292 (xJ S 24 a2)) (c293 : Ce E g 293 (xJ S 24 a3)) (i j : Nat) (s : Int32) (hi : i < 5) (hj : j ≤ i) : CtV S E yX8_addTerm cX8_addTerm 6 none rmX8_addTerm [.ref (E.1 286), .ref (E.1 294), .int (nI i), .int (nI j), .int s] g (fun g' => g' = va_up (va_up g 292 (xJ S 24 (facZ N r f i j))) 293 (xJ S 24 (plW N (facZ N r f i j) s a3))) := by
  refine Ct.of RX8 (by decide +kernel) rfl (Nat.le_of_ble_eq_true rfl) (fun M C Z => ?_)
  obtain ⟨fs, hb⟩ := id hMB
  refine G.eq (pc' := 0) (vs' := [some (.ref (E.1 286)), some (.ref (E.1 294)), some (.int (nI i)), some (.int (nI j)), some (.int s), none]) (st' := []) ?_
  refine r_aload_n (pc := 0) C dX8_addTerm_0 rfl ?_
  refine r_aload_n (pc := 1) C dX8_addTerm_1 rfl ?_
  refine r_bipush (pc := 2) (v := nI 24) C dX8_addTerm_2 (by decide +kernel) ?_
  refine r_iload_n (pc := 4) C dX8_addTerm_4 rfl ?_
  refine r_imul (pc := 5) C dX8_addTerm_5 ?_
  refine r_ti (nI (24 * j)) (pk_mul _ _) ?_
  refine r_aload_n (pc := 6) C dX8_addTerm_6 rfl ?_
  refine r_getf (pc := 7) C dX8_addTerm_7 fl_RX8_37 hb.1 hb.2.2.2.2.2.2.2.2.1 ?_
  refine r_callV (pc := 10) C dX8_addTerm_10 cv_RX8_129 (c_X8_load hb.1 hb.2.1 hN c292 (by decide) c294 (by decide) (24 * j) (by omega) (by decide)) ⟨rfl, rfl, by decide, by decide⟩ hb.1 rfl rfl (Nat.le_of_ble_eq_true rfl) ⟨Nat.zero_le _, Nat.zero_le _⟩ ?_
  rintro _ _ ⟨rfl, rfl⟩
  show G M S E (0, 0) (va_up g 292 (xJ S 24 (ldF N f (24 * j)))) 13 [some (.ref (E.1 286)), some (.ref (E.1 294)), some (.int (nI i)), some (.int (nI j)), some (.int s), none] []
  refine r_aload_n (pc := 13) C dX8_addTerm_13 rfl ?_
  refine r_aload_n (pc := 14) C dX8_addTerm_14 rfl ?_
  refine r_getf (pc := 15) C dX8_addTerm_15 fl_RX8_37 (Ce.up hb.1 (by decide)) hb.2.2.2.2.2.2.2.2.1 ?_
  refine r_iconst (pc := 18) (v := nI 0) C dX8_addTerm_18 (by decide +kernel) ?_
  refine r_iload_n (pc := 19) C dX8_addTerm_19 rfl ?_
  refine r_iload_n (pc := 20) C dX8_addTerm_20 rfl ?_
  refine r_isub (pc := 21) C dX8_addTerm_21 ?_
  refine r_ti (nI (i - j)) (pk_sub (by omega)) ?_
  refine r_iconst (pc := 22) (v := (-1)) C dX8_addTerm_22 (by decide +kernel) ?_
  refine r_callV (pc := 23) C dX8_addTerm_23 cv_RX8_175 (c_X8_overP (Ce.up hb.1 (by decide)) hb.2.1 hN (Ce.new c292) (by decide) 0 (i - j) (-1) (by omega) (by omega) (by decide)) ⟨rfl, rfl, by decide, by decide⟩ (Ce.up hb.1 (by decide)) rfl rfl (Nat.le_of_ble_eq_true rfl) ⟨Nat.zero_le _, Nat.zero_le _⟩ ?_
  rintro _ _ ⟨rfl, rfl⟩
  rw [bx_uu]
  show G M S E (0, 0) (va_up g 292 (xJ S 24 (ovFs N (0 + 1) (i - j) (ldF N f (24 * j))))) 26 [some (.ref (E.1 286)), some (.ref (E.1 294)), some (.int (nI i)), some (.int (nI j)), some (.int s), none] []
  refine r_aload_n (pc := 26) C dX8_addTerm_26 rfl ?_
  refine r_aload_n (pc := 27) C dX8_addTerm_27 rfl ?_
  refine r_getf (pc := 28) C dX8_addTerm_28 fl_RX8_37 (Ce.up hb.1 (by decide)) hb.2.2.2.2.2.2.2.2.1 ?_
  refine r_aload_n (pc := 31) C dX8_addTerm_31 rfl ?_
  refine r_getf (pc := 32) C dX8_addTerm_32 fl_RX8_109 (Ce.up hb.1 (by decide)) hb.2.2.1 ?_
  refine r_iload_n (pc := 35) C dX8_addTerm_35 rfl ?_
  refine r_iload_n (pc := 36) C dX8_addTerm_36 rfl ?_
  refine r_iadd (pc := 37) C dX8_addTerm_37 ?_
  refine r_ti (nI (i + j)) (nI_add _ _) ?_
  refine r_iconst (pc := 38) (v := (-1)) C dX8_addTerm_38 (by decide +kernel) ?_
  refine r_callV (pc := 39) C dX8_addTerm_39 cv_RX8_175 (c_X8_overP (Ce.up hb.1 (by decide)) hb.2.1 hN (Ce.new c292) (by decide) r (i + j) (-1) (by omega) (by omega) (by decide)) ⟨rfl, rfl, by decide, by decide⟩ (Ce.up hb.1 (by decide)) rfl rfl (Nat.le_of_ble_eq_true rfl) ⟨Nat.zero_le _, Nat.zero_le _⟩ ?_
  rintro _ _ ⟨rfl, rfl⟩
  rw [bx_uu]
  show G M S E (0, 0) (va_up g 292 (xJ S 24 (facZ N r f i j))) 42 [some (.ref (E.1 286)), some (.ref (E.1 294)), some (.int (nI i)), some (.int (nI j)), some (.int s), none] []
  refine r_iconst (pc := 42) (v := nI 0) C dX8_addTerm_42 (by decide +kernel) ?_
  refine r_istore (pc := 43) C dX8_addTerm_43 (by decide) ?_
  refine G.eq (pc' := 45) (vs' := [some (.ref (E.1 286)), some (.ref (E.1 294)), some (.int (nI i)), some (.int (nI j)), some (.int s), some (.int (nI 0))]) (st' := []) ?_
  refine G.heap (Ce.id (Ce.up c293 (by decide))) ?_
  refine bk (P := fun t2 => G M S E (0, 0) (va_up (va_up g 292 (xJ S 24 (facZ N r f i j))) 293 (xJ S 24 (it (fun t h => vp_updL h t (h t + s.toInt64 * (facZ N r f i j) t)) t2 a3))) 45 [some (.ref (E.1 286)), some (.ref (E.1 294)), some (.int (nI i)), some (.int (nI j)), some (.int s), some (.int (nI t2))] []) (T := N) ?_ (fun t2 ht ih => ?_)
  · show G M S E (0, 0) (va_up (va_up g 292 (xJ S 24 (facZ N r f i j))) 293 (xJ S 24 (it (fun t h => vp_updL h t (h t + s.toInt64 * (facZ N r f i j) t)) N a3))) 45 [some (.ref (E.1 286)), some (.ref (E.1 294)), some (.int (nI i)), some (.int (nI j)), some (.int s), some (.int (nI N))] []
    refine r_iload (pc := 45) C dX8_addTerm_45 rfl ?_
    refine r_aload_n (pc := 47) C dX8_addTerm_47 rfl ?_
    refine r_getf (pc := 48) C dX8_addTerm_48 fl_RX8_17 (Ce.up (Ce.up hb.1 (by decide)) (by decide)) hb.2.1 ?_
    refine r_icmp_ge (pc := 51) (tgt := 81) C dX8_addTerm_51 (by decide) (fun h51 => ?_) (fun h51 => ?_)
    · have h51 := c_le (by omega) (by omega) h51
      exact r_vret (pc := 81) C Z dX8_addTerm_81 rfl
    · have h51 := c_nle (by omega) (by omega) h51
      omega
  · show G M S E (0, 0) (va_up (va_up g 292 (xJ S 24 (facZ N r f i j))) 293 (xJ S 24 (it (fun t h => vp_updL h t (h t + s.toInt64 * (facZ N r f i j) t)) t2 a3))) 45 [some (.ref (E.1 286)), some (.ref (E.1 294)), some (.int (nI i)), some (.int (nI j)), some (.int s), some (.int (nI t2))] []
    refine r_iload (pc := 45) C dX8_addTerm_45 rfl ?_
    refine r_aload_n (pc := 47) C dX8_addTerm_47 rfl ?_
    refine r_getf (pc := 48) C dX8_addTerm_48 fl_RX8_17 (Ce.up (Ce.up hb.1 (by decide)) (by decide)) hb.2.1 ?_
    refine r_icmp_ge (pc := 51) (tgt := 81) C dX8_addTerm_51 (by decide) (fun h51 => ?_) (fun h51 => ?_)
    · have h51 := c_le (by omega) (by omega) h51
      omega
    · have h51 := c_nle (by omega) (by omega) h51
      refine r_aload_n (pc := 54) C dX8_addTerm_54 rfl ?_
      refine r_getf (pc := 55) C dX8_addTerm_55 fl_RX8_40 (Ce.up (Ce.up hb.1 (by decide)) (by decide)) hb.2.2.2.2.2.2.2.2.2.1 ?_
      refine r_iload (pc := 58) C dX8_addTerm_58 rfl ?_
      refine r_dup2 (pc := 60) C dX8_addTerm_60 rfl rfl ?_
      refine r_lald (pc := 61) C dX8_addTerm_61 (Ce.new (Ce.up c293 (by decide))) rfl (by omega) (by omega) ?_
      refine r_iload (pc := 62) C dX8_addTerm_62 rfl ?_
      refine r_i2l (pc := 64) C dX8_addTerm_64 ?_
      refine r_aload_n (pc := 65) C dX8_addTerm_65 rfl ?_
      refine r_getf (pc := 66) C dX8_addTerm_66 fl_RX8_37 (Ce.up (Ce.up hb.1 (by decide)) (by decide)) hb.2.2.2.2.2.2.2.2.1 ?_
      refine r_iload (pc := 69) C dX8_addTerm_69 rfl ?_
      refine r_lald (pc := 71) C dX8_addTerm_71 (Ce.up (Ce.new c292) (by decide)) rfl (by omega) (by omega) ?_
      refine r_lmul (pc := 72) C dX8_addTerm_72 ?_
      refine r_ladd (pc := 73) C dX8_addTerm_73 ?_
      refine r_last2 (pc := 74) C dX8_addTerm_74 c293.1 rfl (by omega) (by omega) ?_
      refine r_iinc (pc := 75) (v := nI (t2 + 1)) C dX8_addTerm_75 rfl (nI_i1 _) (by decide) ?_
      refine G.eq (pc' := 78) (vs' := [some (.ref (E.1 286)), some (.ref (E.1 294)), some (.int (nI i)), some (.int (nI j)), some (.int s), some (.int (nI (t2 + 1)))]) (st' := []) ?_
      refine r_goto (pc := 78) (tgt := 45) C dX8_addTerm_78 (by decide) ?_
      exact ih
set_option maxHeartbeats 4000000 in
set_option maxRecDepth 100000 in
theorem c_X8_keepsOther_294 {S : ST} {E : ET} {g : Nat → va_E} {N r : Nat} (hMB : MB E g N r) (hN : N ≤ 24) (hr : r ≤ 1) {f a3 : Nat → Int64} (c294 : Ce E g 294 (xJ S 120 f)) (c293 : Ce E g 293 (xJ S 24 a3)) (i : Nat) (hi : i < 5) : CtI S E yX8_keepsOther cX8_keepsOther 4 (Option.some FieldType.boolean) rmX8_keepsOther [.ref (E.1 286), .ref (E.1 294), .int (nI i)] g (fun u g' => u = b2i (fitB 24 a3) ∧ g' = va_up g 294 (xJ S 120 (stR f i a3))) := by
  refine Ct.of RX8 (by decide +kernel) rfl (Nat.le_of_ble_eq_true rfl) (fun M C Z => ?_)
  obtain ⟨fs, hb⟩ := id hMB
  refine G.eq (pc' := 0) (vs' := [some (.ref (E.1 286)), some (.ref (E.1 294)), some (.int (nI i)), none]) (st' := []) ?_
  refine r_iconst (pc := 0) (v := nI 0) C dX8_keepsOther_0 (by decide +kernel) ?_
  refine r_istore_n (pc := 1) C dX8_keepsOther_1 (by decide) ?_
  refine G.eq (pc' := 2) (vs' := [some (.ref (E.1 286)), some (.ref (E.1 294)), some (.int (nI i)), some (.int (nI 0))]) (st' := []) ?_
  refine G.heap (Ce.id c294) ?_
  refine bk (P := fun t2 => G M S E (0, 0) (va_up g 294 (xJ S 120 (it (fun k h => vp_updL h (24 * i + k) (a3 k)) t2 f))) 2 [some (.ref (E.1 286)), some (.ref (E.1 294)), some (.int (nI i)), some (.int (nI t2))] []) (T := 24) ?_ (fun t2 ht ih => ?_)
  · show G M S E (0, 0) (va_up g 294 (xJ S 120 (it (fun k h => vp_updL h (24 * i + k) (a3 k)) 24 f))) 2 [some (.ref (E.1 286)), some (.ref (E.1 294)), some (.int (nI i)), some (.int (nI 24))] []
    refine r_iload_n (pc := 2) C dX8_keepsOther_2 rfl ?_
    refine r_bipush (pc := 3) (v := nI 24) C dX8_keepsOther_3 (by decide +kernel) ?_
    refine r_icmp_ge (pc := 5) (tgt := 28) C dX8_keepsOther_5 (by decide) (fun h5 => ?_) (fun h5 => ?_)
    · have h5 := c_le (by omega) (by omega) h5
      refine G.cJ (f' := stR f i a3) (fun j _ => it_st a3 f (24 * i) 24 j) ?_
      refine r_aload_n (pc := 28) C dX8_keepsOther_28 rfl ?_
      refine r_getf (pc := 29) C dX8_keepsOther_29 fl_RX8_40 (Ce.up hb.1 (by decide)) hb.2.2.2.2.2.2.2.2.2.1 ?_
      refine r_callS (pc := 32) C dX8_keepsOther_32 cs_RX8_97 (c_X8_isInRange (Ce.up c293 (by decide))) ⟨rfl, rfl, by decide, by decide⟩ rfl rfl (Nat.le_of_ble_eq_true rfl) ⟨Nat.zero_le _, Nat.zero_le _⟩ ?_
      rintro _ _ ⟨_, rfl, rfl, rfl⟩
      show G M S E (0, 0) (va_up g 294 (xJ S 120 (stR f i a3))) 35 [some (.ref (E.1 286)), some (.ref (E.1 294)), some (.int (nI i)), some (.int (nI 24))] [.int (b2i (fitB 24 a3))]
      exact r_iret (pc := 35) C Z dX8_keepsOther_35 (b_n _) (⟨rfl, rfl⟩)
    · have h5 := c_nle (by omega) (by omega) h5
      omega
  · show G M S E (0, 0) (va_up g 294 (xJ S 120 (it (fun k h => vp_updL h (24 * i + k) (a3 k)) t2 f))) 2 [some (.ref (E.1 286)), some (.ref (E.1 294)), some (.int (nI i)), some (.int (nI t2))] []
    refine r_iload_n (pc := 2) C dX8_keepsOther_2 rfl ?_
    refine r_bipush (pc := 3) (v := nI 24) C dX8_keepsOther_3 (by decide +kernel) ?_
    refine r_icmp_ge (pc := 5) (tgt := 28) C dX8_keepsOther_5 (by decide) (fun h5 => ?_) (fun h5 => ?_)
    · have h5 := c_le (by omega) (by omega) h5
      omega
    · have h5 := c_nle (by omega) (by omega) h5
      refine r_aload_n (pc := 8) C dX8_keepsOther_8 rfl ?_
      refine r_bipush (pc := 9) (v := nI 24) C dX8_keepsOther_9 (by decide +kernel) ?_
      refine r_iload_n (pc := 11) C dX8_keepsOther_11 rfl ?_
      refine r_imul (pc := 12) C dX8_keepsOther_12 ?_
      refine r_ti (nI (24 * i)) (pk_mul _ _) ?_
      refine r_iload_n (pc := 13) C dX8_keepsOther_13 rfl ?_
      refine r_iadd (pc := 14) C dX8_keepsOther_14 ?_
      refine r_ti (nI (24 * i + t2)) (nI_add _ _) ?_
      refine r_aload_n (pc := 15) C dX8_keepsOther_15 rfl ?_
      refine r_getf (pc := 16) C dX8_keepsOther_16 fl_RX8_40 (Ce.up hb.1 (by decide)) hb.2.2.2.2.2.2.2.2.2.1 ?_
      refine r_iload_n (pc := 19) C dX8_keepsOther_19 rfl ?_
      refine r_lald (pc := 20) C dX8_keepsOther_20 (Ce.up c293 (by decide)) rfl (by omega) (by omega) ?_
      refine r_last2 (pc := 21) C dX8_keepsOther_21 c294.1 rfl (by omega) (by omega) ?_
      refine r_iinc (pc := 22) (v := nI (t2 + 1)) C dX8_keepsOther_22 rfl (nI_i1 _) (by decide) ?_
      refine G.eq (pc' := 25) (vs' := [some (.ref (E.1 286)), some (.ref (E.1 294)), some (.int (nI i)), some (.int (nI (t2 + 1)))]) (st' := []) ?_
      refine r_goto (pc := 25) (tgt := 2) C dX8_keepsOther_25 (by decide) ?_
      exact ih
set_option maxHeartbeats 4000000 in
set_option maxRecDepth 100000 in
theorem c_X8_keepsOther_295 {S : ST} {E : ET} {g : Nat → va_E} {N r : Nat} (hMB : MB E g N r) (hN : N ≤ 24) (hr : r ≤ 1) {f a3 : Nat → Int64} (c295 : Ce E g 295 (xJ S 120 f)) (c293 : Ce E g 293 (xJ S 24 a3)) (i : Nat) (hi : i < 5) : CtI S E yX8_keepsOther cX8_keepsOther 4 (Option.some FieldType.boolean) rmX8_keepsOther [.ref (E.1 286), .ref (E.1 295), .int (nI i)] g (fun u g' => u = b2i (fitB 24 a3) ∧ g' = va_up g 295 (xJ S 120 (stR f i a3))) := by
  refine Ct.of RX8 (by decide +kernel) rfl (Nat.le_of_ble_eq_true rfl) (fun M C Z => ?_)
  obtain ⟨fs, hb⟩ := id hMB
  refine G.eq (pc' := 0) (vs' := [some (.ref (E.1 286)), some (.ref (E.1 295)), some (.int (nI i)), none]) (st' := []) ?_
  refine r_iconst (pc := 0) (v := nI 0) C dX8_keepsOther_0 (by decide +kernel) ?_
  refine r_istore_n (pc := 1) C dX8_keepsOther_1 (by decide) ?_
  refine G.eq (pc' := 2) (vs' := [some (.ref (E.1 286)), some (.ref (E.1 295)), some (.int (nI i)), some (.int (nI 0))]) (st' := []) ?_
  refine G.heap (Ce.id c295) ?_
  refine bk (P := fun t2 => G M S E (0, 0) (va_up g 295 (xJ S 120 (it (fun k h => vp_updL h (24 * i + k) (a3 k)) t2 f))) 2 [some (.ref (E.1 286)), some (.ref (E.1 295)), some (.int (nI i)), some (.int (nI t2))] []) (T := 24) ?_ (fun t2 ht ih => ?_)
  · show G M S E (0, 0) (va_up g 295 (xJ S 120 (it (fun k h => vp_updL h (24 * i + k) (a3 k)) 24 f))) 2 [some (.ref (E.1 286)), some (.ref (E.1 295)), some (.int (nI i)), some (.int (nI 24))] []
    refine r_iload_n (pc := 2) C dX8_keepsOther_2 rfl ?_
    refine r_bipush (pc := 3) (v := nI 24) C dX8_keepsOther_3 (by decide +kernel) ?_
    refine r_icmp_ge (pc := 5) (tgt := 28) C dX8_keepsOther_5 (by decide) (fun h5 => ?_) (fun h5 => ?_)
    · have h5 := c_le (by omega) (by omega) h5
      refine G.cJ (f' := stR f i a3) (fun j _ => it_st a3 f (24 * i) 24 j) ?_
      refine r_aload_n (pc := 28) C dX8_keepsOther_28 rfl ?_
      refine r_getf (pc := 29) C dX8_keepsOther_29 fl_RX8_40 (Ce.up hb.1 (by decide)) hb.2.2.2.2.2.2.2.2.2.1 ?_
      refine r_callS (pc := 32) C dX8_keepsOther_32 cs_RX8_97 (c_X8_isInRange (Ce.up c293 (by decide))) ⟨rfl, rfl, by decide, by decide⟩ rfl rfl (Nat.le_of_ble_eq_true rfl) ⟨Nat.zero_le _, Nat.zero_le _⟩ ?_
      rintro _ _ ⟨_, rfl, rfl, rfl⟩
      show G M S E (0, 0) (va_up g 295 (xJ S 120 (stR f i a3))) 35 [some (.ref (E.1 286)), some (.ref (E.1 295)), some (.int (nI i)), some (.int (nI 24))] [.int (b2i (fitB 24 a3))]
      exact r_iret (pc := 35) C Z dX8_keepsOther_35 (b_n _) (⟨rfl, rfl⟩)
    · have h5 := c_nle (by omega) (by omega) h5
      omega
  · show G M S E (0, 0) (va_up g 295 (xJ S 120 (it (fun k h => vp_updL h (24 * i + k) (a3 k)) t2 f))) 2 [some (.ref (E.1 286)), some (.ref (E.1 295)), some (.int (nI i)), some (.int (nI t2))] []
    refine r_iload_n (pc := 2) C dX8_keepsOther_2 rfl ?_
    refine r_bipush (pc := 3) (v := nI 24) C dX8_keepsOther_3 (by decide +kernel) ?_
    refine r_icmp_ge (pc := 5) (tgt := 28) C dX8_keepsOther_5 (by decide) (fun h5 => ?_) (fun h5 => ?_)
    · have h5 := c_le (by omega) (by omega) h5
      omega
    · have h5 := c_nle (by omega) (by omega) h5
      refine r_aload_n (pc := 8) C dX8_keepsOther_8 rfl ?_
      refine r_bipush (pc := 9) (v := nI 24) C dX8_keepsOther_9 (by decide +kernel) ?_
      refine r_iload_n (pc := 11) C dX8_keepsOther_11 rfl ?_
      refine r_imul (pc := 12) C dX8_keepsOther_12 ?_
      refine r_ti (nI (24 * i)) (pk_mul _ _) ?_
      refine r_iload_n (pc := 13) C dX8_keepsOther_13 rfl ?_
      refine r_iadd (pc := 14) C dX8_keepsOther_14 ?_
      refine r_ti (nI (24 * i + t2)) (nI_add _ _) ?_
      refine r_aload_n (pc := 15) C dX8_keepsOther_15 rfl ?_
      refine r_getf (pc := 16) C dX8_keepsOther_16 fl_RX8_40 (Ce.up hb.1 (by decide)) hb.2.2.2.2.2.2.2.2.2.1 ?_
      refine r_iload_n (pc := 19) C dX8_keepsOther_19 rfl ?_
      refine r_lald (pc := 20) C dX8_keepsOther_20 (Ce.up c293 (by decide)) rfl (by omega) (by omega) ?_
      refine r_last2 (pc := 21) C dX8_keepsOther_21 c295.1 rfl (by omega) (by omega) ?_
      refine r_iinc (pc := 22) (v := nI (t2 + 1)) C dX8_keepsOther_22 rfl (nI_i1 _) (by decide) ?_
      refine G.eq (pc' := 25) (vs' := [some (.ref (E.1 286)), some (.ref (E.1 295)), some (.int (nI i)), some (.int (nI (t2 + 1)))]) (st' := []) ?_
      refine r_goto (pc := 25) (tgt := 2) C dX8_keepsOther_25 (by decide) ?_
      exact ih
set_option maxHeartbeats 4000000 in
set_option maxRecDepth 100000 in
theorem c_X8_findBeta {S : ST} {E : ET} {g : Nat → va_E} {N r : Nat} (hMB : MB E g N r) (hN : N ≤ 24) (hr : r ≤ 1) {f h5 a2 a3 : Nat → Int64} (c294 : Ce E g 294 (xJ S 120 f)) (c295 : Ce E g 295 (xJ S 120 h5)) (c292 : Ce E g 292 (xJ S 24 a2)) (c293 : Ce E g 293 (xJ S 24 a3)) : CtI S E yX8_findBeta cX8_findBeta 4 (Option.some FieldType.boolean) rmX8_findBeta [.ref (E.1 286)] g (fun u g' => u = b2i (allB (fun i => fitB 24 (bZ N r f i (i + 1))) 5) ∧ Ce E g' 294 (xJ S 120 f) ∧ Ce E g' 295 (xJ S 120 (nbZ N r f h5 5)) ∧ (∃ a : Nat → Int64, Ce E g' 292 (xJ S 24 a)) ∧ (∃ a : Nat → Int64, Ce E g' 293 (xJ S 24 a)) ∧ Fr g g' 292 296) := by
  refine Ct.of RX8 (by decide +kernel) rfl (Nat.le_of_ble_eq_true rfl) (fun M C Z => ?_)
  obtain ⟨fs, hb⟩ := id hMB
  refine G.eq (pc' := 0) (vs' := [some (.ref (E.1 286)), none, none, none]) (st' := []) ?_
  refine r_iconst (pc := 0) (v := nI 1) C dX8_findBeta_0 (by decide +kernel) ?_
  refine r_istore_n (pc := 1) C dX8_findBeta_1 (by decide) ?_
  refine G.eq (pc' := 2) (vs' := [some (.ref (E.1 286)), some (.int (nI 1)), none, none]) (st' := []) ?_
  refine r_iconst (pc := 2) (v := nI 0) C dX8_findBeta_2 (by decide +kernel) ?_
  refine r_istore_n (pc := 3) C dX8_findBeta_3 (by decide) ?_
  refine G.eq (pc' := 4) (vs' := [some (.ref (E.1 286)), some (.int (nI 1)), some (.int (nI 0)), none]) (st' := []) ?_
  refine bk (P := fun t => ∀ h : Nat → va_E, (MB E h N r ∧ Ce E h 294 (xJ S 120 f) ∧ Ce E h 295 (xJ S 120 (nbZ N r f h5 t)) ∧ (∃ a : Nat → Int64, Ce E h 292 (xJ S 24 a)) ∧ (∃ a : Nat → Int64, Ce E h 293 (xJ S 24 a)) ∧ Fr g h 292 296) → G M S E (0, 0) h 4 [some (.ref (E.1 286)), some (.int (b2i (allB (fun i => fitB 24 (bZ N r f i (i + 1))) t))), some (.int (nI t)), none] []) (T := 5) (fun h hI => ?_) (fun t ht ih h hI => ?_) _ (⟨hMB, c294, c295, ⟨_, c292⟩, ⟨_, c293⟩, Fr.rf⟩)
  · obtain ⟨⟨fs, hb⟩, c294, c295, ⟨a2, c292⟩, ⟨a3, c293⟩, hf⟩ := hI
    show G M S E (0, 0) h 4 [some (.ref (E.1 286)), some (.int (b2i (allB (fun i => fitB 24 (bZ N r f i (i + 1))) 5))), some (.int (nI 5)), none] []
    refine r_iload_n (pc := 4) C dX8_findBeta_4 rfl ?_
    refine r_iconst (pc := 5) (v := nI 5) C dX8_findBeta_5 (by decide +kernel) ?_
    refine r_icmp_ge (pc := 6) (tgt := 59) C dX8_findBeta_6 (by decide) (fun h6 => ?_) (fun h6 => ?_)
    · have h6 := c_le (by omega) (by omega) h6
      refine r_iload_n (pc := 59) C dX8_findBeta_59 rfl ?_
      exact r_iret (pc := 60) C Z dX8_findBeta_60 (b_n _) (⟨rfl, c294, c295, ⟨a2, c292⟩, ⟨a3, c293⟩, hf⟩)
    · have h6 := c_nle (by omega) (by omega) h6
      omega
  · obtain ⟨⟨fs, hb⟩, c294, c295, ⟨a2, c292⟩, ⟨a3, c293⟩, hf⟩ := hI
    show G M S E (0, 0) h 4 [some (.ref (E.1 286)), some (.int (b2i (allB (fun i => fitB 24 (bZ N r f i (i + 1))) t))), some (.int (nI t)), none] []
    refine r_iload_n (pc := 4) C dX8_findBeta_4 rfl ?_
    refine r_iconst (pc := 5) (v := nI 5) C dX8_findBeta_5 (by decide +kernel) ?_
    refine r_icmp_ge (pc := 6) (tgt := 59) C dX8_findBeta_6 (by decide) (fun h6 => ?_) (fun h6 => ?_)
    · have h6 := c_le (by omega) (by omega) h6
      omega
    · have h6 := c_nle (by omega) (by omega) h6
      refine r_aload_n (pc := 9) C dX8_findBeta_9 rfl ?_
      refine r_aload_n (pc := 10) C dX8_findBeta_10 rfl ?_
      refine r_getf (pc := 11) C dX8_findBeta_11 fl_RX8_40 hb.1 hb.2.2.2.2.2.2.2.2.2.1 ?_
      refine r_callV (pc := 14) C dX8_findBeta_14 cv_RX8_136 (c_X8_makeZero c293 (by decide)) ⟨rfl, rfl, by decide, by decide⟩ hb.1 rfl rfl (Nat.le_of_ble_eq_true rfl) ⟨Nat.zero_le _, Nat.zero_le _⟩ ?_
      rintro _ _ ⟨rfl, rfl⟩
      show G M S E (0, 0) (va_up h 293 (xJ S 24 (fun _ => 0))) 17 [some (.ref (E.1 286)), some (.int (b2i (allB (fun i => fitB 24 (bZ N r f i (i + 1))) t))), some (.int (nI t)), none] []
      refine r_iconst (pc := 17) (v := nI 0) C dX8_findBeta_17 (by decide +kernel) ?_
      refine r_istore_n (pc := 18) C dX8_findBeta_18 (by decide) ?_
      refine G.eq (pc' := 19) (vs' := [some (.ref (E.1 286)), some (.int (b2i (allB (fun i => fitB 24 (bZ N r f i (i + 1))) t))), some (.int (nI t)), some (.int (nI 0))]) (st' := []) ?_
      refine G.heap (Ce.id (Ce.up c292 (by decide))) ?_
      refine bk (P := fun t2 => G M S E (0, 0) (va_up (va_up h 293 (xJ S 24 (bZ N r f t t2))) 292 (xJ S 24 (prv a2 (fun j => facZ N r f t j) t2))) 19 [some (.ref (E.1 286)), some (.int (b2i (allB (fun i => fitB 24 (bZ N r f i (i + 1))) t))), some (.int (nI t)), some (.int (nI t2))] []) (T := t + 1) ?_ (fun t2 ht ih => ?_)
      · show G M S E (0, 0) (va_up (va_up h 293 (xJ S 24 (bZ N r f t (t + 1)))) 292 (xJ S 24 (prv a2 (fun j => facZ N r f t j) (t + 1)))) 19 [some (.ref (E.1 286)), some (.int (b2i (allB (fun i => fitB 24 (bZ N r f i (i + 1))) t))), some (.int (nI t)), some (.int (nI (t + 1)))] []
        refine r_iload_n (pc := 19) C dX8_findBeta_19 rfl ?_
        refine r_iload_n (pc := 20) C dX8_findBeta_20 rfl ?_
        refine r_icmp_gt (pc := 21) (tgt := 41) C dX8_findBeta_21 (by decide) (fun h21 => ?_) (fun h21 => ?_)
        · have h21 := c_lt (by omega) (by omega) h21
          refine r_iload_n (pc := 41) C dX8_findBeta_41 rfl ?_
          refine r_aload_n (pc := 42) C dX8_findBeta_42 rfl ?_
          refine r_aload_n (pc := 43) C dX8_findBeta_43 rfl ?_
          refine r_getf (pc := 44) C dX8_findBeta_44 fl_RX8_46 (Ce.up (Ce.up hb.1 (by decide)) (by decide)) hb.2.2.2.2.2.2.2.2.2.2.2.1 ?_
          refine r_iload_n (pc := 47) C dX8_findBeta_47 rfl ?_
          refine r_callV (pc := 48) C dX8_findBeta_48 cv_RX8_182 (c_X8_keepsOther_295 ⟨fs, (Ce.up (Ce.up hb.1 (by decide)) (by decide)), hb.2⟩ hN hr (Ce.up (Ce.up c295 (by decide)) (by decide)) (Ce.up (Ce.new c293) (by decide)) t (by omega)) ⟨rfl, rfl, by decide, by decide⟩ (Ce.up (Ce.up hb.1 (by decide)) (by decide)) rfl rfl (Nat.le_of_ble_eq_true rfl) ⟨Nat.zero_le _, Nat.zero_le _⟩ ?_
          rintro _ _ ⟨_, rfl, rfl, rfl⟩
          show G M S E (0, 0) (va_up (va_up (va_up h 293 (xJ S 24 (bZ N r f t (t + 1)))) 292 (xJ S 24 (prv a2 (fun j => facZ N r f t j) (t + 1)))) 295 (xJ S 120 (stR (nbZ N r f h5 t) t (bZ N r f t (t + 1))))) 51 [some (.ref (E.1 286)), some (.int (b2i (allB (fun i => fitB 24 (bZ N r f i (i + 1))) t))), some (.int (nI t)), some (.int (nI (t + 1)))] [.int (b2i (fitB 24 (bZ N r f t (t + 1)))), .int (b2i (allB (fun i => fitB 24 (bZ N r f i (i + 1))) t))]
          refine r_iand (pc := 51) C dX8_findBeta_51 ?_
          refine r_ti (b2i ((allB (fun i => fitB 24 (bZ N r f i (i + 1))) t) && (fitB 24 (bZ N r f t (t + 1))))) (b2i_and _ _) ?_
          refine r_istore_n (pc := 52) C dX8_findBeta_52 (by decide) ?_
          refine G.eq (pc' := 53) (vs' := [some (.ref (E.1 286)), some (.int (b2i ((allB (fun i => fitB 24 (bZ N r f i (i + 1))) t) && (fitB 24 (bZ N r f t (t + 1)))))), some (.int (nI t)), some (.int (nI (t + 1)))]) (st' := []) ?_
          refine r_iinc (pc := 53) (v := nI (t + 1)) C dX8_findBeta_53 rfl (nI_i1 _) (by decide) ?_
          refine G.eq (pc' := 56) (vs' := [some (.ref (E.1 286)), some (.int (b2i ((allB (fun i => fitB 24 (bZ N r f i (i + 1))) t) && (fitB 24 (bZ N r f t (t + 1)))))), some (.int (nI (t + 1))), some (.int (nI (t + 1)))]) (st' := []) ?_
          refine r_goto (pc := 56) (tgt := 4) C dX8_findBeta_56 (by decide) ?_
          refine G.wk (vs' := [some (.ref (E.1 286)), some (.int (b2i ((allB (fun i => fitB 24 (bZ N r f i (i + 1))) t) && (fitB 24 (bZ N r f t (t + 1)))))), some (.int (nI (t + 1))), none]) ⟨rfl, rfl, rfl, trivial⟩ ?_
          exact (ih _ ⟨⟨fs, (Ce.up (Ce.up (Ce.up hb.1 (by decide)) (by decide)) (by decide)), hb.2⟩, (Ce.up (Ce.up (Ce.up c294 (by decide)) (by decide)) (by decide)), (Ce.new (Ce.up (Ce.up c295 (by decide)) (by decide))), ⟨_, (Ce.up (Ce.new (Ce.up c292 (by decide))) (by decide))⟩, ⟨_, (Ce.up (Ce.up (Ce.new c293) (by decide)) (by decide))⟩, (((hf.up (by omega) (by omega)).up (by omega) (by omega)).up (by omega) (by omega))⟩)
        · have h21 := c_nlt (by omega) (by omega) h21
          omega
      · show G M S E (0, 0) (va_up (va_up h 293 (xJ S 24 (bZ N r f t t2))) 292 (xJ S 24 (prv a2 (fun j => facZ N r f t j) t2))) 19 [some (.ref (E.1 286)), some (.int (b2i (allB (fun i => fitB 24 (bZ N r f i (i + 1))) t))), some (.int (nI t)), some (.int (nI t2))] []
        refine r_iload_n (pc := 19) C dX8_findBeta_19 rfl ?_
        refine r_iload_n (pc := 20) C dX8_findBeta_20 rfl ?_
        refine r_icmp_gt (pc := 21) (tgt := 41) C dX8_findBeta_21 (by decide) (fun h21 => ?_) (fun h21 => ?_)
        · have h21 := c_lt (by omega) (by omega) h21
          omega
        · have h21 := c_nlt (by omega) (by omega) h21
          refine r_aload_n (pc := 24) C dX8_findBeta_24 rfl ?_
          refine r_aload_n (pc := 25) C dX8_findBeta_25 rfl ?_
          refine r_getf (pc := 26) C dX8_findBeta_26 fl_RX8_43 (Ce.up (Ce.up hb.1 (by decide)) (by decide)) hb.2.2.2.2.2.2.2.2.2.2.1 ?_
          refine r_iload_n (pc := 29) C dX8_findBeta_29 rfl ?_
          refine r_iload_n (pc := 30) C dX8_findBeta_30 rfl ?_
          refine r_iconst (pc := 31) (v := nI 1) C dX8_findBeta_31 (by decide +kernel) ?_
          refine r_callV (pc := 32) C dX8_findBeta_32 cv_RX8_179 (c_X8_addTerm ⟨fs, (Ce.up (Ce.up hb.1 (by decide)) (by decide)), hb.2⟩ hN hr (Ce.up (Ce.up c294 (by decide)) (by decide)) (Ce.new (Ce.up c292 (by decide))) (Ce.up (Ce.new c293) (by decide)) t t2 (nI 1) (by omega) (by omega)) ⟨rfl, rfl, by decide, by decide⟩ (Ce.up (Ce.up hb.1 (by decide)) (by decide)) rfl rfl (Nat.le_of_ble_eq_true rfl) ⟨Nat.zero_le _, Nat.zero_le _⟩ ?_
          rintro _ _ ⟨rfl, rfl⟩
          show G M S E (0, 0) (va_up (va_up (va_up (va_up h 293 (xJ S 24 (bZ N r f t t2))) 292 (xJ S 24 (prv a2 (fun j => facZ N r f t j) t2))) 292 (xJ S 24 (facZ N r f t t2))) 293 (xJ S 24 (plW N (facZ N r f t t2) (nI 1) (bZ N r f t t2)))) 35 [some (.ref (E.1 286)), some (.int (b2i (allB (fun i => fitB 24 (bZ N r f i (i + 1))) t))), some (.int (nI t)), some (.int (nI t2))] []
          refine G.heap (show (va_up (va_up (va_up (va_up h 293 (xJ S 24 (bZ N r f t t2))) 292 (xJ S 24 (prv a2 (fun j => facZ N r f t j) t2))) 292 (xJ S 24 (facZ N r f t t2))) 293 (xJ S 24 (plW N (facZ N r f t t2) (nI 1) (bZ N r f t t2)))) = (va_up (va_up h 293 (xJ S 24 (plW N (facZ N r f t t2) (nI 1) (bZ N r f t t2)))) 292 (xJ S 24 (facZ N r f t t2))) from by funext q; simp only [va_up]; (repeat' split) <;> first | rfl | omega) ?_
          refine r_iinc (pc := 35) (v := nI (t2 + 1)) C dX8_findBeta_35 rfl (nI_i1 _) (by decide) ?_
          refine G.eq (pc' := 38) (vs' := [some (.ref (E.1 286)), some (.int (b2i (allB (fun i => fitB 24 (bZ N r f i (i + 1))) t))), some (.int (nI t)), some (.int (nI (t2 + 1)))]) (st' := []) ?_
          refine r_goto (pc := 38) (tgt := 19) C dX8_findBeta_38 (by decide) ?_
          exact ih
set_option maxHeartbeats 4000000 in
set_option maxRecDepth 100000 in
theorem c_X8_findAlpha {S : ST} {E : ET} {g : Nat → va_E} {N r : Nat} (hMB : MB E g N r) (hN : N ≤ 24) (hr : r ≤ 1) {f h5 a2 a3 : Nat → Int64} (c294 : Ce E g 294 (xJ S 120 f)) (c295 : Ce E g 295 (xJ S 120 h5)) (c292 : Ce E g 292 (xJ S 24 a2)) (c293 : Ce E g 293 (xJ S 24 a3)) : CtI S E yX8_findAlpha cX8_findAlpha 3 (Option.some FieldType.boolean) rmX8_findAlpha [.ref (E.1 286)] g (fun u g' => u = b2i (allB (fun i => fitB 24 (aZ N r h5 (naZ N r h5 f i) i)) 5) ∧ (∃ a : Nat → Int64, Ce E g' 294 (xJ S 120 a) ∧ (allB (fun i => fitB 24 (aZ N r h5 (naZ N r h5 f i) i)) 5 = true → a = naZ N r h5 f 5)) ∧ Ce E g' 295 (xJ S 120 h5) ∧ (∃ a : Nat → Int64, Ce E g' 292 (xJ S 24 a)) ∧ (∃ a : Nat → Int64, Ce E g' 293 (xJ S 24 a)) ∧ Fr g g' 292 296) := by
  refine Ct.of RX8 (by decide +kernel) rfl (Nat.le_of_ble_eq_true rfl) (fun M C Z => ?_)
  obtain ⟨fs, hb⟩ := id hMB
  refine G.eq (pc' := 0) (vs' := [some (.ref (E.1 286)), none, none]) (st' := []) ?_
  refine r_iconst (pc := 0) (v := nI 0) C dX8_findAlpha_0 (by decide +kernel) ?_
  refine r_istore_n (pc := 1) C dX8_findAlpha_1 (by decide) ?_
  refine G.eq (pc' := 2) (vs' := [some (.ref (E.1 286)), some (.int (nI 0)), none]) (st' := []) ?_
  refine bk (P := fun t => ∀ h : Nat → va_E, (MB E h N r ∧ Ce E h 294 (xJ S 120 (naZ N r h5 f t)) ∧ Ce E h 295 (xJ S 120 h5) ∧ (∃ a : Nat → Int64, Ce E h 292 (xJ S 24 a)) ∧ (∃ a : Nat → Int64, Ce E h 293 (xJ S 24 a)) ∧ Fr g h 292 296 ∧ ∀ j : Nat, j < t → (fun i => fitB 24 (aZ N r h5 (naZ N r h5 f i) i)) j = true) → G M S E (0, 0) h 2 [some (.ref (E.1 286)), some (.int (nI t)), none] []) (T := 5) (fun h hI => ?_) (fun t ht ih h hI => ?_) _ (⟨hMB, c294, c295, ⟨_, c292⟩, ⟨_, c293⟩, Fr.rf, fun j hj => absurd hj (Nat.not_lt_zero j)⟩)
  · obtain ⟨⟨fs, hb⟩, c294, c295, ⟨a2, c292⟩, ⟨a3, c293⟩, hf, hh⟩ := hI
    show G M S E (0, 0) h 2 [some (.ref (E.1 286)), some (.int (nI 5)), none] []
    refine r_iload_n (pc := 2) C dX8_findAlpha_2 rfl ?_
    refine r_iconst (pc := 3) (v := nI 5) C dX8_findAlpha_3 (by decide +kernel) ?_
    refine r_icmp_ge (pc := 4) (tgt := 83) C dX8_findAlpha_4 (by decide) (fun h4 => ?_) (fun h4 => ?_)
    · have h4 := c_le (by omega) (by omega) h4
      refine r_iconst (pc := 83) (v := nI 1) C dX8_findAlpha_83 (by decide +kernel) ?_
      exact r_iret (pc := 84) C Z dX8_findAlpha_84 rfl (⟨by rw [show allB (fun i => fitB 24 (aZ N r h5 (naZ N r h5 f i) i)) 5 = true from allB_t hh]; rfl, ⟨_, c294, fun _ => rfl⟩, c295, ⟨a2, c292⟩, ⟨a3, c293⟩, hf⟩)
    · have h4 := c_nle (by omega) (by omega) h4
      omega
  · obtain ⟨⟨fs, hb⟩, c294, c295, ⟨a2, c292⟩, ⟨a3, c293⟩, hf, hh⟩ := hI
    show G M S E (0, 0) h 2 [some (.ref (E.1 286)), some (.int (nI t)), none] []
    refine r_iload_n (pc := 2) C dX8_findAlpha_2 rfl ?_
    refine r_iconst (pc := 3) (v := nI 5) C dX8_findAlpha_3 (by decide +kernel) ?_
    refine r_icmp_ge (pc := 4) (tgt := 83) C dX8_findAlpha_4 (by decide) (fun h4 => ?_) (fun h4 => ?_)
    · have h4 := c_le (by omega) (by omega) h4
      omega
    · have h4 := c_nle (by omega) (by omega) h4
      refine r_aload_n (pc := 7) C dX8_findAlpha_7 rfl ?_
      refine r_aload_n (pc := 8) C dX8_findAlpha_8 rfl ?_
      refine r_getf (pc := 9) C dX8_findAlpha_9 fl_RX8_46 hb.1 hb.2.2.2.2.2.2.2.2.2.2.2.1 ?_
      refine r_bipush (pc := 12) (v := nI 24) C dX8_findAlpha_12 (by decide +kernel) ?_
      refine r_iload_n (pc := 14) C dX8_findAlpha_14 rfl ?_
      refine r_imul (pc := 15) C dX8_findAlpha_15 ?_
      refine r_ti (nI (24 * t)) (pk_mul _ _) ?_
      refine r_aload_n (pc := 16) C dX8_findAlpha_16 rfl ?_
      refine r_getf (pc := 17) C dX8_findAlpha_17 fl_RX8_40 hb.1 hb.2.2.2.2.2.2.2.2.2.1 ?_
      refine r_callV (pc := 20) C dX8_findAlpha_20 cv_RX8_129 (c_X8_load hb.1 hb.2.1 hN c293 (by decide) c295 (by decide) (24 * t) (by omega) (by decide)) ⟨rfl, rfl, by decide, by decide⟩ hb.1 rfl rfl (Nat.le_of_ble_eq_true rfl) ⟨Nat.zero_le _, Nat.zero_le _⟩ ?_
      rintro _ _ ⟨rfl, rfl⟩
      show G M S E (0, 0) (va_up h 293 (xJ S 24 (ldF N h5 (24 * t)))) 23 [some (.ref (E.1 286)), some (.int (nI t)), none] []
      refine r_iconst (pc := 23) (v := nI 0) C dX8_findAlpha_23 (by decide +kernel) ?_
      refine r_istore_n (pc := 24) C dX8_findAlpha_24 (by decide) ?_
      refine G.eq (pc' := 25) (vs' := [some (.ref (E.1 286)), some (.int (nI t)), some (.int (nI 0))]) (st' := []) ?_
      refine G.heap (Ce.id (Ce.up c292 (by decide))) ?_
      refine bk (P := fun t2 => G M S E (0, 0) (va_up (va_up h 293 (xJ S 24 (aZ0 N r (naZ N r h5 f t) h5 t t2))) 292 (xJ S 24 (prv a2 (fun j => facZ N r (naZ N r h5 f t) t j) t2))) 25 [some (.ref (E.1 286)), some (.int (nI t)), some (.int (nI t2))] []) (T := t) ?_ (fun t2 ht ih => ?_)
      · show G M S E (0, 0) (va_up (va_up h 293 (xJ S 24 (aZ0 N r (naZ N r h5 f t) h5 t t))) 292 (xJ S 24 (prv a2 (fun j => facZ N r (naZ N r h5 f t) t j) t))) 25 [some (.ref (E.1 286)), some (.int (nI t)), some (.int (nI t))] []
        refine r_iload_n (pc := 25) C dX8_findAlpha_25 rfl ?_
        refine r_iload_n (pc := 26) C dX8_findAlpha_26 rfl ?_
        refine r_icmp_ge (pc := 27) (tgt := 47) C dX8_findAlpha_27 (by decide) (fun h27 => ?_) (fun h27 => ?_)
        · have h27 := c_le (by omega) (by omega) h27
          refine r_aload_n (pc := 47) C dX8_findAlpha_47 rfl ?_
          refine r_aload_n (pc := 48) C dX8_findAlpha_48 rfl ?_
          refine r_getf (pc := 49) C dX8_findAlpha_49 fl_RX8_40 (Ce.up (Ce.up hb.1 (by decide)) (by decide)) hb.2.2.2.2.2.2.2.2.2.1 ?_
          refine r_aload_n (pc := 52) C dX8_findAlpha_52 rfl ?_
          refine r_getf (pc := 53) C dX8_findAlpha_53 fl_RX8_109 (Ce.up (Ce.up hb.1 (by decide)) (by decide)) hb.2.2.1 ?_
          refine r_iconst (pc := 56) (v := nI 2) C dX8_findAlpha_56 (by decide +kernel) ?_
          refine r_iload_n (pc := 57) C dX8_findAlpha_57 rfl ?_
          refine r_imul (pc := 58) C dX8_findAlpha_58 ?_
          refine r_ti (nI (2 * t)) (pk_mul _ _) ?_
          refine r_iconst (pc := 59) (v := nI 1) C dX8_findAlpha_59 (by decide +kernel) ?_
          refine r_callV (pc := 60) C dX8_findAlpha_60 cv_RX8_175 (c_X8_timesP (Ce.up (Ce.up hb.1 (by decide)) (by decide)) hb.2.1 hN (Ce.up (Ce.new c293) (by decide)) (by decide) r (2 * t) (nI 1) (by omega) (by omega) (by decide)) ⟨rfl, rfl, by decide, by decide⟩ (Ce.up (Ce.up hb.1 (by decide)) (by decide)) rfl rfl (Nat.le_of_ble_eq_true rfl) ⟨Nat.zero_le _, Nat.zero_le _⟩ ?_
          rintro _ _ ⟨rfl, rfl⟩
          show G M S E (0, 0) (va_up (va_up (va_up h 293 (xJ S 24 (aZ0 N r (naZ N r h5 f t) h5 t t))) 292 (xJ S 24 (prv a2 (fun j => facZ N r (naZ N r h5 f t) t j) t))) 293 (xJ S 24 (aZ N r h5 (naZ N r h5 f t) t))) 63 [some (.ref (E.1 286)), some (.int (nI t)), some (.int (nI t))] []
          refine G.heap (show (va_up (va_up (va_up h 293 (xJ S 24 (aZ0 N r (naZ N r h5 f t) h5 t t))) 292 (xJ S 24 (prv a2 (fun j => facZ N r (naZ N r h5 f t) t j) t))) 293 (xJ S 24 (aZ N r h5 (naZ N r h5 f t) t))) = (va_up (va_up h 293 (xJ S 24 (aZ N r h5 (naZ N r h5 f t) t))) 292 (xJ S 24 (prv a2 (fun j => facZ N r (naZ N r h5 f t) t j) t))) from by funext q; simp only [va_up]; (repeat' split) <;> first | rfl | omega) ?_
          refine r_aload_n (pc := 63) C dX8_findAlpha_63 rfl ?_
          refine r_aload_n (pc := 64) C dX8_findAlpha_64 rfl ?_
          refine r_getf (pc := 65) C dX8_findAlpha_65 fl_RX8_43 (Ce.up (Ce.up hb.1 (by decide)) (by decide)) hb.2.2.2.2.2.2.2.2.2.2.1 ?_
          refine r_iload_n (pc := 68) C dX8_findAlpha_68 rfl ?_
          refine r_callV (pc := 69) C dX8_findAlpha_69 cv_RX8_182 (c_X8_keepsOther_294 ⟨fs, (Ce.up (Ce.up hb.1 (by decide)) (by decide)), hb.2⟩ hN hr (Ce.up (Ce.up c294 (by decide)) (by decide)) (Ce.up (Ce.new c293) (by decide)) t (by omega)) ⟨rfl, rfl, by decide, by decide⟩ (Ce.up (Ce.up hb.1 (by decide)) (by decide)) rfl rfl (Nat.le_of_ble_eq_true rfl) ⟨Nat.zero_le _, Nat.zero_le _⟩ ?_
          rintro _ _ ⟨_, rfl, rfl, rfl⟩
          show G M S E (0, 0) (va_up (va_up (va_up h 293 (xJ S 24 (aZ N r h5 (naZ N r h5 f t) t))) 292 (xJ S 24 (prv a2 (fun j => facZ N r (naZ N r h5 f t) t j) t))) 294 (xJ S 120 (stR (naZ N r h5 f t) t (aZ N r h5 (naZ N r h5 f t) t)))) 72 [some (.ref (E.1 286)), some (.int (nI t)), some (.int (nI t))] [.int (b2i (fitB 24 (aZ N r h5 (naZ N r h5 f t) t)))]
          refine r_if_ne (pc := 72) (tgt := 77) C dX8_findAlpha_72 (by decide) (fun h72 => ?_) (fun h72 => ?_)
          · have h72 := b_t h72
            refine r_iinc (pc := 77) (v := nI (t + 1)) C dX8_findAlpha_77 rfl (nI_i1 _) (by decide) ?_
            refine G.eq (pc' := 80) (vs' := [some (.ref (E.1 286)), some (.int (nI (t + 1))), some (.int (nI t))]) (st' := []) ?_
            refine r_goto (pc := 80) (tgt := 2) C dX8_findAlpha_80 (by decide) ?_
            refine G.wk (vs' := [some (.ref (E.1 286)), some (.int (nI (t + 1))), none]) ⟨rfl, rfl, trivial⟩ ?_
            exact (ih _ ⟨⟨fs, (Ce.up (Ce.up (Ce.up hb.1 (by decide)) (by decide)) (by decide)), hb.2⟩, (Ce.new (Ce.up (Ce.up c294 (by decide)) (by decide))), (Ce.up (Ce.up (Ce.up c295 (by decide)) (by decide)) (by decide)), ⟨_, (Ce.up (Ce.new (Ce.up c292 (by decide))) (by decide))⟩, ⟨_, (Ce.up (Ce.up (Ce.new c293) (by decide)) (by decide))⟩, (((hf.up (by omega) (by omega)).up (by omega) (by omega)).up (by omega) (by omega)), lt_s hh h72⟩)
          · have h72 := b_f h72
            refine r_iconst (pc := 75) (v := nI 0) C dX8_findAlpha_75 (by decide +kernel) ?_
            exact r_iret (pc := 76) C Z dX8_findAlpha_76 rfl (⟨by rw [show allB (fun i => fitB 24 (aZ N r h5 (naZ N r h5 f i) i)) 5 = false from allB_f ht h72]; rfl, ⟨_, (Ce.new (Ce.up (Ce.up c294 (by decide)) (by decide))), fun q => absurd (q.symm.trans (allB_f ht h72)) (by decide)⟩, (Ce.up (Ce.up (Ce.up c295 (by decide)) (by decide)) (by decide)), ⟨_, (Ce.up (Ce.new (Ce.up c292 (by decide))) (by decide))⟩, ⟨_, (Ce.up (Ce.up (Ce.new c293) (by decide)) (by decide))⟩, (((hf.up (by omega) (by omega)).up (by omega) (by omega)).up (by omega) (by omega))⟩)
        · have h27 := c_nle (by omega) (by omega) h27
          omega
      · show G M S E (0, 0) (va_up (va_up h 293 (xJ S 24 (aZ0 N r (naZ N r h5 f t) h5 t t2))) 292 (xJ S 24 (prv a2 (fun j => facZ N r (naZ N r h5 f t) t j) t2))) 25 [some (.ref (E.1 286)), some (.int (nI t)), some (.int (nI t2))] []
        refine r_iload_n (pc := 25) C dX8_findAlpha_25 rfl ?_
        refine r_iload_n (pc := 26) C dX8_findAlpha_26 rfl ?_
        refine r_icmp_ge (pc := 27) (tgt := 47) C dX8_findAlpha_27 (by decide) (fun h27 => ?_) (fun h27 => ?_)
        · have h27 := c_le (by omega) (by omega) h27
          omega
        · have h27 := c_nle (by omega) (by omega) h27
          refine r_aload_n (pc := 30) C dX8_findAlpha_30 rfl ?_
          refine r_aload_n (pc := 31) C dX8_findAlpha_31 rfl ?_
          refine r_getf (pc := 32) C dX8_findAlpha_32 fl_RX8_43 (Ce.up (Ce.up hb.1 (by decide)) (by decide)) hb.2.2.2.2.2.2.2.2.2.2.1 ?_
          refine r_iload_n (pc := 35) C dX8_findAlpha_35 rfl ?_
          refine r_iload_n (pc := 36) C dX8_findAlpha_36 rfl ?_
          refine r_iconst (pc := 37) (v := (-1)) C dX8_findAlpha_37 (by decide +kernel) ?_
          refine r_callV (pc := 38) C dX8_findAlpha_38 cv_RX8_179 (c_X8_addTerm ⟨fs, (Ce.up (Ce.up hb.1 (by decide)) (by decide)), hb.2⟩ hN hr (Ce.up (Ce.up c294 (by decide)) (by decide)) (Ce.new (Ce.up c292 (by decide))) (Ce.up (Ce.new c293) (by decide)) t t2 (-1) (by omega) (by omega)) ⟨rfl, rfl, by decide, by decide⟩ (Ce.up (Ce.up hb.1 (by decide)) (by decide)) rfl rfl (Nat.le_of_ble_eq_true rfl) ⟨Nat.zero_le _, Nat.zero_le _⟩ ?_
          rintro _ _ ⟨rfl, rfl⟩
          show G M S E (0, 0) (va_up (va_up (va_up (va_up h 293 (xJ S 24 (aZ0 N r (naZ N r h5 f t) h5 t t2))) 292 (xJ S 24 (prv a2 (fun j => facZ N r (naZ N r h5 f t) t j) t2))) 292 (xJ S 24 (facZ N r (naZ N r h5 f t) t t2))) 293 (xJ S 24 (plW N (facZ N r (naZ N r h5 f t) t t2) (-1) (aZ0 N r (naZ N r h5 f t) h5 t t2)))) 41 [some (.ref (E.1 286)), some (.int (nI t)), some (.int (nI t2))] []
          refine G.heap (show (va_up (va_up (va_up (va_up h 293 (xJ S 24 (aZ0 N r (naZ N r h5 f t) h5 t t2))) 292 (xJ S 24 (prv a2 (fun j => facZ N r (naZ N r h5 f t) t j) t2))) 292 (xJ S 24 (facZ N r (naZ N r h5 f t) t t2))) 293 (xJ S 24 (plW N (facZ N r (naZ N r h5 f t) t t2) (-1) (aZ0 N r (naZ N r h5 f t) h5 t t2)))) = (va_up (va_up h 293 (xJ S 24 (plW N (facZ N r (naZ N r h5 f t) t t2) (-1) (aZ0 N r (naZ N r h5 f t) h5 t t2)))) 292 (xJ S 24 (facZ N r (naZ N r h5 f t) t t2))) from by funext q; simp only [va_up]; (repeat' split) <;> first | rfl | omega) ?_
          refine r_iinc (pc := 41) (v := nI (t2 + 1)) C dX8_findAlpha_41 rfl (nI_i1 _) (by decide) ?_
          refine G.eq (pc' := 44) (vs' := [some (.ref (E.1 286)), some (.int (nI t)), some (.int (nI (t2 + 1)))]) (st' := []) ?_
          refine r_goto (pc := 44) (tgt := 25) C dX8_findAlpha_44 (by decide) ?_
          exact ih
