def Sv (z y : MZ) : Prop := z.1 = y.1 ∧ z.2.1 = y.2.1 ∧ z.2.2.1 = y.2.2.1 ∧ z.2.2.2.1 = y.2.2.2.1 ∧ z.2.2.2.2.1 = y.2.2.2.2.1 ∧ z.2.2.2.2.2.1 = y.2.2.2.2.2.1 ∧ z.2.2.2.2.2.2.2.1 = y.2.2.2.2.2.2.2.1 ∧ z.2.2.2.2.2.2.2.2.2.1 = y.2.2.2.2.2.2.2.2.2.1 ∧ z.2.2.2.2.2.2.2.2.2.2.2.1 = y.2.2.2.2.2.2.2.2.2.2.2.1 ∧ z.2.2.2.2.2.2.2.2.2.2.2.2.1 = y.2.2.2.2.2.2.2.2.2.2.2.2.1 ∧ z.2.2.2.2.2.2.2.2.2.2.2.2.2.1 = y.2.2.2.2.2.2.2.2.2.2.2.2.2.1 ∧ z.2.2.2.2.2.2.2.2.2.2.2.2.2.2.1 = y.2.2.2.2.2.2.2.2.2.2.2.2.2.2.1 ∧ z.2.2.2.2.2.2.2.2.2.2.2.2.2.2.2.2.2.2.2.2.2.1 = y.2.2.2.2.2.2.2.2.2.2.2.2.2.2.2.2.2.2.2.2.2.1 ∧ z.2.2.2.2.2.2.2.2.2.2.2.2.2.2.2.2.2.2.2.2.2.2.2.1 = y.2.2.2.2.2.2.2.2.2.2.2.2.2.2.2.2.2.2.2.2.2.2.2.1 ∧ z.2.2.2.2.2.2.2.2.2.2.2.2.2.2.2.2.2.2.2.2.2.2.2.2.1 = y.2.2.2.2.2.2.2.2.2.2.2.2.2.2.2.2.2.2.2.2.2.2.2.2.1 ∧ z.2.2.2.2.2.2.2.2.2.2.2.2.2.2.2.2.2.2.2.2.2.2.2.2.2.1 = y.2.2.2.2.2.2.2.2.2.2.2.2.2.2.2.2.2.2.2.2.2.2.2.2.2.1 ∧ z.2.2.2.2.2.2.2.2.2.2.2.2.2.2.2.2.2.2.2.2.2.2.2.2.2.2.1 = y.2.2.2.2.2.2.2.2.2.2.2.2.2.2.2.2.2.2.2.2.2.2.2.2.2.2.1 ∧ z.2.2.2.2.2.2.2.2.2.2.2.2.2.2.2.2.2.2.2.2.2.2.2.2.2.2.2.1 = y.2.2.2.2.2.2.2.2.2.2.2.2.2.2.2.2.2.2.2.2.2.2.2.2.2.2.2.1 ∧ z.2.2.2.2.2.2.2.2.2.2.2.2.2.2.2.2.2.2.2.2.2.2.2.2.2.2.2.2.1 = y.2.2.2.2.2.2.2.2.2.2.2.2.2.2.2.2.2.2.2.2.2.2.2.2.2.2.2.2.1 ∧ z.2.2.2.2.2.2.2.2.2.2.2.2.2.2.2.2.2.2.2.2.2.2.2.2.2.2.2.2.2.1 = y.2.2.2.2.2.2.2.2.2.2.2.2.2.2.2.2.2.2.2.2.2.2.2.2.2.2.2.2.2.1 ∧ z.2.2.2.2.2.2.2.2.2.2.2.2.2.2.2.2.2.2.2.2.2.2.2.2.2.2.2.2.2.2.2 = y.2.2.2.2.2.2.2.2.2.2.2.2.2.2.2.2.2.2.2.2.2.2.2.2.2.2.2.2.2.2.2
theorem Sv.rf {z : MZ} : Sv z z := ⟨rfl, rfl, rfl, rfl, rfl, rfl, rfl, rfl, rfl, rfl, rfl, rfl, rfl, rfl, rfl, rfl, rfl, rfl, rfl, rfl, rfl⟩
theorem diR_s (fr c : Nat → Int64) (a b k t : Nat) : diR fr c a b k (t + 1) = diR fr c a b k t - c t * fr (24 * b + k - t) := by
  unfold diR
  rw [it_succ]
theorem diZ_s (fr : Nat → Int64) (a b t : Nat) : diZ fr a b (t + 1) = vp_updL (diZ fr a b t) t (fr (24 * b) * diR fr (diZ fr a b t) a b t t) := by
  unfold diZ
  rw [it_succ]
def sbZ (fr : Nat → Int64) (a k t : Nat) : Nat → Int64 := it (fun j c => vp_updL c (k * j) (fr (24 * a + j))) t (fun _ => 0)
theorem sbZ_s (fr : Nat → Int64) (a k t : Nat) : sbZ fr a k (t + 1) = vp_updL (sbZ fr a k t) (k * t) (fr (24 * a + t)) := by
  unfold sbZ
  rw [it_succ]
def sbT (n k : Nat) : Nat := (n + k - 1) / k
theorem sb_lt {n k t : Nat} (hk : 1 ≤ k) (ht : t < sbT n k) : k * t < n ∧ t ≤ k * t := by
  unfold sbT at ht
  have h1 := (Nat.lt_div_iff_mul_lt (by omega)).mp ht
  rw [Nat.mul_comm] at h1
  have h2 : 1 * t ≤ k * t := Nat.mul_le_mul_right t hk
  omega
theorem sb_ge {n k : Nat} (hk : 1 ≤ k) : n ≤ k * sbT n k ∧ k * sbT n k ≤ n + k - 1 := by
  unfold sbT
  have h1 := Nat.div_add_mod (n + k - 1) k
  have h2 := Nat.mod_lt (n + k - 1) (show k > 0 by omega)
  omega
def qSub (z : MZ) (x y p : Int32) : Int32 × MZ := bif hix 6 x then (bif hix 6 y then (bif btw p.toInt64 1 6 then sto z (sbZ z.2.2.2.2.2.2.2.2.2.2.2.1 (iN y) (iN p) (sbT z.1 (iN p))) (iN x) else (-1, z)) else (-2, z)) else (-2, z)
set_option maxHeartbeats 4000000 in
set_option maxRecDepth 100000 in
theorem c_X8_divide {S : ST} {E : ET} {g : Nat → va_E} {z : MZ} (hM : MC S E g z) (h4 : 4 ≤ z.1) (hN : z.1 ≤ 24) (x y p : Int32) : CtI S E yX8_divide cX8_divide 10 (Option.some FieldType.int) rmX8_divide [.ref (E.1 286), .int x, .int y, .int p] g (fun u g' => u = (qDiv z x y p).1 ∧ (∃ z', MC S E g' z' ∧ Sv z' (qDiv z x y p).2) ∧ Fr g g' 286 308) := by
  refine Ct.of RX8 (by decide +kernel) rfl (Nat.le_of_ble_eq_true rfl) (fun M C Z => ?_)
  refine G.eq (pc' := 0) (vs' := [some (.ref (E.1 286)), some (.int x), some (.int y), some (.int p), none, none, none, none, none, none]) (st' := []) ?_
  refine r_iload_n (pc := 0) C dX8_divide_0 rfl ?_
  refine r_callS (pc := 1) C dX8_divide_1 cs_RX8_112 (c_X8_isRegister x) ⟨rfl, rfl, by decide, by decide⟩ rfl rfl (Nat.le_of_ble_eq_true rfl) ⟨Nat.zero_le _, Nat.zero_le _⟩ ?_
  rintro _ _ ⟨_, rfl, rfl, rfl⟩
  show G M S E (0, 0) g 4 [some (.ref (E.1 286)), some (.int x), some (.int y), some (.int p), none, none, none, none, none, none] [.int (b2i (hix 6 x))]
  refine r_if_eq (pc := 4) (tgt := 21) C dX8_divide_4 (by decide) (fun h4 => ?_) (fun h4 => ?_)
  · have h4 := b_f h4
    refine r_bipush (pc := 21) (v := (-2)) C dX8_divide_21 (by decide +kernel) ?_
    exact r_iret (pc := 23) C Z dX8_divide_23 rfl (by rw [show qDiv z x y p = (-2, z) by simp only [qDiv, h4, cond_true, cond_false, if_true, if_false, not_true_eq_false, not_false_eq_true, ↓reduceIte]]; exact ⟨rfl, ⟨z, hM, Sv.rf⟩, Fr.rf⟩)
  · have h4 := b_t h4
    refine r_iload_n (pc := 7) C dX8_divide_7 rfl ?_
    refine r_callS (pc := 8) C dX8_divide_8 cs_RX8_112 (c_X8_isRegister y) ⟨rfl, rfl, by decide, by decide⟩ rfl rfl (Nat.le_of_ble_eq_true rfl) ⟨Nat.zero_le _, Nat.zero_le _⟩ ?_
    rintro _ _ ⟨_, rfl, rfl, rfl⟩
    show G M S E (0, 0) g 11 [some (.ref (E.1 286)), some (.int x), some (.int y), some (.int p), none, none, none, none, none, none] [.int (b2i (hix 6 y))]
    refine r_if_eq (pc := 11) (tgt := 21) C dX8_divide_11 (by decide) (fun h11 => ?_) (fun h11 => ?_)
    · have h11 := b_f h11
      refine r_bipush (pc := 21) (v := (-2)) C dX8_divide_21 (by decide +kernel) ?_
      exact r_iret (pc := 23) C Z dX8_divide_23 rfl (by rw [show qDiv z x y p = (-2, z) by simp only [qDiv, h4, h11, cond_true, cond_false, if_true, if_false, not_true_eq_false, not_false_eq_true, ↓reduceIte]]; exact ⟨rfl, ⟨z, hM, Sv.rf⟩, Fr.rf⟩)
    · have h11 := b_t h11
      refine r_iload_n (pc := 14) C dX8_divide_14 rfl ?_
      refine r_callS (pc := 15) C dX8_divide_15 cs_RX8_112 (c_X8_isRegister p) ⟨rfl, rfl, by decide, by decide⟩ rfl rfl (Nat.le_of_ble_eq_true rfl) ⟨Nat.zero_le _, Nat.zero_le _⟩ ?_
      rintro _ _ ⟨_, rfl, rfl, rfl⟩
      show G M S E (0, 0) g 18 [some (.ref (E.1 286)), some (.int x), some (.int y), some (.int p), none, none, none, none, none, none] [.int (b2i (hix 6 p))]
      refine r_if_ne (pc := 18) (tgt := 24) C dX8_divide_18 (by decide) (fun h18 => ?_) (fun h18 => ?_)
      · have h18 := b_t h18
        obtain ⟨t, rfl, ht⟩ := hix_nat h4 (by omega)
        have ht0 := ht
        obtain ⟨a, rfl, ha⟩ := hix_nat h11 (by omega)
        obtain ⟨b, rfl, hb⟩ := hix_nat h18 (by omega)
        refine r_aload_n (pc := 24) C dX8_divide_24 rfl ?_
        refine r_getf (pc := 25) C dX8_divide_25 fl_RX8_21 hM.1 rfl ?_
        refine r_bipush (pc := 28) (v := nI 24) C dX8_divide_28 (by decide +kernel) ?_
        refine r_iload_n (pc := 30) C dX8_divide_30 rfl ?_
        refine r_imul (pc := 31) C dX8_divide_31 ?_
        refine r_ti (nI (24 * b)) (pk_mul _ _) ?_
        refine r_lald (pc := 32) C dX8_divide_32 hM.2.1 rfl (by omega) (by omega) ?_
        refine r_lstore (pc := 33) C dX8_divide_33 (by decide) ?_
        refine G.eq (pc' := 35) (vs' := [some (.ref (E.1 286)), some (.int (nI t)), some (.int (nI a)), some (.int (nI b)), some (.long (z.2.2.2.2.2.2.2.2.2.2.2.1 (24 * b))), none, none, none, none, none]) (st' := []) ?_
        refine r_lload (pc := 35) C dX8_divide_35 rfl ?_
        refine r_lconst (pc := 37) (v := 1) C dX8_divide_37 rfl ?_
        refine r_lcmp (pc := 38) C dX8_divide_38 ?_
        have k54 : (he : qDiv z (nI t) (nI a) (nI b) = qDiv1 z (nI t) (nI a) (nI b)) → G M S E (0, 0) g 54 [some (.ref (E.1 286)), some (.int (nI t)), some (.int (nI a)), some (.int (nI b)), some (.long (z.2.2.2.2.2.2.2.2.2.2.2.1 (24 * b))), none, none, none, none, none] [] := by
          intro he
          refine r_aload_n (pc := 54) C dX8_divide_54 rfl ?_
          refine r_aload_n (pc := 55) C dX8_divide_55 rfl ?_
          refine r_getf (pc := 56) C dX8_divide_56 fl_RX8_34 hM.1 rfl ?_
          refine r_callV (pc := 59) C dX8_divide_59 cv_RX8_136 (c_X8_makeZero (iq := 286) hM.2.2.2.2.2.1 (by decide)) ⟨rfl, rfl, by decide, by decide⟩ hM.1 rfl rfl (Nat.le_of_ble_eq_true rfl) ⟨Nat.zero_le _, Nat.zero_le _⟩ ?_
          rintro _ _ ⟨rfl, rfl⟩
          show G M S E (0, 0) (va_up g 291 (xJ S 24 (fun _ => 0))) 62 [some (.ref (E.1 286)), some (.int (nI t)), some (.int (nI a)), some (.int (nI b)), some (.long (z.2.2.2.2.2.2.2.2.2.2.2.1 (24 * b))), none, none, none, none, none] []
          refine r_iconst (pc := 62) (v := nI 0) C dX8_divide_62 (by decide +kernel) ?_
          refine r_istore (pc := 63) C dX8_divide_63 (by decide) ?_
          refine G.eq (pc' := 65) (vs' := [some (.ref (E.1 286)), some (.int (nI t)), some (.int (nI a)), some (.int (nI b)), some (.long (z.2.2.2.2.2.2.2.2.2.2.2.1 (24 * b))), none, some (.int (nI 0)), none, none, none]) (st' := []) ?_
          refine bk (P := fun t2 => (∀ j : Nat, j < t2 → (fun k => inR (diZ z.2.2.2.2.2.2.2.2.2.2.2.1 a b (k + 1) k)) j = true) → G M S E (0, 0) (va_up g 291 (xJ S 24 (diZ z.2.2.2.2.2.2.2.2.2.2.2.1 a b t2))) 65 [some (.ref (E.1 286)), some (.int (nI t)), some (.int (nI a)), some (.int (nI b)), some (.long (z.2.2.2.2.2.2.2.2.2.2.2.1 (24 * b))), none, some (.int (nI t2)), none, none, none] []) (T := z.1) (fun hh => ?_) (fun t2 ht ih hh => ?_) (fun j hj => absurd hj (Nat.not_lt_zero j))
          · show G M S E (0, 0) (va_up g 291 (xJ S 24 (diZ z.2.2.2.2.2.2.2.2.2.2.2.1 a b z.1))) 65 [some (.ref (E.1 286)), some (.int (nI t)), some (.int (nI a)), some (.int (nI b)), some (.long (z.2.2.2.2.2.2.2.2.2.2.2.1 (24 * b))), none, some (.int (nI z.1)), none, none, none] []
            refine r_iload (pc := 65) C dX8_divide_65 rfl ?_
            refine r_aload_n (pc := 67) C dX8_divide_67 rfl ?_
            refine r_getf (pc := 68) C dX8_divide_68 fl_RX8_17 (Ce.up hM.1 (by decide)) rfl ?_
            refine r_icmp_ge (pc := 71) (tgt := 172) C dX8_divide_71 (by decide) (fun h71 => ?_) (fun h71 => ?_)
            · have h71 := c_le (by omega) (by omega) h71
              refine r_aload_n (pc := 172) C dX8_divide_172 rfl ?_
              refine r_iload_n (pc := 173) C dX8_divide_173 rfl ?_
              have hM1 : MC S E (va_up g 291 (xJ S 24 (diZ z.2.2.2.2.2.2.2.2.2.2.2.1 a b z.1))) (s_f1 z (diZ z.2.2.2.2.2.2.2.2.2.2.2.1 a b z.1)) := ⟨(Ce.up hM.1 (by decide)), (Ce.up hM.2.1 (by decide)), (Ce.up hM.2.2.1 (by decide)), (Ce.up hM.2.2.2.1 (by decide)), (Ce.up hM.2.2.2.2.1 (by decide)), (Ce.new hM.2.2.2.2.2.1), (Ce.up hM.2.2.2.2.2.2.1 (by decide)), (Ce.up hM.2.2.2.2.2.2.2.1 (by decide)), (Ce.up hM.2.2.2.2.2.2.2.2.1 (by decide)), (Ce.up hM.2.2.2.2.2.2.2.2.2.1 (by decide)), (Ce.up hM.2.2.2.2.2.2.2.2.2.2.1 (by decide)), (Ce.up hM.2.2.2.2.2.2.2.2.2.2.2.1 (by decide)), (Ce.up hM.2.2.2.2.2.2.2.2.2.2.2.2.1 (by decide)), (Ce.up hM.2.2.2.2.2.2.2.2.2.2.2.2.2.1 (by decide)), (Ce.up hM.2.2.2.2.2.2.2.2.2.2.2.2.2.2.1 (by decide)), (Ce.up hM.2.2.2.2.2.2.2.2.2.2.2.2.2.2.2.1 (by decide)), (Ce.up hM.2.2.2.2.2.2.2.2.2.2.2.2.2.2.2.2.1 (by decide)), (Ce.up hM.2.2.2.2.2.2.2.2.2.2.2.2.2.2.2.2.2.1 (by decide)), (Ce.up hM.2.2.2.2.2.2.2.2.2.2.2.2.2.2.2.2.2.2.1 (by decide)), (Ce.up hM.2.2.2.2.2.2.2.2.2.2.2.2.2.2.2.2.2.2.2.1 (by decide)), (Ce.up hM.2.2.2.2.2.2.2.2.2.2.2.2.2.2.2.2.2.2.2.2.1 (by decide)), (Ce.up hM.2.2.2.2.2.2.2.2.2.2.2.2.2.2.2.2.2.2.2.2.2 (by decide))⟩
              have hf1 : Fr g (va_up g 291 (xJ S 24 (diZ z.2.2.2.2.2.2.2.2.2.2.2.1 a b z.1))) 286 308 := (Fr.rf.up (by omega) (by omega))
              refine r_callV (pc := 174) C dX8_divide_174 cv_RX8_133 (c_X8_store hM1 hN t ht0) ⟨rfl, rfl, by decide, by decide⟩ (Ce.up hM.1 (by decide)) rfl rfl (Nat.le_of_ble_eq_true rfl) ⟨Nat.zero_le _, Nat.zero_le _⟩ ?_
              rintro _ g2 ⟨_, rfl, rfl, hM2, hF2⟩
              show G M S E (0, 0) g2 177 [some (.ref (E.1 286)), some (.int (nI t)), some (.int (nI a)), some (.int (nI b)), some (.long (z.2.2.2.2.2.2.2.2.2.2.2.1 (24 * b))), none, some (.int (nI z.1)), none, none, none] [.int (stV (s_f1 z (diZ z.2.2.2.2.2.2.2.2.2.2.2.1 a b z.1)))]
              exact r_iret (pc := 177) C Z dX8_divide_177 rfl (by rw [he, show qDiv1 z (nI t) (nI a) (nI b) = sto z (diZ z.2.2.2.2.2.2.2.2.2.2.2.1 a b z.1) t by simp only [qDiv1, iN_nI (show t < 2 ^ 31 by omega), iN_nI (show a < 2 ^ 31 by omega), iN_nI (show b < 2 ^ 31 by omega), show diB z.2.2.2.2.2.2.2.2.2.2.2.1 a b z.1 = true from allB_t hh, cond_true]]; exact ⟨rfl, ⟨_, hM2, Sv.rf⟩, hf1.tr hF2 (by omega) (by omega)⟩)
            · have h71 := c_nle (by omega) (by omega) h71
              omega
          · show G M S E (0, 0) (va_up g 291 (xJ S 24 (diZ z.2.2.2.2.2.2.2.2.2.2.2.1 a b t2))) 65 [some (.ref (E.1 286)), some (.int (nI t)), some (.int (nI a)), some (.int (nI b)), some (.long (z.2.2.2.2.2.2.2.2.2.2.2.1 (24 * b))), none, some (.int (nI t2)), none, none, none] []
            refine r_iload (pc := 65) C dX8_divide_65 rfl ?_
            refine r_aload_n (pc := 67) C dX8_divide_67 rfl ?_
            refine r_getf (pc := 68) C dX8_divide_68 fl_RX8_17 (Ce.up hM.1 (by decide)) rfl ?_
            refine r_icmp_ge (pc := 71) (tgt := 172) C dX8_divide_71 (by decide) (fun h71 => ?_) (fun h71 => ?_)
            · have h71 := c_le (by omega) (by omega) h71
              omega
            · have h71 := c_nle (by omega) (by omega) h71
              refine r_aload_n (pc := 74) C dX8_divide_74 rfl ?_
              refine r_getf (pc := 75) C dX8_divide_75 fl_RX8_21 (Ce.up hM.1 (by decide)) rfl ?_
              refine r_bipush (pc := 78) (v := nI 24) C dX8_divide_78 (by decide +kernel) ?_
              refine r_iload_n (pc := 80) C dX8_divide_80 rfl ?_
              refine r_imul (pc := 81) C dX8_divide_81 ?_
              refine r_ti (nI (24 * a)) (pk_mul _ _) ?_
              refine r_iload (pc := 82) C dX8_divide_82 rfl ?_
              refine r_iadd (pc := 84) C dX8_divide_84 ?_
              refine r_ti (nI (24 * a + t2)) (nI_add _ _) ?_
              refine r_lald (pc := 85) C dX8_divide_85 (Ce.up hM.2.1 (by decide)) rfl (by omega) (by omega) ?_
              refine r_lstore (pc := 86) C dX8_divide_86 (by decide) ?_
              refine G.eq (pc' := 88) (vs' := [some (.ref (E.1 286)), some (.int (nI t)), some (.int (nI a)), some (.int (nI b)), some (.long (z.2.2.2.2.2.2.2.2.2.2.2.1 (24 * b))), none, some (.int (nI t2)), some (.long (z.2.2.2.2.2.2.2.2.2.2.2.1 (24 * a + t2))), none, none]) (st' := []) ?_
              refine r_iconst (pc := 88) (v := nI 0) C dX8_divide_88 (by decide +kernel) ?_
              refine r_istore (pc := 89) C dX8_divide_89 (by decide) ?_
              refine G.eq (pc' := 91) (vs' := [some (.ref (E.1 286)), some (.int (nI t)), some (.int (nI a)), some (.int (nI b)), some (.long (z.2.2.2.2.2.2.2.2.2.2.2.1 (24 * b))), none, some (.int (nI t2)), some (.long (z.2.2.2.2.2.2.2.2.2.2.2.1 (24 * a + t2))), none, some (.int (nI 0))]) (st' := []) ?_
              have ht2 := ht
              have ih2 := ih
              refine bk (P := fun t3 => G M S E (0, 0) (va_up g 291 (xJ S 24 (diZ z.2.2.2.2.2.2.2.2.2.2.2.1 a b t2))) 91 [some (.ref (E.1 286)), some (.int (nI t)), some (.int (nI a)), some (.int (nI b)), some (.long (z.2.2.2.2.2.2.2.2.2.2.2.1 (24 * b))), none, some (.int (nI t2)), some (.long (diR z.2.2.2.2.2.2.2.2.2.2.2.1 (diZ z.2.2.2.2.2.2.2.2.2.2.2.1 a b t2) a b t2 t3)), none, some (.int (nI t3))] []) (T := t2) ?_ (fun t3 ht ih => ?_)
              · show G M S E (0, 0) (va_up g 291 (xJ S 24 (diZ z.2.2.2.2.2.2.2.2.2.2.2.1 a b t2))) 91 [some (.ref (E.1 286)), some (.int (nI t)), some (.int (nI a)), some (.int (nI b)), some (.long (z.2.2.2.2.2.2.2.2.2.2.2.1 (24 * b))), none, some (.int (nI t2)), some (.long (diR z.2.2.2.2.2.2.2.2.2.2.2.1 (diZ z.2.2.2.2.2.2.2.2.2.2.2.1 a b t2) a b t2 t2)), none, some (.int (nI t2))] []
                refine r_iload (pc := 91) C dX8_divide_91 rfl ?_
                refine r_iload (pc := 93) C dX8_divide_93 rfl ?_
                refine r_icmp_ge (pc := 95) (tgt := 132) C dX8_divide_95 (by decide) (fun h95 => ?_) (fun h95 => ?_)
                · have h95 := c_le (by omega) (by omega) h95
                  refine r_aload_n (pc := 132) C dX8_divide_132 rfl ?_
                  refine r_getf (pc := 133) C dX8_divide_133 fl_RX8_34 (Ce.up hM.1 (by decide)) rfl ?_
                  refine r_iload (pc := 136) C dX8_divide_136 rfl ?_
                  refine r_lload (pc := 138) C dX8_divide_138 rfl ?_
                  refine r_lload (pc := 140) C dX8_divide_140 rfl ?_
                  refine r_lmul (pc := 142) C dX8_divide_142 ?_
                  refine r_last2 (pc := 143) C dX8_divide_143 hM.2.2.2.2.2.1.1 rfl (by omega) (by omega) ?_
                  refine G.cJ (f' := diZ z.2.2.2.2.2.2.2.2.2.2.2.1 a b (t2 + 1)) (fun j _ => by rw [diZ_s]) ?_
                  refine r_aload_n (pc := 144) C dX8_divide_144 rfl ?_
                  refine r_getf (pc := 145) C dX8_divide_145 fl_RX8_34 (Ce.up hM.1 (by decide)) rfl ?_
                  refine r_iload (pc := 148) C dX8_divide_148 rfl ?_
                  refine r_lald (pc := 150) C dX8_divide_150 (Ce.new hM.2.2.2.2.2.1) rfl (by omega) (by omega) ?_
                  refine r_ldc2 (pc := 151) C dX8_divide_151 qK_RX8_93 ?_
                  refine r_ldc2 (pc := 154) C dX8_divide_154 qK_RX8_95 ?_
                  refine r_callS (pc := 157) C dX8_divide_157 cs_RX8_7 (c_X8_isBetween (diZ z.2.2.2.2.2.2.2.2.2.2.2.1 a b (t2 + 1) t2) (-100000000) 100000000) ⟨rfl, rfl, by decide, by decide⟩ rfl rfl (Nat.le_of_ble_eq_true rfl) ⟨Nat.zero_le _, Nat.zero_le _⟩ ?_
                  rintro _ _ ⟨_, rfl, rfl, rfl⟩
                  show G M S E (0, 0) (va_up g 291 (xJ S 24 (diZ z.2.2.2.2.2.2.2.2.2.2.2.1 a b (t2 + 1)))) 160 [some (.ref (E.1 286)), some (.int (nI t)), some (.int (nI a)), some (.int (nI b)), some (.long (z.2.2.2.2.2.2.2.2.2.2.2.1 (24 * b))), none, some (.int (nI t2)), some (.long (diR z.2.2.2.2.2.2.2.2.2.2.2.1 (diZ z.2.2.2.2.2.2.2.2.2.2.2.1 a b t2) a b t2 t2)), none, some (.int (nI t2))] [.int (b2i (inR (diZ z.2.2.2.2.2.2.2.2.2.2.2.1 a b (t2 + 1) t2)))]
                  refine r_if_ne (pc := 160) (tgt := 166) C dX8_divide_160 (by decide) (fun h160 => ?_) (fun h160 => ?_)
                  · have h160 := b_t h160
                    refine r_iinc (pc := 166) (v := nI (t2 + 1)) C dX8_divide_166 rfl (nI_i1 _) (by decide) ?_
                    refine G.eq (pc' := 169) (vs' := [some (.ref (E.1 286)), some (.int (nI t)), some (.int (nI a)), some (.int (nI b)), some (.long (z.2.2.2.2.2.2.2.2.2.2.2.1 (24 * b))), none, some (.int (nI (t2 + 1))), some (.long (diR z.2.2.2.2.2.2.2.2.2.2.2.1 (diZ z.2.2.2.2.2.2.2.2.2.2.2.1 a b t2) a b t2 t2)), none, some (.int (nI t2))]) (st' := []) ?_
                    refine r_goto (pc := 169) (tgt := 65) C dX8_divide_169 (by decide) ?_
                    refine G.wk (vs' := [some (.ref (E.1 286)), some (.int (nI t)), some (.int (nI a)), some (.int (nI b)), some (.long (z.2.2.2.2.2.2.2.2.2.2.2.1 (24 * b))), none, some (.int (nI (t2 + 1))), none, none, none]) ⟨rfl, rfl, rfl, rfl, rfl, rfl, trivial⟩ ?_
                    exact (ih2 (lt_s hh h160))
                  · have h160 := b_f h160
                    refine r_bipush (pc := 163) (v := (-3)) C dX8_divide_163 (by decide +kernel) ?_
                    exact r_iret (pc := 165) C Z dX8_divide_165 rfl (by rw [he, show qDiv1 z (nI t) (nI a) (nI b) = (-3, z) by simp only [qDiv1, iN_nI (show t < 2 ^ 31 by omega), iN_nI (show a < 2 ^ 31 by omega), iN_nI (show b < 2 ^ 31 by omega), show diB z.2.2.2.2.2.2.2.2.2.2.2.1 a b z.1 = false from allB_f (p := (fun k => inR (diZ z.2.2.2.2.2.2.2.2.2.2.2.1 a b (k + 1) k))) ht2 h160, cond_false]]; exact ⟨rfl, ⟨s_f1 z (diZ z.2.2.2.2.2.2.2.2.2.2.2.1 a b (t2 + 1)), ⟨(Ce.up hM.1 (by decide)), (Ce.up hM.2.1 (by decide)), (Ce.up hM.2.2.1 (by decide)), (Ce.up hM.2.2.2.1 (by decide)), (Ce.up hM.2.2.2.2.1 (by decide)), (Ce.new hM.2.2.2.2.2.1), (Ce.up hM.2.2.2.2.2.2.1 (by decide)), (Ce.up hM.2.2.2.2.2.2.2.1 (by decide)), (Ce.up hM.2.2.2.2.2.2.2.2.1 (by decide)), (Ce.up hM.2.2.2.2.2.2.2.2.2.1 (by decide)), (Ce.up hM.2.2.2.2.2.2.2.2.2.2.1 (by decide)), (Ce.up hM.2.2.2.2.2.2.2.2.2.2.2.1 (by decide)), (Ce.up hM.2.2.2.2.2.2.2.2.2.2.2.2.1 (by decide)), (Ce.up hM.2.2.2.2.2.2.2.2.2.2.2.2.2.1 (by decide)), (Ce.up hM.2.2.2.2.2.2.2.2.2.2.2.2.2.2.1 (by decide)), (Ce.up hM.2.2.2.2.2.2.2.2.2.2.2.2.2.2.2.1 (by decide)), (Ce.up hM.2.2.2.2.2.2.2.2.2.2.2.2.2.2.2.2.1 (by decide)), (Ce.up hM.2.2.2.2.2.2.2.2.2.2.2.2.2.2.2.2.2.1 (by decide)), (Ce.up hM.2.2.2.2.2.2.2.2.2.2.2.2.2.2.2.2.2.2.1 (by decide)), (Ce.up hM.2.2.2.2.2.2.2.2.2.2.2.2.2.2.2.2.2.2.2.1 (by decide)), (Ce.up hM.2.2.2.2.2.2.2.2.2.2.2.2.2.2.2.2.2.2.2.2.1 (by decide)), (Ce.up hM.2.2.2.2.2.2.2.2.2.2.2.2.2.2.2.2.2.2.2.2.2 (by decide))⟩, ⟨rfl, rfl, rfl, rfl, rfl, rfl, rfl, rfl, rfl, rfl, rfl, rfl, rfl, rfl, rfl, rfl, rfl, rfl, rfl, rfl, rfl⟩⟩, (Fr.rf.up (by omega) (by omega))⟩)
                · have h95 := c_nle (by omega) (by omega) h95
                  omega
              · show G M S E (0, 0) (va_up g 291 (xJ S 24 (diZ z.2.2.2.2.2.2.2.2.2.2.2.1 a b t2))) 91 [some (.ref (E.1 286)), some (.int (nI t)), some (.int (nI a)), some (.int (nI b)), some (.long (z.2.2.2.2.2.2.2.2.2.2.2.1 (24 * b))), none, some (.int (nI t2)), some (.long (diR z.2.2.2.2.2.2.2.2.2.2.2.1 (diZ z.2.2.2.2.2.2.2.2.2.2.2.1 a b t2) a b t2 t3)), none, some (.int (nI t3))] []
                refine r_iload (pc := 91) C dX8_divide_91 rfl ?_
                refine r_iload (pc := 93) C dX8_divide_93 rfl ?_
                refine r_icmp_ge (pc := 95) (tgt := 132) C dX8_divide_95 (by decide) (fun h95 => ?_) (fun h95 => ?_)
                · have h95 := c_le (by omega) (by omega) h95
                  omega
                · have h95 := c_nle (by omega) (by omega) h95
                  refine r_lload (pc := 98) C dX8_divide_98 rfl ?_
                  refine r_aload_n (pc := 100) C dX8_divide_100 rfl ?_
                  refine r_getf (pc := 101) C dX8_divide_101 fl_RX8_34 (Ce.up hM.1 (by decide)) rfl ?_
                  refine r_iload (pc := 104) C dX8_divide_104 rfl ?_
                  refine r_lald (pc := 106) C dX8_divide_106 (Ce.new hM.2.2.2.2.2.1) rfl (by omega) (by omega) ?_
                  refine r_aload_n (pc := 107) C dX8_divide_107 rfl ?_
                  refine r_getf (pc := 108) C dX8_divide_108 fl_RX8_21 (Ce.up hM.1 (by decide)) rfl ?_
                  refine r_bipush (pc := 111) (v := nI 24) C dX8_divide_111 (by decide +kernel) ?_
                  refine r_iload_n (pc := 113) C dX8_divide_113 rfl ?_
                  refine r_imul (pc := 114) C dX8_divide_114 ?_
                  refine r_ti (nI (24 * b)) (pk_mul _ _) ?_
                  refine r_iload (pc := 115) C dX8_divide_115 rfl ?_
                  refine r_iadd (pc := 117) C dX8_divide_117 ?_
                  refine r_ti (nI (24 * b + t2)) (nI_add _ _) ?_
                  refine r_iload (pc := 118) C dX8_divide_118 rfl ?_
                  refine r_isub (pc := 120) C dX8_divide_120 ?_
                  refine r_ti (nI (24 * b + t2 - t3)) (pk_sub (by omega)) ?_
                  refine r_lald (pc := 121) C dX8_divide_121 (Ce.up hM.2.1 (by decide)) rfl (by omega) (by omega) ?_
                  refine r_lmul (pc := 122) C dX8_divide_122 ?_
                  refine r_lsub (pc := 123) C dX8_divide_123 ?_
                  refine r_lstore (pc := 124) C dX8_divide_124 (by decide) ?_
                  refine G.eq (pc' := 126) (vs' := [some (.ref (E.1 286)), some (.int (nI t)), some (.int (nI a)), some (.int (nI b)), some (.long (z.2.2.2.2.2.2.2.2.2.2.2.1 (24 * b))), none, some (.int (nI t2)), some (.long ((diR z.2.2.2.2.2.2.2.2.2.2.2.1 (diZ z.2.2.2.2.2.2.2.2.2.2.2.1 a b t2) a b t2 t3) - (((diZ z.2.2.2.2.2.2.2.2.2.2.2.1 a b t2) t3) * (z.2.2.2.2.2.2.2.2.2.2.2.1 (24 * b + t2 - t3))))), none, some (.int (nI t3))]) (st' := []) ?_
                  refine r_iinc (pc := 126) (v := nI (t3 + 1)) C dX8_divide_126 rfl (nI_i1 _) (by decide) ?_
                  refine G.eq (pc' := 129) (vs' := [some (.ref (E.1 286)), some (.int (nI t)), some (.int (nI a)), some (.int (nI b)), some (.long (z.2.2.2.2.2.2.2.2.2.2.2.1 (24 * b))), none, some (.int (nI t2)), some (.long ((diR z.2.2.2.2.2.2.2.2.2.2.2.1 (diZ z.2.2.2.2.2.2.2.2.2.2.2.1 a b t2) a b t2 t3) - (((diZ z.2.2.2.2.2.2.2.2.2.2.2.1 a b t2) t3) * (z.2.2.2.2.2.2.2.2.2.2.2.1 (24 * b + t2 - t3))))), none, some (.int (nI (t3 + 1)))]) (st' := []) ?_
                  refine r_goto (pc := 129) (tgt := 91) C dX8_divide_129 (by decide) ?_
                  rw [diR_s] at ih
                  exact ih
        refine r_if_eq (pc := 39) (tgt := 54) C dX8_divide_39 (by decide) (fun h39 => ?_) (fun h39 => ?_)
        · have h39 := k_eq h39
          exact k54 (by simp only [qDiv, h4, h11, h18, cond_true, iN_nI (show t < 2 ^ 31 by omega), iN_nI (show a < 2 ^ 31 by omega), iN_nI (show b < 2 ^ 31 by omega)]; rw [if_pos h39])
        · have h39 := k_ne h39
          refine r_lload (pc := 42) C dX8_divide_42 rfl ?_
          refine r_ldc2 (pc := 44) C dX8_divide_44 qK_RX8_140 ?_
          refine r_lcmp (pc := 47) C dX8_divide_47 ?_
          refine r_if_eq (pc := 48) (tgt := 54) C dX8_divide_48 (by decide) (fun h48 => ?_) (fun h48 => ?_)
          · have h48 := k_eq h48
            exact k54 (by simp only [qDiv, h4, h11, h18, cond_true, iN_nI (show t < 2 ^ 31 by omega), iN_nI (show a < 2 ^ 31 by omega), iN_nI (show b < 2 ^ 31 by omega)]; rw [if_neg h39, if_pos h48])
          · have h48 := k_ne h48
            refine r_bipush (pc := 51) (v := (-4)) C dX8_divide_51 (by decide +kernel) ?_
            exact r_iret (pc := 53) C Z dX8_divide_53 rfl (by rw [show qDiv z (nI t) (nI a) (nI b) = (-4, z) by simp only [qDiv, h4, h11, h18, cond_true, iN_nI (show t < 2 ^ 31 by omega), iN_nI (show a < 2 ^ 31 by omega), iN_nI (show b < 2 ^ 31 by omega)]; rw [if_neg h39, if_neg h48]]; exact ⟨rfl, ⟨z, hM, Sv.rf⟩, Fr.rf⟩)
      · have h18 := b_f h18
        refine r_bipush (pc := 21) (v := (-2)) C dX8_divide_21 (by decide +kernel) ?_
        exact r_iret (pc := 23) C Z dX8_divide_23 rfl (by rw [show qDiv z x y p = (-2, z) by simp only [qDiv, h4, h11, h18, cond_true, cond_false, if_true, if_false, not_true_eq_false, not_false_eq_true, ↓reduceIte]]; exact ⟨rfl, ⟨z, hM, Sv.rf⟩, Fr.rf⟩)
set_option maxHeartbeats 4000000 in
set_option maxRecDepth 100000 in
theorem c_X8_substitute {S : ST} {E : ET} {g : Nat → va_E} {z : MZ} (hM : MC S E g z) (h4 : 4 ≤ z.1) (hN : z.1 ≤ 24) (x y p : Int32) : CtI S E yX8_substitute cX8_substitute 5 (Option.some FieldType.int) rmX8_substitute [.ref (E.1 286), .int x, .int y, .int p] g (fun u g' => u = (qSub z x y p).1 ∧ (∃ z', MC S E g' z' ∧ Sv z' (qSub z x y p).2) ∧ Fr g g' 286 308) := by
  refine Ct.of RX8 (by decide +kernel) rfl (Nat.le_of_ble_eq_true rfl) (fun M C Z => ?_)
  refine G.eq (pc' := 0) (vs' := [some (.ref (E.1 286)), some (.int x), some (.int y), some (.int p), none]) (st' := []) ?_
  refine r_iload_n (pc := 0) C dX8_substitute_0 rfl ?_
  refine r_callS (pc := 1) C dX8_substitute_1 cs_RX8_112 (c_X8_isRegister x) ⟨rfl, rfl, by decide, by decide⟩ rfl rfl (Nat.le_of_ble_eq_true rfl) ⟨Nat.zero_le _, Nat.zero_le _⟩ ?_
  rintro _ _ ⟨_, rfl, rfl, rfl⟩
  show G M S E (0, 0) g 4 [some (.ref (E.1 286)), some (.int x), some (.int y), some (.int p), none] [.int (b2i (hix 6 x))]
  refine r_if_eq (pc := 4) (tgt := 14) C dX8_substitute_4 (by decide) (fun h4 => ?_) (fun h4 => ?_)
  · have h4 := b_f h4
    refine r_bipush (pc := 14) (v := (-2)) C dX8_substitute_14 (by decide +kernel) ?_
    exact r_iret (pc := 16) C Z dX8_substitute_16 rfl (by rw [show qSub z x y p = (-2, z) by simp only [qSub, h4, cond_true, cond_false, if_true, if_false, not_true_eq_false, not_false_eq_true, ↓reduceIte]]; exact ⟨rfl, ⟨z, hM, Sv.rf⟩, Fr.rf⟩)
  · have h4 := b_t h4
    refine r_iload_n (pc := 7) C dX8_substitute_7 rfl ?_
    refine r_callS (pc := 8) C dX8_substitute_8 cs_RX8_112 (c_X8_isRegister y) ⟨rfl, rfl, by decide, by decide⟩ rfl rfl (Nat.le_of_ble_eq_true rfl) ⟨Nat.zero_le _, Nat.zero_le _⟩ ?_
    rintro _ _ ⟨_, rfl, rfl, rfl⟩
    show G M S E (0, 0) g 11 [some (.ref (E.1 286)), some (.int x), some (.int y), some (.int p), none] [.int (b2i (hix 6 y))]
    refine r_if_ne (pc := 11) (tgt := 17) C dX8_substitute_11 (by decide) (fun h11 => ?_) (fun h11 => ?_)
    · have h11 := b_t h11
      obtain ⟨t, rfl, ht⟩ := hix_nat h4 (by omega)
      obtain ⟨a, rfl, ha⟩ := hix_nat h11 (by omega)
      refine r_iload_n (pc := 17) C dX8_substitute_17 rfl ?_
      refine r_i2l (pc := 18) C dX8_substitute_18 ?_
      refine r_lconst (pc := 19) (v := 1) C dX8_substitute_19 rfl ?_
      refine r_ldc2 (pc := 20) C dX8_substitute_20 qK_RX8_148 ?_
      refine r_callS (pc := 23) C dX8_substitute_23 cs_RX8_7 (c_X8_isBetween p.toInt64 1 6) ⟨rfl, rfl, by decide, by decide⟩ rfl rfl (Nat.le_of_ble_eq_true rfl) ⟨Nat.zero_le _, Nat.zero_le _⟩ ?_
      rintro _ _ ⟨_, rfl, rfl, rfl⟩
      show G M S E (0, 0) g 26 [some (.ref (E.1 286)), some (.int (nI t)), some (.int (nI a)), some (.int p), none] [.int (b2i (btw p.toInt64 1 6))]
      refine r_if_ne (pc := 26) (tgt := 31) C dX8_substitute_26 (by decide) (fun h26 => ?_) (fun h26 => ?_)
      · have h26 := b_t h26
        obtain ⟨k, rfl, hk1, hk6, hk⟩ := btw_nat (p := 1) (q := 6) h26 (by decide) (by decide)
        refine r_aload_n (pc := 31) C dX8_substitute_31 rfl ?_
        refine r_aload_n (pc := 32) C dX8_substitute_32 rfl ?_
        refine r_getf (pc := 33) C dX8_substitute_33 fl_RX8_34 hM.1 rfl ?_
        refine r_callV (pc := 36) C dX8_substitute_36 cv_RX8_136 (c_X8_makeZero (iq := 286) hM.2.2.2.2.2.1 (by decide)) ⟨rfl, rfl, by decide, by decide⟩ hM.1 rfl rfl (Nat.le_of_ble_eq_true rfl) ⟨Nat.zero_le _, Nat.zero_le _⟩ ?_
        rintro _ _ ⟨rfl, rfl⟩
        show G M S E (0, 0) (va_up g 291 (xJ S 24 (fun _ => 0))) 39 [some (.ref (E.1 286)), some (.int (nI t)), some (.int (nI a)), some (.int (nI k)), none] []
        refine r_iconst (pc := 39) (v := nI 0) C dX8_substitute_39 (by decide +kernel) ?_
        refine r_istore (pc := 40) C dX8_substitute_40 (by decide) ?_
        refine G.eq (pc' := 42) (vs' := [some (.ref (E.1 286)), some (.int (nI t)), some (.int (nI a)), some (.int (nI k)), some (.int (nI 0))]) (st' := []) ?_
        refine bk (P := fun t2 => G M S E (0, 0) (va_up g 291 (xJ S 24 (sbZ z.2.2.2.2.2.2.2.2.2.2.2.1 a k t2))) 42 [some (.ref (E.1 286)), some (.int (nI t)), some (.int (nI a)), some (.int (nI k)), some (.int (nI t2))] []) (T := sbT z.1 k) ?_ (fun t2 ht ih => ?_)
        · show G M S E (0, 0) (va_up g 291 (xJ S 24 (sbZ z.2.2.2.2.2.2.2.2.2.2.2.1 a k (sbT z.1 k)))) 42 [some (.ref (E.1 286)), some (.int (nI t)), some (.int (nI a)), some (.int (nI k)), some (.int (nI (sbT z.1 k)))] []
          have hq := sb_ge (n := z.1) hk1
          refine r_iload_n (pc := 42) C dX8_substitute_42 rfl ?_
          refine r_iload (pc := 43) C dX8_substitute_43 rfl ?_
          refine r_imul (pc := 45) C dX8_substitute_45 ?_
          refine r_ti (nI (k * (sbT z.1 k))) (pk_mul _ _) ?_
          refine r_aload_n (pc := 46) C dX8_substitute_46 rfl ?_
          refine r_getf (pc := 47) C dX8_substitute_47 fl_RX8_17 (Ce.up hM.1 (by decide)) rfl ?_
          refine r_icmp_ge (pc := 50) (tgt := 80) C dX8_substitute_50 (by decide) (fun h50 => ?_) (fun h50 => ?_)
          · have h50 := c_le (by omega) (by omega) h50
            refine r_aload_n (pc := 80) C dX8_substitute_80 rfl ?_
            refine r_iload_n (pc := 81) C dX8_substitute_81 rfl ?_
            have hM1 : MC S E (va_up g 291 (xJ S 24 (sbZ z.2.2.2.2.2.2.2.2.2.2.2.1 a k (sbT z.1 k)))) (s_f1 z (sbZ z.2.2.2.2.2.2.2.2.2.2.2.1 a k (sbT z.1 k))) := ⟨(Ce.up hM.1 (by decide)), (Ce.up hM.2.1 (by decide)), (Ce.up hM.2.2.1 (by decide)), (Ce.up hM.2.2.2.1 (by decide)), (Ce.up hM.2.2.2.2.1 (by decide)), (Ce.new hM.2.2.2.2.2.1), (Ce.up hM.2.2.2.2.2.2.1 (by decide)), (Ce.up hM.2.2.2.2.2.2.2.1 (by decide)), (Ce.up hM.2.2.2.2.2.2.2.2.1 (by decide)), (Ce.up hM.2.2.2.2.2.2.2.2.2.1 (by decide)), (Ce.up hM.2.2.2.2.2.2.2.2.2.2.1 (by decide)), (Ce.up hM.2.2.2.2.2.2.2.2.2.2.2.1 (by decide)), (Ce.up hM.2.2.2.2.2.2.2.2.2.2.2.2.1 (by decide)), (Ce.up hM.2.2.2.2.2.2.2.2.2.2.2.2.2.1 (by decide)), (Ce.up hM.2.2.2.2.2.2.2.2.2.2.2.2.2.2.1 (by decide)), (Ce.up hM.2.2.2.2.2.2.2.2.2.2.2.2.2.2.2.1 (by decide)), (Ce.up hM.2.2.2.2.2.2.2.2.2.2.2.2.2.2.2.2.1 (by decide)), (Ce.up hM.2.2.2.2.2.2.2.2.2.2.2.2.2.2.2.2.2.1 (by decide)), (Ce.up hM.2.2.2.2.2.2.2.2.2.2.2.2.2.2.2.2.2.2.1 (by decide)), (Ce.up hM.2.2.2.2.2.2.2.2.2.2.2.2.2.2.2.2.2.2.2.1 (by decide)), (Ce.up hM.2.2.2.2.2.2.2.2.2.2.2.2.2.2.2.2.2.2.2.2.1 (by decide)), (Ce.up hM.2.2.2.2.2.2.2.2.2.2.2.2.2.2.2.2.2.2.2.2.2 (by decide))⟩
            have hf1 : Fr g (va_up g 291 (xJ S 24 (sbZ z.2.2.2.2.2.2.2.2.2.2.2.1 a k (sbT z.1 k)))) 286 308 := (Fr.rf.up (by omega) (by omega))
            refine r_callV (pc := 82) C dX8_substitute_82 cv_RX8_133 (c_X8_store hM1 hN t ht) ⟨rfl, rfl, by decide, by decide⟩ (Ce.up hM.1 (by decide)) rfl rfl (Nat.le_of_ble_eq_true rfl) ⟨Nat.zero_le _, Nat.zero_le _⟩ ?_
            rintro _ g2 ⟨_, rfl, rfl, hM2, hF2⟩
            show G M S E (0, 0) g2 85 [some (.ref (E.1 286)), some (.int (nI t)), some (.int (nI a)), some (.int (nI k)), some (.int (nI (sbT z.1 k)))] [.int (stV (s_f1 z (sbZ z.2.2.2.2.2.2.2.2.2.2.2.1 a k (sbT z.1 k))))]
            exact r_iret (pc := 85) C Z dX8_substitute_85 rfl (by rw [show qSub z (nI t) (nI a) (nI k) = sto z (sbZ z.2.2.2.2.2.2.2.2.2.2.2.1 a k (sbT z.1 k)) t by simp only [qSub, h4, h11, h26, iN_nI (show t < 2 ^ 31 by omega), iN_nI (show a < 2 ^ 31 by omega), iN_nI hk, cond_true, cond_false, if_true, if_false, not_true_eq_false, not_false_eq_true, ↓reduceIte]]; exact ⟨rfl, ⟨_, hM2, Sv.rf⟩, hf1.tr hF2 (by omega) (by omega)⟩)
          · have h50 := c_nle (by omega) (by omega) h50
            omega
        · show G M S E (0, 0) (va_up g 291 (xJ S 24 (sbZ z.2.2.2.2.2.2.2.2.2.2.2.1 a k t2))) 42 [some (.ref (E.1 286)), some (.int (nI t)), some (.int (nI a)), some (.int (nI k)), some (.int (nI t2))] []
          have hq := sb_lt (n := z.1) hk1 ht
          refine r_iload_n (pc := 42) C dX8_substitute_42 rfl ?_
          refine r_iload (pc := 43) C dX8_substitute_43 rfl ?_
          refine r_imul (pc := 45) C dX8_substitute_45 ?_
          refine r_ti (nI (k * t2)) (pk_mul _ _) ?_
          refine r_aload_n (pc := 46) C dX8_substitute_46 rfl ?_
          refine r_getf (pc := 47) C dX8_substitute_47 fl_RX8_17 (Ce.up hM.1 (by decide)) rfl ?_
          refine r_icmp_ge (pc := 50) (tgt := 80) C dX8_substitute_50 (by decide) (fun h50 => ?_) (fun h50 => ?_)
          · have h50 := c_le (by omega) (by omega) h50
            omega
          · have h50 := c_nle (by omega) (by omega) h50
            refine r_aload_n (pc := 53) C dX8_substitute_53 rfl ?_
            refine r_getf (pc := 54) C dX8_substitute_54 fl_RX8_34 (Ce.up hM.1 (by decide)) rfl ?_
            refine r_iload_n (pc := 57) C dX8_substitute_57 rfl ?_
            refine r_iload (pc := 58) C dX8_substitute_58 rfl ?_
            refine r_imul (pc := 60) C dX8_substitute_60 ?_
            refine r_ti (nI (k * t2)) (pk_mul _ _) ?_
            refine r_aload_n (pc := 61) C dX8_substitute_61 rfl ?_
            refine r_getf (pc := 62) C dX8_substitute_62 fl_RX8_21 (Ce.up hM.1 (by decide)) rfl ?_
            refine r_bipush (pc := 65) (v := nI 24) C dX8_substitute_65 (by decide +kernel) ?_
            refine r_iload_n (pc := 67) C dX8_substitute_67 rfl ?_
            refine r_imul (pc := 68) C dX8_substitute_68 ?_
            refine r_ti (nI (24 * a)) (pk_mul _ _) ?_
            refine r_iload (pc := 69) C dX8_substitute_69 rfl ?_
            refine r_iadd (pc := 71) C dX8_substitute_71 ?_
            refine r_ti (nI (24 * a + t2)) (nI_add _ _) ?_
            refine r_lald (pc := 72) C dX8_substitute_72 (Ce.up hM.2.1 (by decide)) rfl (by omega) (by omega) ?_
            refine r_last2 (pc := 73) C dX8_substitute_73 hM.2.2.2.2.2.1.1 rfl (by omega) (by omega) ?_
            refine r_iinc (pc := 74) (v := nI (t2 + 1)) C dX8_substitute_74 rfl (nI_i1 _) (by decide) ?_
            refine G.eq (pc' := 77) (vs' := [some (.ref (E.1 286)), some (.int (nI t)), some (.int (nI a)), some (.int (nI k)), some (.int (nI (t2 + 1)))]) (st' := []) ?_
            refine r_goto (pc := 77) (tgt := 42) C dX8_substitute_77 (by decide) ?_
            rw [sbZ_s] at ih
            exact ih
      · have h26 := b_f h26
        refine r_iconst (pc := 29) (v := (-1)) C dX8_substitute_29 (by decide +kernel) ?_
        exact r_iret (pc := 30) C Z dX8_substitute_30 rfl (by rw [show qSub z (nI t) (nI a) p = (-1, z) by simp only [qSub, h4, h11, h26, iN_nI (show t < 2 ^ 31 by omega), iN_nI (show a < 2 ^ 31 by omega), cond_true, cond_false, if_true, if_false, not_true_eq_false, not_false_eq_true, ↓reduceIte]]; exact ⟨rfl, ⟨z, hM, Sv.rf⟩, Fr.rf⟩)
    · have h11 := b_f h11
      refine r_bipush (pc := 14) (v := (-2)) C dX8_substitute_14 (by decide +kernel) ?_
      exact r_iret (pc := 16) C Z dX8_substitute_16 rfl (by rw [show qSub z x y p = (-2, z) by simp only [qSub, h4, h11, cond_true, cond_false, if_true, if_false, not_true_eq_false, not_false_eq_true, ↓reduceIte]]; exact ⟨rfl, ⟨z, hM, Sv.rf⟩, Fr.rf⟩)
