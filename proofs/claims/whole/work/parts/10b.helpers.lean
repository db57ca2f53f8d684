theorem fd_first {p : Nat → Bool} {d : Int32} : ∀ {r i t : Nat}, (∀ j, i ≤ j → j < t → p j = false) → p t = true → i ≤ t → t < i + r → fd p d r i = nI t
  | 0, i, t, _, _, h1, h2 => by omega
  | r + 1, i, t, h, hp, h1, h2 => by
    unfold fd
    by_cases e : i = t
    · subst e; rw [hp]; rfl
    · rw [h i (Nat.le_refl _) (by omega)]
      exact fd_first (fun j a b => h j (by omega) b) hp (by omega) (by omega)
theorem fd_none {p : Nat → Bool} {d : Int32} : ∀ {r i : Nat}, (∀ j, i ≤ j → j < i + r → p j = false) → fd p d r i = d
  | 0, _, _ => rfl
  | r + 1, i, h => by
    unfold fd
    rw [h i (Nat.le_refl _) (by omega)]
    exact fd_none (fun j a b => h j (by omega) (by omega))
/-- the lowest, the highest place that isn't 0; the first where two rows differ -/
def lowP (N : Nat) (a : Nat → Int32) : Int32 := fd (fun k => decide (¬ a k = 0)) (-7) N 0
def hiN (a : Nat → Int32) : Nat → Int32
  | 0 => -7
  | j + 1 => bif decide (¬ a j = 0) then nI j else hiN a j
def difP (N : Nat) (a b : Nat → Int32) : Int32 := fd (fun k => decide (¬ a k = b k)) (-7) N 0
def cntF (p : Nat → Bool) (t s : Nat) : Nat := bif p t then s + 1 else s
def cntN (p : Nat → Bool) (N : Nat) : Nat := it (cntF p) N 0
theorem cnt_t {p : Nat → Bool} {t : Nat} (h : p t = true) : it (cntF p) t 0 + 1 = it (cntF p) (t + 1) 0 := by
  show _ = cntF p t _
  rw [cntF, h]; rfl
theorem cnt_f {p : Nat → Bool} {t : Nat} (h : p t = false) : it (cntF p) t 0 = it (cntF p) (t + 1) 0 := by
  show _ = cntF p t _
  rw [cntF, h]; rfl
theorem cntF_le (p : Nat → Bool) : ∀ t : Nat, it (cntF p) t 0 ≤ t
  | 0 => Nat.le_refl _
  | t + 1 => by
    have := cntF_le p t
    show cntF p t (it (cntF p) t 0) ≤ t + 1
    rw [cntF]
    cases p t with
    | true => simp only [cond_true]; omega
    | false => simp only [cond_false]; omega
set_option maxHeartbeats 4000000 in
set_option maxRecDepth 100000 in
theorem c_X7_isRegister {S : ST} {E : ET} {g : Nat → va_E} (x : Int32) : CtI S E yX7_isRegister cX7_isRegister 1 (Option.some FieldType.boolean) rmX7_isRegister [.int x] g (fun u g' => u = b2i (hix 6 x) ∧ g = g') := by
  refine Ct.of RX7 (by decide +kernel) rfl (Nat.le_of_ble_eq_true rfl) (fun M C Z => ?_)
  refine G.eq (pc' := 0) (vs' := [some (.int x)]) (st' := []) ?_
  refine r_iload_n (pc := 0) C dX7_isRegister_0 rfl ?_
  refine r_if_lt (pc := 1) (tgt := 14) C dX7_isRegister_1 (by decide) (fun h1 => ?_) (fun h1 => ?_)
  · refine r_iconst (pc := 14) (v := nI 0) C dX7_isRegister_14 (by decide +kernel) ?_
    exact r_iret (pc := 15) C Z dX7_isRegister_15 rfl (⟨by rw [show hix 6 x = false by unfold hix; simp [h1]]; rfl, rfl⟩)
  · refine r_iload_n (pc := 4) C dX7_isRegister_4 rfl ?_
    refine r_bipush (pc := 5) (v := nI 6) C dX7_isRegister_5 (by decide +kernel) ?_
    refine r_icmp_ge (pc := 7) (tgt := 14) C dX7_isRegister_7 (by decide) (fun h7 => ?_) (fun h7 => ?_)
    · refine r_iconst (pc := 14) (v := nI 0) C dX7_isRegister_14 (by decide +kernel) ?_
      exact r_iret (pc := 15) C Z dX7_isRegister_15 rfl (⟨by rw [show hix 6 x = false by unfold hix; simp [h7]]; rfl, rfl⟩)
    · refine r_iconst (pc := 10) (v := nI 1) C dX7_isRegister_10 (by decide +kernel) ?_
      refine r_goto (pc := 11) (tgt := 15) C dX7_isRegister_11 (by decide) ?_
      exact r_iret (pc := 15) C Z dX7_isRegister_15 rfl (⟨by rw [show hix 6 x = true by unfold hix; simp only [h1, h7, not_false_eq_true, decide_true, Bool.and_self]]; rfl, rfl⟩)
set_option maxHeartbeats 4000000 in
set_option maxRecDepth 100000 in
theorem c_X7_isPairIndex {S : ST} {E : ET} {g : Nat → va_E} (x : Int32) : CtI S E yX7_isPairIndex cX7_isPairIndex 1 (Option.some FieldType.boolean) rmX7_isPairIndex [.int x] g (fun u g' => u = b2i (hix 5 x) ∧ g = g') := by
  refine Ct.of RX7 (by decide +kernel) rfl (Nat.le_of_ble_eq_true rfl) (fun M C Z => ?_)
  refine G.eq (pc' := 0) (vs' := [some (.int x)]) (st' := []) ?_
  refine r_iload_n (pc := 0) C dX7_isPairIndex_0 rfl ?_
  refine r_if_lt (pc := 1) (tgt := 13) C dX7_isPairIndex_1 (by decide) (fun h1 => ?_) (fun h1 => ?_)
  · refine r_iconst (pc := 13) (v := nI 0) C dX7_isPairIndex_13 (by decide +kernel) ?_
    exact r_iret (pc := 14) C Z dX7_isPairIndex_14 rfl (⟨by rw [show hix 5 x = false by unfold hix; simp [h1]]; rfl, rfl⟩)
  · refine r_iload_n (pc := 4) C dX7_isPairIndex_4 rfl ?_
    refine r_iconst (pc := 5) (v := nI 5) C dX7_isPairIndex_5 (by decide +kernel) ?_
    refine r_icmp_ge (pc := 6) (tgt := 13) C dX7_isPairIndex_6 (by decide) (fun h6 => ?_) (fun h6 => ?_)
    · refine r_iconst (pc := 13) (v := nI 0) C dX7_isPairIndex_13 (by decide +kernel) ?_
      exact r_iret (pc := 14) C Z dX7_isPairIndex_14 rfl (⟨by rw [show hix 5 x = false by unfold hix; simp [h6]]; rfl, rfl⟩)
    · refine r_iconst (pc := 9) (v := nI 1) C dX7_isPairIndex_9 (by decide +kernel) ?_
      refine r_goto (pc := 10) (tgt := 14) C dX7_isPairIndex_10 (by decide) ?_
      exact r_iret (pc := 14) C Z dX7_isPairIndex_14 rfl (⟨by rw [show hix 5 x = true by unfold hix; simp only [h1, h6, not_false_eq_true, decide_true, Bool.and_self]]; rfl, rfl⟩)
set_option maxHeartbeats 4000000 in
set_option maxRecDepth 100000 in
theorem c_X7_isSlot {S : ST} {E : ET} {g : Nat → va_E} (x : Int32) : CtI S E yX7_isSlot cX7_isSlot 1 (Option.some FieldType.boolean) rmX7_isSlot [.int x] g (fun u g' => u = b2i (hix 4 x) ∧ g = g') := by
  refine Ct.of RX7 (by decide +kernel) rfl (Nat.le_of_ble_eq_true rfl) (fun M C Z => ?_)
  refine G.eq (pc' := 0) (vs' := [some (.int x)]) (st' := []) ?_
  refine r_iload_n (pc := 0) C dX7_isSlot_0 rfl ?_
  refine r_if_lt (pc := 1) (tgt := 13) C dX7_isSlot_1 (by decide) (fun h1 => ?_) (fun h1 => ?_)
  · refine r_iconst (pc := 13) (v := nI 0) C dX7_isSlot_13 (by decide +kernel) ?_
    exact r_iret (pc := 14) C Z dX7_isSlot_14 rfl (⟨by rw [show hix 4 x = false by unfold hix; simp [h1]]; rfl, rfl⟩)
  · refine r_iload_n (pc := 4) C dX7_isSlot_4 rfl ?_
    refine r_iconst (pc := 5) (v := nI 4) C dX7_isSlot_5 (by decide +kernel) ?_
    refine r_icmp_ge (pc := 6) (tgt := 13) C dX7_isSlot_6 (by decide) (fun h6 => ?_) (fun h6 => ?_)
    · refine r_iconst (pc := 13) (v := nI 0) C dX7_isSlot_13 (by decide +kernel) ?_
      exact r_iret (pc := 14) C Z dX7_isSlot_14 rfl (⟨by rw [show hix 4 x = false by unfold hix; simp [h6]]; rfl, rfl⟩)
    · refine r_iconst (pc := 9) (v := nI 1) C dX7_isSlot_9 (by decide +kernel) ?_
      refine r_goto (pc := 10) (tgt := 14) C dX7_isSlot_10 (by decide) ?_
      exact r_iret (pc := 14) C Z dX7_isSlot_14 rfl (⟨by rw [show hix 4 x = true by unfold hix; simp only [h1, h6, not_false_eq_true, decide_true, Bool.and_self]]; rfl, rfl⟩)
set_option maxHeartbeats 4000000 in
set_option maxRecDepth 100000 in
theorem c_X7_isPower {S : ST} {E : ET} {g : Nat → va_E} {hsn : Bool} {v v2 : SV} {rem rem2 : Nat → PV} {pt inp : Nat × (Nat → Nat)} {out : BV} {sl : Nat → SlV} (hB : BC S E g (hsn, v, rem, v2, rem2, pt, inp, out, sl)) (hO : SOk v) (x : Int32) : CtI S E yX7_isPower cX7_isPower 2 (Option.some FieldType.boolean) rmX7_isPower [.ref (E.1 0), .int x] g (fun u g' => u = b2i (hix v.1 x) ∧ g = g') := by
  refine Ct.of RX7 (by decide +kernel) rfl (Nat.le_of_ble_eq_true rfl) (fun M C Z => ?_)
  refine G.eq (pc' := 0) (vs' := [some (.ref (E.1 0)), some (.int x)]) (st' := []) ?_
  obtain ⟨ho, hL, hV, hSc, hWy, hPt, hIn, hOu, hSl⟩ := id hB
  have ho : Ce E g 0 (.inr (7, [.ref (E.1 1), .ref (E.1 127), .int (b2i hsn), .ref (E.1 253), .ref (E.1 266), .ref (E.1 268), .ref (E.1 270), .ref (E.1 271), .ref (E.1 273), .ref (E.1 275), .ref (E.1 277)])) := ho
  have hL : StL S E g 1 v rem := hL
  obtain ⟨pi, ra, hs, hl⟩ := id hL
  obtain ⟨hN4, hN, hr1⟩ := id hO
  refine r_iload_n (pc := 0) C dX7_isPower_0 rfl ?_
  refine r_if_lt (pc := 1) (tgt := 19) C dX7_isPower_1 (by decide) (fun h1 => ?_) (fun h1 => ?_)
  · refine r_iconst (pc := 19) (v := nI 0) C dX7_isPower_19 (by decide +kernel) ?_
    exact r_iret (pc := 20) C Z dX7_isPower_20 rfl (⟨by rw [show hix v.1 x = false by unfold hix; simp [h1]]; rfl, rfl⟩)
  · refine r_iload_n (pc := 4) C dX7_isPower_4 rfl ?_
    refine r_aload_n (pc := 5) C dX7_isPower_5 rfl ?_
    refine r_getf (pc := 6) C dX7_isPower_6 fl_RX7_14 ho rfl ?_
    refine r_getf (pc := 9) C dX7_isPower_9 fl_RX7_78 hs.1 rfl ?_
    refine r_icmp_ge (pc := 12) (tgt := 19) C dX7_isPower_12 (by decide) (fun h12 => ?_) (fun h12 => ?_)
    · refine r_iconst (pc := 19) (v := nI 0) C dX7_isPower_19 (by decide +kernel) ?_
      exact r_iret (pc := 20) C Z dX7_isPower_20 rfl (⟨by rw [show hix v.1 x = false by unfold hix; simp [h12]]; rfl, rfl⟩)
    · refine r_iconst (pc := 15) (v := nI 1) C dX7_isPower_15 (by decide +kernel) ?_
      refine r_goto (pc := 16) (tgt := 20) C dX7_isPower_16 (by decide) ?_
      exact r_iret (pc := 20) C Z dX7_isPower_20 rfl (⟨by rw [show hix v.1 x = true by unfold hix; simp only [h1, h12, not_false_eq_true, decide_true, Bool.and_self]]; rfl, rfl⟩)
set_option maxHeartbeats 4000000 in
set_option maxRecDepth 100000 in
theorem c_X7_lowestPower {S : ST} {E : ET} {g : Nat → va_E} {hsn : Bool} {v v2 : SV} {rem rem2 : Nat → PV} {pt inp : Nat × (Nat → Nat)} {out : BV} {sl : Nat → SlV} (hB : BC S E g (hsn, v, rem, v2, rem2, pt, inp, out, sl)) (hO : SOk v) {ir : Nat} {a : Nat → Int32} (hra : Ce E g ir (xI S 24 a)) : CtI S E yX7_lowestPower cX7_lowestPower 3 (Option.some FieldType.int) rmX7_lowestPower [.ref (E.1 0), .ref (E.1 ir)] g (fun u g' => u = lowP v.1 a ∧ g = g') := by
  refine Ct.of RX7 (by decide +kernel) rfl (Nat.le_of_ble_eq_true rfl) (fun M C Z => ?_)
  refine G.eq (pc' := 0) (vs' := [some (.ref (E.1 0)), some (.ref (E.1 ir)), none]) (st' := []) ?_
  obtain ⟨ho, hL, hV, hSc, hWy, hPt, hIn, hOu, hSl⟩ := id hB
  have ho : Ce E g 0 (.inr (7, [.ref (E.1 1), .ref (E.1 127), .int (b2i hsn), .ref (E.1 253), .ref (E.1 266), .ref (E.1 268), .ref (E.1 270), .ref (E.1 271), .ref (E.1 273), .ref (E.1 275), .ref (E.1 277)])) := ho
  have hL : StL S E g 1 v rem := hL
  obtain ⟨pi, ra, hs, hl⟩ := id hL
  obtain ⟨hN4, hN, hr1⟩ := id hO
  refine r_iconst (pc := 0) (v := nI 0) C dX7_lowestPower_0 (by decide +kernel) ?_
  refine r_istore_n (pc := 1) C dX7_lowestPower_1 (by decide) ?_
  refine G.eq (pc' := 2) (vs' := [some (.ref (E.1 0)), some (.ref (E.1 ir)), some (.int (nI 0))]) (st' := []) ?_
  refine bk (P := fun t => (∀ j : Nat, j < t → decide (¬ a j = 0) = false) → G M S E (0, 0) g 2 [some (.ref (E.1 0)), some (.ref (E.1 ir)), some (.int (nI t))] []) (T := v.1) (fun hh => ?_) (fun t ht ih hh => ?_) (fun j hj => absurd hj (Nat.not_lt_zero j))
  · show G M S E (0, 0) g 2 [some (.ref (E.1 0)), some (.ref (E.1 ir)), some (.int (nI v.1))] []
    refine r_iload_n (pc := 2) C dX7_lowestPower_2 rfl ?_
    refine r_aload_n (pc := 3) C dX7_lowestPower_3 rfl ?_
    refine r_getf (pc := 4) C dX7_lowestPower_4 fl_RX7_14 ho rfl ?_
    refine r_getf (pc := 7) C dX7_lowestPower_7 fl_RX7_78 hs.1 rfl ?_
    refine r_icmp_ge (pc := 10) (tgt := 27) C dX7_lowestPower_10 (by decide) (fun h10 => ?_) (fun h10 => ?_)
    · have h10 := c_le (by omega) (by omega) h10
      refine r_bipush (pc := 27) (v := (-7)) C dX7_lowestPower_27 (by decide +kernel) ?_
      exact r_iret (pc := 29) C Z dX7_lowestPower_29 rfl (⟨(fd_none (fun j _ hj => hh j (by omega))).symm, rfl⟩)
    · have h10 := c_nle (by omega) (by omega) h10
      omega
  · show G M S E (0, 0) g 2 [some (.ref (E.1 0)), some (.ref (E.1 ir)), some (.int (nI t))] []
    refine r_iload_n (pc := 2) C dX7_lowestPower_2 rfl ?_
    refine r_aload_n (pc := 3) C dX7_lowestPower_3 rfl ?_
    refine r_getf (pc := 4) C dX7_lowestPower_4 fl_RX7_14 ho rfl ?_
    refine r_getf (pc := 7) C dX7_lowestPower_7 fl_RX7_78 hs.1 rfl ?_
    refine r_icmp_ge (pc := 10) (tgt := 27) C dX7_lowestPower_10 (by decide) (fun h10 => ?_) (fun h10 => ?_)
    · have h10 := c_le (by omega) (by omega) h10
      omega
    · have h10 := c_nle (by omega) (by omega) h10
      refine r_aload_n (pc := 13) C dX7_lowestPower_13 rfl ?_
      refine r_iload_n (pc := 14) C dX7_lowestPower_14 rfl ?_
      refine r_iald (pc := 15) C dX7_lowestPower_15 hra rfl (by omega) (by omega) ?_
      refine r_if_eq (pc := 16) (tgt := 21) C dX7_lowestPower_16 (by decide) (fun h16 => ?_) (fun h16 => ?_)
      · refine r_iinc (pc := 21) (v := nI (t + 1)) C dX7_lowestPower_21 rfl (nI_i1 _) (by decide) ?_
        refine G.eq (pc' := 24) (vs' := [some (.ref (E.1 0)), some (.ref (E.1 ir)), some (.int (nI (t + 1)))]) (st' := []) ?_
        refine r_goto (pc := 24) (tgt := 2) C dX7_lowestPower_24 (by decide) ?_
        exact (ih (lt_s hh (decide_eq_false (fun q => q h16))))
      · refine r_iload_n (pc := 19) C dX7_lowestPower_19 rfl ?_
        exact r_iret (pc := 20) C Z dX7_lowestPower_20 rfl (⟨(fd_first (fun j _ hj => hh j hj) (decide_eq_true h16) (Nat.zero_le _) (by omega)).symm, rfl⟩)
set_option maxHeartbeats 4000000 in
set_option maxRecDepth 100000 in
theorem c_X7_highestPower {S : ST} {E : ET} {g : Nat → va_E} {hsn : Bool} {v v2 : SV} {rem rem2 : Nat → PV} {pt inp : Nat × (Nat → Nat)} {out : BV} {sl : Nat → SlV} (hB : BC S E g (hsn, v, rem, v2, rem2, pt, inp, out, sl)) (hO : SOk v) {ir : Nat} {a : Nat → Int32} (hra : Ce E g ir (xI S 24 a)) : CtI S E yX7_highestPower cX7_highestPower 3 (Option.some FieldType.int) rmX7_highestPower [.ref (E.1 0), .ref (E.1 ir)] g (fun u g' => u = hiN a v.1 ∧ g = g') := by
  refine Ct.of RX7 (by decide +kernel) rfl (Nat.le_of_ble_eq_true rfl) (fun M C Z => ?_)
  refine G.eq (pc' := 0) (vs' := [some (.ref (E.1 0)), some (.ref (E.1 ir)), none]) (st' := []) ?_
  obtain ⟨ho, hL, hV, hSc, hWy, hPt, hIn, hOu, hSl⟩ := id hB
  have ho : Ce E g 0 (.inr (7, [.ref (E.1 1), .ref (E.1 127), .int (b2i hsn), .ref (E.1 253), .ref (E.1 266), .ref (E.1 268), .ref (E.1 270), .ref (E.1 271), .ref (E.1 273), .ref (E.1 275), .ref (E.1 277)])) := ho
  have hL : StL S E g 1 v rem := hL
  obtain ⟨pi, ra, hs, hl⟩ := id hL
  obtain ⟨hN4, hN, hr1⟩ := id hO
  refine r_aload_n (pc := 0) C dX7_highestPower_0 rfl ?_
  refine r_getf (pc := 1) C dX7_highestPower_1 fl_RX7_14 ho rfl ?_
  refine r_getf (pc := 4) C dX7_highestPower_4 fl_RX7_78 hs.1 rfl ?_
  refine r_iconst (pc := 7) (v := nI 1) C dX7_highestPower_7 (by decide +kernel) ?_
  refine r_isub (pc := 8) C dX7_highestPower_8 ?_
  refine r_ti (mI v.1) rfl ?_
  refine r_istore_n (pc := 9) C dX7_highestPower_9 (by decide) ?_
  refine G.eq (pc' := 10) (vs' := [some (.ref (E.1 0)), some (.ref (E.1 ir)), some (.int (mI v.1))]) (st' := []) ?_
  refine bk (P := fun t => (hiN a v.1 = hiN a (v.1 - t)) → G M S E (0, 0) g 10 [some (.ref (E.1 0)), some (.ref (E.1 ir)), some (.int (mI (v.1 - t)))] []) (T := v.1) (fun hh => ?_) (fun t ht ih hh => ?_) rfl
  · show G M S E (0, 0) g 10 [some (.ref (E.1 0)), some (.ref (E.1 ir)), some (.int (mI (v.1 - v.1)))] []
    refine r_iload_n (pc := 10) C dX7_highestPower_10 rfl ?_
    refine r_if_lt (pc := 11) (tgt := 28) C dX7_highestPower_11 (by decide) (fun h11 => ?_) (fun h11 => ?_)
    · have h11 := m_lt0 (by omega) h11
      refine r_bipush (pc := 28) (v := (-7)) C dX7_highestPower_28 (by decide +kernel) ?_
      exact r_iret (pc := 30) C Z dX7_highestPower_30 rfl (⟨by rw [hh, Nat.sub_self]; rfl, rfl⟩)
    · have h11 := m_nlt0 (by omega) h11
      omega
  · show G M S E (0, 0) g 10 [some (.ref (E.1 0)), some (.ref (E.1 ir)), some (.int (mI (v.1 - t)))] []
    refine r_iload_n (pc := 10) C dX7_highestPower_10 rfl ?_
    refine r_if_lt (pc := 11) (tgt := 28) C dX7_highestPower_11 (by decide) (fun h11 => ?_) (fun h11 => ?_)
    · have h11 := m_lt0 (by omega) h11
      omega
    · have h11 := m_nlt0 (by omega) h11
      rw [show v.1 - t = v.1 - t - 1 + 1 by omega, mI_s]
      refine r_aload_n (pc := 14) C dX7_highestPower_14 rfl ?_
      refine r_iload_n (pc := 15) C dX7_highestPower_15 rfl ?_
      refine r_iald (pc := 16) C dX7_highestPower_16 hra rfl (by omega) (by omega) ?_
      refine r_if_eq (pc := 17) (tgt := 22) C dX7_highestPower_17 (by decide) (fun h17 => ?_) (fun h17 => ?_)
      · refine r_iinc (pc := 22) (v := mI (v.1 - t - 1)) C dX7_highestPower_22 rfl (nI_m1 _) (by decide) ?_
        refine G.eq (pc' := 25) (vs' := [some (.ref (E.1 0)), some (.ref (E.1 ir)), some (.int (mI (v.1 - t - 1)))]) (st' := []) ?_
        refine r_goto (pc := 25) (tgt := 10) C dX7_highestPower_25 (by decide) ?_
        exact (ih (by rw [hh, show v.1 - t = v.1 - t - 1 + 1 by omega, hiN, show decide (¬ a (v.1 - t - 1) = 0) = false from decide_eq_false (fun q => q h17)]; rfl))
      · refine r_iload_n (pc := 20) C dX7_highestPower_20 rfl ?_
        exact r_iret (pc := 21) C Z dX7_highestPower_21 rfl (⟨by rw [hh, show v.1 - t = v.1 - t - 1 + 1 by omega, hiN, show decide (¬ a (v.1 - t - 1) = 0) = true from decide_eq_true h17]; rfl, rfl⟩)
set_option maxHeartbeats 4000000 in
set_option maxRecDepth 100000 in
theorem c_X7_lowestDifference {S : ST} {E : ET} {g : Nat → va_E} {hsn : Bool} {v v2 : SV} {rem rem2 : Nat → PV} {pt inp : Nat × (Nat → Nat)} {out : BV} {sl : Nat → SlV} (hB : BC S E g (hsn, v, rem, v2, rem2, pt, inp, out, sl)) (hO : SOk v) {ir : Nat} {a : Nat → Int32} (hra : Ce E g ir (xI S 24 a)) {ib : Nat} {b : Nat → Int32} (hrb : Ce E g ib (xI S 24 b)) : CtI S E yX7_lowestDifference cX7_lowestDifference 4 (Option.some FieldType.int) rmX7_lowestDifference [.ref (E.1 0), .ref (E.1 ir), .ref (E.1 ib)] g (fun u g' => u = difP v.1 a b ∧ g = g') := by
  refine Ct.of RX7 (by decide +kernel) rfl (Nat.le_of_ble_eq_true rfl) (fun M C Z => ?_)
  refine G.eq (pc' := 0) (vs' := [some (.ref (E.1 0)), some (.ref (E.1 ir)), some (.ref (E.1 ib)), none]) (st' := []) ?_
  obtain ⟨ho, hL, hV, hSc, hWy, hPt, hIn, hOu, hSl⟩ := id hB
  have ho : Ce E g 0 (.inr (7, [.ref (E.1 1), .ref (E.1 127), .int (b2i hsn), .ref (E.1 253), .ref (E.1 266), .ref (E.1 268), .ref (E.1 270), .ref (E.1 271), .ref (E.1 273), .ref (E.1 275), .ref (E.1 277)])) := ho
  have hL : StL S E g 1 v rem := hL
  obtain ⟨pi, ra, hs, hl⟩ := id hL
  obtain ⟨hN4, hN, hr1⟩ := id hO
  refine r_iconst (pc := 0) (v := nI 0) C dX7_lowestDifference_0 (by decide +kernel) ?_
  refine r_istore_n (pc := 1) C dX7_lowestDifference_1 (by decide) ?_
  refine G.eq (pc' := 2) (vs' := [some (.ref (E.1 0)), some (.ref (E.1 ir)), some (.ref (E.1 ib)), some (.int (nI 0))]) (st' := []) ?_
  refine bk (P := fun t => (∀ j : Nat, j < t → decide (¬ a j = b j) = false) → G M S E (0, 0) g 2 [some (.ref (E.1 0)), some (.ref (E.1 ir)), some (.ref (E.1 ib)), some (.int (nI t))] []) (T := v.1) (fun hh => ?_) (fun t ht ih hh => ?_) (fun j hj => absurd hj (Nat.not_lt_zero j))
  · show G M S E (0, 0) g 2 [some (.ref (E.1 0)), some (.ref (E.1 ir)), some (.ref (E.1 ib)), some (.int (nI v.1))] []
    refine r_iload_n (pc := 2) C dX7_lowestDifference_2 rfl ?_
    refine r_aload_n (pc := 3) C dX7_lowestDifference_3 rfl ?_
    refine r_getf (pc := 4) C dX7_lowestDifference_4 fl_RX7_14 ho rfl ?_
    refine r_getf (pc := 7) C dX7_lowestDifference_7 fl_RX7_78 hs.1 rfl ?_
    refine r_icmp_ge (pc := 10) (tgt := 30) C dX7_lowestDifference_10 (by decide) (fun h10 => ?_) (fun h10 => ?_)
    · have h10 := c_le (by omega) (by omega) h10
      refine r_bipush (pc := 30) (v := (-7)) C dX7_lowestDifference_30 (by decide +kernel) ?_
      exact r_iret (pc := 32) C Z dX7_lowestDifference_32 rfl (⟨(fd_none (fun j _ hj => hh j (by omega))).symm, rfl⟩)
    · have h10 := c_nle (by omega) (by omega) h10
      omega
  · show G M S E (0, 0) g 2 [some (.ref (E.1 0)), some (.ref (E.1 ir)), some (.ref (E.1 ib)), some (.int (nI t))] []
    refine r_iload_n (pc := 2) C dX7_lowestDifference_2 rfl ?_
    refine r_aload_n (pc := 3) C dX7_lowestDifference_3 rfl ?_
    refine r_getf (pc := 4) C dX7_lowestDifference_4 fl_RX7_14 ho rfl ?_
    refine r_getf (pc := 7) C dX7_lowestDifference_7 fl_RX7_78 hs.1 rfl ?_
    refine r_icmp_ge (pc := 10) (tgt := 30) C dX7_lowestDifference_10 (by decide) (fun h10 => ?_) (fun h10 => ?_)
    · have h10 := c_le (by omega) (by omega) h10
      omega
    · have h10 := c_nle (by omega) (by omega) h10
      refine r_aload_n (pc := 13) C dX7_lowestDifference_13 rfl ?_
      refine r_iload_n (pc := 14) C dX7_lowestDifference_14 rfl ?_
      refine r_iald (pc := 15) C dX7_lowestDifference_15 hra rfl (by omega) (by omega) ?_
      refine r_aload_n (pc := 16) C dX7_lowestDifference_16 rfl ?_
      refine r_iload_n (pc := 17) C dX7_lowestDifference_17 rfl ?_
      refine r_iald (pc := 18) C dX7_lowestDifference_18 hrb rfl (by omega) (by omega) ?_
      refine r_icmp_eq (pc := 19) (tgt := 24) C dX7_lowestDifference_19 (by decide) (fun h19 => ?_) (fun h19 => ?_)
      · refine r_iinc (pc := 24) (v := nI (t + 1)) C dX7_lowestDifference_24 rfl (nI_i1 _) (by decide) ?_
        refine G.eq (pc' := 27) (vs' := [some (.ref (E.1 0)), some (.ref (E.1 ir)), some (.ref (E.1 ib)), some (.int (nI (t + 1)))]) (st' := []) ?_
        refine r_goto (pc := 27) (tgt := 2) C dX7_lowestDifference_27 (by decide) ?_
        exact (ih (lt_s hh (decide_eq_false (fun q => q h19))))
      · refine r_iload_n (pc := 22) C dX7_lowestDifference_22 rfl ?_
        exact r_iret (pc := 23) C Z dX7_lowestDifference_23 rfl (⟨(fd_first (fun j _ hj => hh j hj) (decide_eq_true h19) (Nat.zero_le _) (by omega)).symm, rfl⟩)
set_option maxHeartbeats 4000000 in
set_option maxRecDepth 100000 in
theorem c_X7_countNonzero {S : ST} {E : ET} {g : Nat → va_E} {hsn : Bool} {v v2 : SV} {rem rem2 : Nat → PV} {pt inp : Nat × (Nat → Nat)} {out : BV} {sl : Nat → SlV} (hB : BC S E g (hsn, v, rem, v2, rem2, pt, inp, out, sl)) (hO : SOk v) {ir : Nat} {a : Nat → Int32} (hra : Ce E g ir (xI S 24 a)) : CtI S E yX7_countNonzero cX7_countNonzero 4 (Option.some FieldType.int) rmX7_countNonzero [.ref (E.1 0), .ref (E.1 ir)] g (fun u g' => u = nI (cntN (fun k => decide (¬ a k = 0)) v.1) ∧ g = g') := by
  refine Ct.of RX7 (by decide +kernel) rfl (Nat.le_of_ble_eq_true rfl) (fun M C Z => ?_)
  refine G.eq (pc' := 0) (vs' := [some (.ref (E.1 0)), some (.ref (E.1 ir)), none, none]) (st' := []) ?_
  obtain ⟨ho, hL, hV, hSc, hWy, hPt, hIn, hOu, hSl⟩ := id hB
  have ho : Ce E g 0 (.inr (7, [.ref (E.1 1), .ref (E.1 127), .int (b2i hsn), .ref (E.1 253), .ref (E.1 266), .ref (E.1 268), .ref (E.1 270), .ref (E.1 271), .ref (E.1 273), .ref (E.1 275), .ref (E.1 277)])) := ho
  have hL : StL S E g 1 v rem := hL
  obtain ⟨pi, ra, hs, hl⟩ := id hL
  obtain ⟨hN4, hN, hr1⟩ := id hO
  refine r_iconst (pc := 0) (v := nI 0) C dX7_countNonzero_0 (by decide +kernel) ?_
  refine r_istore_n (pc := 1) C dX7_countNonzero_1 (by decide) ?_
  refine G.eq (pc' := 2) (vs' := [some (.ref (E.1 0)), some (.ref (E.1 ir)), some (.int (nI 0)), none]) (st' := []) ?_
  refine r_iconst (pc := 2) (v := nI 0) C dX7_countNonzero_2 (by decide +kernel) ?_
  refine r_istore_n (pc := 3) C dX7_countNonzero_3 (by decide) ?_
  refine G.eq (pc' := 4) (vs' := [some (.ref (E.1 0)), some (.ref (E.1 ir)), some (.int (nI 0)), some (.int (nI 0))]) (st' := []) ?_
  refine bk (P := fun t => G M S E (0, 0) g 4 [some (.ref (E.1 0)), some (.ref (E.1 ir)), some (.int (nI (it (cntF (fun k => decide (¬ a k = 0))) t 0))), some (.int (nI t))] []) (T := v.1) ?_ (fun t ht ih => ?_)
  · show G M S E (0, 0) g 4 [some (.ref (E.1 0)), some (.ref (E.1 ir)), some (.int (nI (it (cntF (fun k => decide (¬ a k = 0))) v.1 0))), some (.int (nI v.1))] []
    refine r_iload_n (pc := 4) C dX7_countNonzero_4 rfl ?_
    refine r_aload_n (pc := 5) C dX7_countNonzero_5 rfl ?_
    refine r_getf (pc := 6) C dX7_countNonzero_6 fl_RX7_14 ho rfl ?_
    refine r_getf (pc := 9) C dX7_countNonzero_9 fl_RX7_78 hs.1 rfl ?_
    refine r_icmp_ge (pc := 12) (tgt := 30) C dX7_countNonzero_12 (by decide) (fun h12 => ?_) (fun h12 => ?_)
    · have h12 := c_le (by omega) (by omega) h12
      refine r_iload_n (pc := 30) C dX7_countNonzero_30 rfl ?_
      exact r_iret (pc := 31) C Z dX7_countNonzero_31 rfl (⟨rfl, rfl⟩)
    · have h12 := c_nle (by omega) (by omega) h12
      omega
  · show G M S E (0, 0) g 4 [some (.ref (E.1 0)), some (.ref (E.1 ir)), some (.int (nI (it (cntF (fun k => decide (¬ a k = 0))) t 0))), some (.int (nI t))] []
    refine r_iload_n (pc := 4) C dX7_countNonzero_4 rfl ?_
    refine r_aload_n (pc := 5) C dX7_countNonzero_5 rfl ?_
    refine r_getf (pc := 6) C dX7_countNonzero_6 fl_RX7_14 ho rfl ?_
    refine r_getf (pc := 9) C dX7_countNonzero_9 fl_RX7_78 hs.1 rfl ?_
    refine r_icmp_ge (pc := 12) (tgt := 30) C dX7_countNonzero_12 (by decide) (fun h12 => ?_) (fun h12 => ?_)
    · have h12 := c_le (by omega) (by omega) h12
      omega
    · have h12 := c_nle (by omega) (by omega) h12
      refine r_aload_n (pc := 15) C dX7_countNonzero_15 rfl ?_
      refine r_iload_n (pc := 16) C dX7_countNonzero_16 rfl ?_
      refine r_iald (pc := 17) C dX7_countNonzero_17 hra rfl (by omega) (by omega) ?_
      refine r_if_eq (pc := 18) (tgt := 24) C dX7_countNonzero_18 (by decide) (fun h18 => ?_) (fun h18 => ?_)
      · rw [show it (cntF (fun k => decide (¬ a k = 0))) t 0 = it (cntF (fun k => decide (¬ a k = 0))) (t + 1) 0 from cnt_f (p := (fun k => decide (¬ a k = 0))) (decide_eq_false (fun q => q h18))]
        refine r_iinc (pc := 24) (v := nI (t + 1)) C dX7_countNonzero_24 rfl (nI_i1 _) (by decide) ?_
        refine G.eq (pc' := 27) (vs' := [some (.ref (E.1 0)), some (.ref (E.1 ir)), some (.int (nI (it (cntF (fun k => decide (¬ a k = 0))) (t + 1) 0))), some (.int (nI (t + 1)))]) (st' := []) ?_
        refine r_goto (pc := 27) (tgt := 4) C dX7_countNonzero_27 (by decide) ?_
        exact ih
      · refine r_iinc (pc := 21) (v := nI (it (cntF (fun k => decide (¬ a k = 0))) t 0 + 1)) C dX7_countNonzero_21 rfl (nI_i1 _) (by decide) ?_
        refine G.eq (pc' := 24) (vs' := [some (.ref (E.1 0)), some (.ref (E.1 ir)), some (.int (nI (it (cntF (fun k => decide (¬ a k = 0))) t 0 + 1))), some (.int (nI t))]) (st' := []) ?_
        rw [show it (cntF (fun k => decide (¬ a k = 0))) t 0 + 1 = it (cntF (fun k => decide (¬ a k = 0))) (t + 1) 0 from cnt_t (p := (fun k => decide (¬ a k = 0))) (decide_eq_true h18)]
        refine r_iinc (pc := 24) (v := nI (t + 1)) C dX7_countNonzero_24 rfl (nI_i1 _) (by decide) ?_
        refine G.eq (pc' := 27) (vs' := [some (.ref (E.1 0)), some (.ref (E.1 ir)), some (.int (nI (it (cntF (fun k => decide (¬ a k = 0))) (t + 1) 0))), some (.int (nI (t + 1)))]) (st' := []) ?_
        refine r_goto (pc := 27) (tgt := 4) C dX7_countNonzero_27 (by decide) ?_
        exact ih
set_option maxHeartbeats 4000000 in
set_option maxRecDepth 100000 in
theorem c_X7_countNegative {S : ST} {E : ET} {g : Nat → va_E} {hsn : Bool} {v v2 : SV} {rem rem2 : Nat → PV} {pt inp : Nat × (Nat → Nat)} {out : BV} {sl : Nat → SlV} (hB : BC S E g (hsn, v, rem, v2, rem2, pt, inp, out, sl)) (hO : SOk v) {ir : Nat} {a : Nat → Int32} (hra : Ce E g ir (xI S 24 a)) : CtI S E yX7_countNegative cX7_countNegative 4 (Option.some FieldType.int) rmX7_countNegative [.ref (E.1 0), .ref (E.1 ir)] g (fun u g' => u = nI (cntN (fun k => decide (a k < 0)) v.1) ∧ g = g') := by
  refine Ct.of RX7 (by decide +kernel) rfl (Nat.le_of_ble_eq_true rfl) (fun M C Z => ?_)
  refine G.eq (pc' := 0) (vs' := [some (.ref (E.1 0)), some (.ref (E.1 ir)), none, none]) (st' := []) ?_
  obtain ⟨ho, hL, hV, hSc, hWy, hPt, hIn, hOu, hSl⟩ := id hB
  have ho : Ce E g 0 (.inr (7, [.ref (E.1 1), .ref (E.1 127), .int (b2i hsn), .ref (E.1 253), .ref (E.1 266), .ref (E.1 268), .ref (E.1 270), .ref (E.1 271), .ref (E.1 273), .ref (E.1 275), .ref (E.1 277)])) := ho
  have hL : StL S E g 1 v rem := hL
  obtain ⟨pi, ra, hs, hl⟩ := id hL
  obtain ⟨hN4, hN, hr1⟩ := id hO
  refine r_iconst (pc := 0) (v := nI 0) C dX7_countNegative_0 (by decide +kernel) ?_
  refine r_istore_n (pc := 1) C dX7_countNegative_1 (by decide) ?_
  refine G.eq (pc' := 2) (vs' := [some (.ref (E.1 0)), some (.ref (E.1 ir)), some (.int (nI 0)), none]) (st' := []) ?_
  refine r_iconst (pc := 2) (v := nI 0) C dX7_countNegative_2 (by decide +kernel) ?_
  refine r_istore_n (pc := 3) C dX7_countNegative_3 (by decide) ?_
  refine G.eq (pc' := 4) (vs' := [some (.ref (E.1 0)), some (.ref (E.1 ir)), some (.int (nI 0)), some (.int (nI 0))]) (st' := []) ?_
  refine bk (P := fun t => G M S E (0, 0) g 4 [some (.ref (E.1 0)), some (.ref (E.1 ir)), some (.int (nI (it (cntF (fun k => decide (a k < 0))) t 0))), some (.int (nI t))] []) (T := v.1) ?_ (fun t ht ih => ?_)
  · show G M S E (0, 0) g 4 [some (.ref (E.1 0)), some (.ref (E.1 ir)), some (.int (nI (it (cntF (fun k => decide (a k < 0))) v.1 0))), some (.int (nI v.1))] []
    refine r_iload_n (pc := 4) C dX7_countNegative_4 rfl ?_
    refine r_aload_n (pc := 5) C dX7_countNegative_5 rfl ?_
    refine r_getf (pc := 6) C dX7_countNegative_6 fl_RX7_14 ho rfl ?_
    refine r_getf (pc := 9) C dX7_countNegative_9 fl_RX7_78 hs.1 rfl ?_
    refine r_icmp_ge (pc := 12) (tgt := 30) C dX7_countNegative_12 (by decide) (fun h12 => ?_) (fun h12 => ?_)
    · have h12 := c_le (by omega) (by omega) h12
      refine r_iload_n (pc := 30) C dX7_countNegative_30 rfl ?_
      exact r_iret (pc := 31) C Z dX7_countNegative_31 rfl (⟨rfl, rfl⟩)
    · have h12 := c_nle (by omega) (by omega) h12
      omega
  · show G M S E (0, 0) g 4 [some (.ref (E.1 0)), some (.ref (E.1 ir)), some (.int (nI (it (cntF (fun k => decide (a k < 0))) t 0))), some (.int (nI t))] []
    refine r_iload_n (pc := 4) C dX7_countNegative_4 rfl ?_
    refine r_aload_n (pc := 5) C dX7_countNegative_5 rfl ?_
    refine r_getf (pc := 6) C dX7_countNegative_6 fl_RX7_14 ho rfl ?_
    refine r_getf (pc := 9) C dX7_countNegative_9 fl_RX7_78 hs.1 rfl ?_
    refine r_icmp_ge (pc := 12) (tgt := 30) C dX7_countNegative_12 (by decide) (fun h12 => ?_) (fun h12 => ?_)
    · have h12 := c_le (by omega) (by omega) h12
      omega
    · have h12 := c_nle (by omega) (by omega) h12
      refine r_aload_n (pc := 15) C dX7_countNegative_15 rfl ?_
      refine r_iload_n (pc := 16) C dX7_countNegative_16 rfl ?_
      refine r_iald (pc := 17) C dX7_countNegative_17 hra rfl (by omega) (by omega) ?_
      refine r_if_ge (pc := 18) (tgt := 24) C dX7_countNegative_18 (by decide) (fun h18 => ?_) (fun h18 => ?_)
      · rw [show it (cntF (fun k => decide (a k < 0))) t 0 = it (cntF (fun k => decide (a k < 0))) (t + 1) 0 from cnt_f (p := (fun k => decide (a k < 0))) (decide_eq_false (Int32.not_lt.mpr h18))]
        refine r_iinc (pc := 24) (v := nI (t + 1)) C dX7_countNegative_24 rfl (nI_i1 _) (by decide) ?_
        refine G.eq (pc' := 27) (vs' := [some (.ref (E.1 0)), some (.ref (E.1 ir)), some (.int (nI (it (cntF (fun k => decide (a k < 0))) (t + 1) 0))), some (.int (nI (t + 1)))]) (st' := []) ?_
        refine r_goto (pc := 27) (tgt := 4) C dX7_countNegative_27 (by decide) ?_
        exact ih
      · refine r_iinc (pc := 21) (v := nI (it (cntF (fun k => decide (a k < 0))) t 0 + 1)) C dX7_countNegative_21 rfl (nI_i1 _) (by decide) ?_
        refine G.eq (pc' := 24) (vs' := [some (.ref (E.1 0)), some (.ref (E.1 ir)), some (.int (nI (it (cntF (fun k => decide (a k < 0))) t 0 + 1))), some (.int (nI t))]) (st' := []) ?_
        rw [show it (cntF (fun k => decide (a k < 0))) t 0 + 1 = it (cntF (fun k => decide (a k < 0))) (t + 1) 0 from cnt_t (p := (fun k => decide (a k < 0))) (decide_eq_true (Int32.not_le.mp h18))]
        refine r_iinc (pc := 24) (v := nI (t + 1)) C dX7_countNegative_24 rfl (nI_i1 _) (by decide) ?_
        refine G.eq (pc' := 27) (vs' := [some (.ref (E.1 0)), some (.ref (E.1 ir)), some (.int (nI (it (cntF (fun k => decide (a k < 0))) (t + 1) 0))), some (.int (nI (t + 1)))]) (st' := []) ?_
        refine r_goto (pc := 27) (tgt := 4) C dX7_countNegative_27 (by decide) ?_
        exact ih
def sgF (a : Nat → Int32) (t : Nat) (s : Nat × Int32) : Nat × Int32 := if cmpI (a t) (nI 0) = 0 then s else (if cmpI (a t) (nI 0) = -s.2 then s.1 + 1 else s.1, cmpI (a t) (nI 0))
def laF (a : Nat → Int32) (t : Nat) (m : Int32) : Int32 := maxI m (absI (a t))
def rcF (a : Nat → Int32) (t : Nat) (s : Nat × Int32) : Nat × Int32 := if a (1 + t) ≤ s.2 then s else (s.1 + 1, a (1 + t))
set_option maxHeartbeats 4000000 in
set_option maxRecDepth 100000 in
theorem c_X7_countSignChanges {S : ST} {E : ET} {g : Nat → va_E} {hsn : Bool} {v v2 : SV} {rem rem2 : Nat → PV} {pt inp : Nat × (Nat → Nat)} {out : BV} {sl : Nat → SlV} (hB : BC S E g (hsn, v, rem, v2, rem2, pt, inp, out, sl)) (hO : SOk v) {ir : Nat} {a : Nat → Int32} (hra : Ce E g ir (xI S 24 a)) : CtI S E yX7_countSignChanges cX7_countSignChanges 6 (Option.some FieldType.int) rmX7_countSignChanges [.ref (E.1 0), .ref (E.1 ir)] g (fun u g' => u = nI (it (sgF a) v.1 (0, nI 0)).1 ∧ g = g') := by
  refine Ct.of RX7 (by decide +kernel) rfl (Nat.le_of_ble_eq_true rfl) (fun M C Z => ?_)
  refine G.eq (pc' := 0) (vs' := [some (.ref (E.1 0)), some (.ref (E.1 ir)), none, none, none, none]) (st' := []) ?_
  obtain ⟨ho, hL, hV, hSc, hWy, hPt, hIn, hOu, hSl⟩ := id hB
  have ho : Ce E g 0 (.inr (7, [.ref (E.1 1), .ref (E.1 127), .int (b2i hsn), .ref (E.1 253), .ref (E.1 266), .ref (E.1 268), .ref (E.1 270), .ref (E.1 271), .ref (E.1 273), .ref (E.1 275), .ref (E.1 277)])) := ho
  have hL : StL S E g 1 v rem := hL
  obtain ⟨pi, ra, hs, hl⟩ := id hL
  obtain ⟨hN4, hN, hr1⟩ := id hO
  refine r_iconst (pc := 0) (v := nI 0) C dX7_countSignChanges_0 (by decide +kernel) ?_
  refine r_istore_n (pc := 1) C dX7_countSignChanges_1 (by decide) ?_
  refine G.eq (pc' := 2) (vs' := [some (.ref (E.1 0)), some (.ref (E.1 ir)), some (.int (nI 0)), none, none, none]) (st' := []) ?_
  refine r_iconst (pc := 2) (v := nI 0) C dX7_countSignChanges_2 (by decide +kernel) ?_
  refine r_istore_n (pc := 3) C dX7_countSignChanges_3 (by decide) ?_
  refine G.eq (pc' := 4) (vs' := [some (.ref (E.1 0)), some (.ref (E.1 ir)), some (.int (nI 0)), some (.int (nI 0)), none, none]) (st' := []) ?_
  refine r_iconst (pc := 4) (v := nI 0) C dX7_countSignChanges_4 (by decide +kernel) ?_
  refine r_istore (pc := 5) C dX7_countSignChanges_5 (by decide) ?_
  refine G.eq (pc' := 7) (vs' := [some (.ref (E.1 0)), some (.ref (E.1 ir)), some (.int (nI 0)), some (.int (nI 0)), some (.int (nI 0)), none]) (st' := []) ?_
  refine bk (P := fun t => G M S E (0, 0) g 7 [some (.ref (E.1 0)), some (.ref (E.1 ir)), some (.int (nI ((it (sgF a) t (0, nI 0)).1))), some (.int ((it (sgF a) t (0, nI 0)).2)), some (.int (nI t)), none] []) (T := v.1) ?_ (fun t ht ih => ?_)
  · show G M S E (0, 0) g 7 [some (.ref (E.1 0)), some (.ref (E.1 ir)), some (.int (nI ((it (sgF a) v.1 (0, nI 0)).1))), some (.int ((it (sgF a) v.1 (0, nI 0)).2)), some (.int (nI v.1)), none] []
    refine r_iload (pc := 7) C dX7_countSignChanges_7 rfl ?_
    refine r_aload_n (pc := 9) C dX7_countSignChanges_9 rfl ?_
    refine r_getf (pc := 10) C dX7_countSignChanges_10 fl_RX7_14 ho rfl ?_
    refine r_getf (pc := 13) C dX7_countSignChanges_13 fl_RX7_78 hs.1 rfl ?_
    refine r_icmp_ge (pc := 16) (tgt := 53) C dX7_countSignChanges_16 (by decide) (fun h16 => ?_) (fun h16 => ?_)
    · have h16 := c_le (by omega) (by omega) h16
      refine r_iload_n (pc := 53) C dX7_countSignChanges_53 rfl ?_
      exact r_iret (pc := 54) C Z dX7_countSignChanges_54 rfl (⟨rfl, rfl⟩)
    · have h16 := c_nle (by omega) (by omega) h16
      omega
  · show G M S E (0, 0) g 7 [some (.ref (E.1 0)), some (.ref (E.1 ir)), some (.int (nI ((it (sgF a) t (0, nI 0)).1))), some (.int ((it (sgF a) t (0, nI 0)).2)), some (.int (nI t)), none] []
    refine r_iload (pc := 7) C dX7_countSignChanges_7 rfl ?_
    refine r_aload_n (pc := 9) C dX7_countSignChanges_9 rfl ?_
    refine r_getf (pc := 10) C dX7_countSignChanges_10 fl_RX7_14 ho rfl ?_
    refine r_getf (pc := 13) C dX7_countSignChanges_13 fl_RX7_78 hs.1 rfl ?_
    refine r_icmp_ge (pc := 16) (tgt := 53) C dX7_countSignChanges_16 (by decide) (fun h16 => ?_) (fun h16 => ?_)
    · have h16 := c_le (by omega) (by omega) h16
      omega
    · have h16 := c_nle (by omega) (by omega) h16
      refine r_aload_n (pc := 19) C dX7_countSignChanges_19 rfl ?_
      refine r_iload (pc := 20) C dX7_countSignChanges_20 rfl ?_
      refine r_iald (pc := 22) C dX7_countSignChanges_22 hra rfl (by omega) (by omega) ?_
      refine r_iconst (pc := 23) (v := nI 0) C dX7_countSignChanges_23 (by decide +kernel) ?_
      refine r_callS (pc := 24) C dX7_countSignChanges_24 cs_RX7_340 (c_J6_compare (a t) (nI 0)) ⟨rfl, rfl, by decide, by decide⟩ rfl rfl (Nat.le_of_ble_eq_true rfl) ⟨Nat.zero_le _, Nat.zero_le _⟩ ?_
      rintro _ _ ⟨_, rfl, rfl, rfl⟩
      show G M S E (0, 0) g 27 [some (.ref (E.1 0)), some (.ref (E.1 ir)), some (.int (nI ((it (sgF a) t (0, nI 0)).1))), some (.int ((it (sgF a) t (0, nI 0)).2)), some (.int (nI t)), none] [.int (cmpI (a t) (nI 0))]
      refine r_istore (pc := 27) C dX7_countSignChanges_27 (by decide) ?_
      refine G.eq (pc' := 29) (vs' := [some (.ref (E.1 0)), some (.ref (E.1 ir)), some (.int (nI ((it (sgF a) t (0, nI 0)).1))), some (.int ((it (sgF a) t (0, nI 0)).2)), some (.int (nI t)), some (.int (cmpI (a t) (nI 0)))]) (st' := []) ?_
      refine r_iload (pc := 29) C dX7_countSignChanges_29 rfl ?_
      refine r_if_eq (pc := 31) (tgt := 47) C dX7_countSignChanges_31 (by decide) (fun h31 => ?_) (fun h31 => ?_)
      · refine r_iinc (pc := 47) (v := nI (t + 1)) C dX7_countSignChanges_47 rfl (nI_i1 _) (by decide) ?_
        refine G.eq (pc' := 50) (vs' := [some (.ref (E.1 0)), some (.ref (E.1 ir)), some (.int (nI ((it (sgF a) t (0, nI 0)).1))), some (.int ((it (sgF a) t (0, nI 0)).2)), some (.int (nI (t + 1))), some (.int (cmpI (a t) (nI 0)))]) (st' := []) ?_
        refine r_goto (pc := 50) (tgt := 7) C dX7_countSignChanges_50 (by decide) ?_
        rw [show (it (sgF a) (t + 1) (0, nI 0)) = (it (sgF a) t (0, nI 0)) from if_pos h31] at ih
        refine G.wk (vs' := [some (.ref (E.1 0)), some (.ref (E.1 ir)), some (.int (nI ((it (sgF a) t (0, nI 0)).1))), some (.int ((it (sgF a) t (0, nI 0)).2)), some (.int (nI (t + 1))), none]) ⟨rfl, rfl, rfl, rfl, rfl, trivial⟩ ?_
        exact ih
      · refine r_iload (pc := 34) C dX7_countSignChanges_34 rfl ?_
        refine r_iload_n (pc := 36) C dX7_countSignChanges_36 rfl ?_
        refine r_ineg (pc := 37) C dX7_countSignChanges_37 ?_
        refine r_icmp_ne (pc := 38) (tgt := 44) C dX7_countSignChanges_38 (by decide) (fun h38 => ?_) (fun h38 => ?_)
        · refine r_iload (pc := 44) C dX7_countSignChanges_44 rfl ?_
          refine r_istore_n (pc := 46) C dX7_countSignChanges_46 (by decide) ?_
          refine G.eq (pc' := 47) (vs' := [some (.ref (E.1 0)), some (.ref (E.1 ir)), some (.int (nI ((it (sgF a) t (0, nI 0)).1))), some (.int (cmpI (a t) (nI 0))), some (.int (nI t)), some (.int (cmpI (a t) (nI 0)))]) (st' := []) ?_
          refine r_iinc (pc := 47) (v := nI (t + 1)) C dX7_countSignChanges_47 rfl (nI_i1 _) (by decide) ?_
          refine G.eq (pc' := 50) (vs' := [some (.ref (E.1 0)), some (.ref (E.1 ir)), some (.int (nI ((it (sgF a) t (0, nI 0)).1))), some (.int (cmpI (a t) (nI 0))), some (.int (nI (t + 1))), some (.int (cmpI (a t) (nI 0)))]) (st' := []) ?_
          refine r_goto (pc := 50) (tgt := 7) C dX7_countSignChanges_50 (by decide) ?_
          rw [show (it (sgF a) (t + 1) (0, nI 0)) = ((it (sgF a) t (0, nI 0)).1, cmpI (a t) (nI 0)) by show sgF a t _ = _; rw [sgF, if_neg h31, if_neg h38]] at ih
          refine G.wk (vs' := [some (.ref (E.1 0)), some (.ref (E.1 ir)), some (.int (nI ((it (sgF a) t (0, nI 0)).1))), some (.int (cmpI (a t) (nI 0))), some (.int (nI (t + 1))), none]) ⟨rfl, rfl, rfl, rfl, rfl, trivial⟩ ?_
          exact ih
        · refine r_iinc (pc := 41) (v := nI ((it (sgF a) t (0, nI 0)).1 + 1)) C dX7_countSignChanges_41 rfl (nI_i1 _) (by decide) ?_
          refine G.eq (pc' := 44) (vs' := [some (.ref (E.1 0)), some (.ref (E.1 ir)), some (.int (nI ((it (sgF a) t (0, nI 0)).1 + 1))), some (.int ((it (sgF a) t (0, nI 0)).2)), some (.int (nI t)), some (.int (cmpI (a t) (nI 0)))]) (st' := []) ?_
          refine r_iload (pc := 44) C dX7_countSignChanges_44 rfl ?_
          refine r_istore_n (pc := 46) C dX7_countSignChanges_46 (by decide) ?_
          refine G.eq (pc' := 47) (vs' := [some (.ref (E.1 0)), some (.ref (E.1 ir)), some (.int (nI ((it (sgF a) t (0, nI 0)).1 + 1))), some (.int (cmpI (a t) (nI 0))), some (.int (nI t)), some (.int (cmpI (a t) (nI 0)))]) (st' := []) ?_
          refine r_iinc (pc := 47) (v := nI (t + 1)) C dX7_countSignChanges_47 rfl (nI_i1 _) (by decide) ?_
          refine G.eq (pc' := 50) (vs' := [some (.ref (E.1 0)), some (.ref (E.1 ir)), some (.int (nI ((it (sgF a) t (0, nI 0)).1 + 1))), some (.int (cmpI (a t) (nI 0))), some (.int (nI (t + 1))), some (.int (cmpI (a t) (nI 0)))]) (st' := []) ?_
          refine r_goto (pc := 50) (tgt := 7) C dX7_countSignChanges_50 (by decide) ?_
          rw [show (it (sgF a) (t + 1) (0, nI 0)) = ((it (sgF a) t (0, nI 0)).1 + 1, cmpI (a t) (nI 0)) by show sgF a t _ = _; rw [sgF, if_neg h31, if_pos h38]] at ih
          refine G.wk (vs' := [some (.ref (E.1 0)), some (.ref (E.1 ir)), some (.int (nI ((it (sgF a) t (0, nI 0)).1 + 1))), some (.int (cmpI (a t) (nI 0))), some (.int (nI (t + 1))), none]) ⟨rfl, rfl, rfl, rfl, rfl, trivial⟩ ?_
          exact ih
set_option maxHeartbeats 4000000 in
set_option maxRecDepth 100000 in
theorem c_X7_largestAbsolute {S : ST} {E : ET} {g : Nat → va_E} {hsn : Bool} {v v2 : SV} {rem rem2 : Nat → PV} {pt inp : Nat × (Nat → Nat)} {out : BV} {sl : Nat → SlV} (hB : BC S E g (hsn, v, rem, v2, rem2, pt, inp, out, sl)) (hO : SOk v) {ir : Nat} {a : Nat → Int32} (hra : Ce E g ir (xI S 24 a)) : CtI S E yX7_largestAbsolute cX7_largestAbsolute 4 (Option.some FieldType.int) rmX7_largestAbsolute [.ref (E.1 0), .ref (E.1 ir)] g (fun u g' => u = it (laF a) v.1 (nI 0) ∧ g = g') := by
  refine Ct.of RX7 (by decide +kernel) rfl (Nat.le_of_ble_eq_true rfl) (fun M C Z => ?_)
  refine G.eq (pc' := 0) (vs' := [some (.ref (E.1 0)), some (.ref (E.1 ir)), none, none]) (st' := []) ?_
  obtain ⟨ho, hL, hV, hSc, hWy, hPt, hIn, hOu, hSl⟩ := id hB
  have ho : Ce E g 0 (.inr (7, [.ref (E.1 1), .ref (E.1 127), .int (b2i hsn), .ref (E.1 253), .ref (E.1 266), .ref (E.1 268), .ref (E.1 270), .ref (E.1 271), .ref (E.1 273), .ref (E.1 275), .ref (E.1 277)])) := ho
  have hL : StL S E g 1 v rem := hL
  obtain ⟨pi, ra, hs, hl⟩ := id hL
  obtain ⟨hN4, hN, hr1⟩ := id hO
  refine r_iconst (pc := 0) (v := nI 0) C dX7_largestAbsolute_0 (by decide +kernel) ?_
  refine r_istore_n (pc := 1) C dX7_largestAbsolute_1 (by decide) ?_
  refine G.eq (pc' := 2) (vs' := [some (.ref (E.1 0)), some (.ref (E.1 ir)), some (.int (nI 0)), none]) (st' := []) ?_
  refine r_iconst (pc := 2) (v := nI 0) C dX7_largestAbsolute_2 (by decide +kernel) ?_
  refine r_istore_n (pc := 3) C dX7_largestAbsolute_3 (by decide) ?_
  refine G.eq (pc' := 4) (vs' := [some (.ref (E.1 0)), some (.ref (E.1 ir)), some (.int (nI 0)), some (.int (nI 0))]) (st' := []) ?_
  refine bk (P := fun t => G M S E (0, 0) g 4 [some (.ref (E.1 0)), some (.ref (E.1 ir)), some (.int (it (laF a) t (nI 0))), some (.int (nI t))] []) (T := v.1) ?_ (fun t ht ih => ?_)
  · show G M S E (0, 0) g 4 [some (.ref (E.1 0)), some (.ref (E.1 ir)), some (.int (it (laF a) v.1 (nI 0))), some (.int (nI v.1))] []
    refine r_iload_n (pc := 4) C dX7_largestAbsolute_4 rfl ?_
    refine r_aload_n (pc := 5) C dX7_largestAbsolute_5 rfl ?_
    refine r_getf (pc := 6) C dX7_largestAbsolute_6 fl_RX7_14 ho rfl ?_
    refine r_getf (pc := 9) C dX7_largestAbsolute_9 fl_RX7_78 hs.1 rfl ?_
    refine r_icmp_ge (pc := 12) (tgt := 32) C dX7_largestAbsolute_12 (by decide) (fun h12 => ?_) (fun h12 => ?_)
    · have h12 := c_le (by omega) (by omega) h12
      refine r_iload_n (pc := 32) C dX7_largestAbsolute_32 rfl ?_
      exact r_iret (pc := 33) C Z dX7_largestAbsolute_33 rfl (⟨rfl, rfl⟩)
    · have h12 := c_nle (by omega) (by omega) h12
      omega
  · show G M S E (0, 0) g 4 [some (.ref (E.1 0)), some (.ref (E.1 ir)), some (.int (it (laF a) t (nI 0))), some (.int (nI t))] []
    refine r_iload_n (pc := 4) C dX7_largestAbsolute_4 rfl ?_
    refine r_aload_n (pc := 5) C dX7_largestAbsolute_5 rfl ?_
    refine r_getf (pc := 6) C dX7_largestAbsolute_6 fl_RX7_14 ho rfl ?_
    refine r_getf (pc := 9) C dX7_largestAbsolute_9 fl_RX7_78 hs.1 rfl ?_
    refine r_icmp_ge (pc := 12) (tgt := 32) C dX7_largestAbsolute_12 (by decide) (fun h12 => ?_) (fun h12 => ?_)
    · have h12 := c_le (by omega) (by omega) h12
      omega
    · have h12 := c_nle (by omega) (by omega) h12
      refine r_iload_n (pc := 15) C dX7_largestAbsolute_15 rfl ?_
      refine r_aload_n (pc := 16) C dX7_largestAbsolute_16 rfl ?_
      refine r_iload_n (pc := 17) C dX7_largestAbsolute_17 rfl ?_
      refine r_iald (pc := 18) C dX7_largestAbsolute_18 hra rfl (by omega) (by omega) ?_
      refine r_mabs (pc := 19) C dX7_largestAbsolute_19 qM_RX7_345 (by decide) (Nat.le_of_ble_eq_true rfl) ⟨Nat.zero_le _, Nat.zero_le _⟩ ?_
      refine r_mmax (pc := 22) C dX7_largestAbsolute_22 qM_RX7_348 (by decide) (Nat.le_of_ble_eq_true rfl) ⟨Nat.zero_le _, Nat.zero_le _⟩ ?_
      refine r_istore_n (pc := 25) C dX7_largestAbsolute_25 (by decide) ?_
      refine G.eq (pc' := 26) (vs' := [some (.ref (E.1 0)), some (.ref (E.1 ir)), some (.int (maxI (it (laF a) t (nI 0)) (absI (a t)))), some (.int (nI t))]) (st' := []) ?_
      refine r_iinc (pc := 26) (v := nI (t + 1)) C dX7_largestAbsolute_26 rfl (nI_i1 _) (by decide) ?_
      refine G.eq (pc' := 29) (vs' := [some (.ref (E.1 0)), some (.ref (E.1 ir)), some (.int (maxI (it (laF a) t (nI 0)) (absI (a t)))), some (.int (nI (t + 1)))]) (st' := []) ?_
      refine r_goto (pc := 29) (tgt := 4) C dX7_largestAbsolute_29 (by decide) ?_
      exact ih
set_option maxHeartbeats 4000000 in
set_option maxRecDepth 100000 in
theorem c_X7_countRecords {S : ST} {E : ET} {g : Nat → va_E} {hsn : Bool} {v v2 : SV} {rem rem2 : Nat → PV} {pt inp : Nat × (Nat → Nat)} {out : BV} {sl : Nat → SlV} (hB : BC S E g (hsn, v, rem, v2, rem2, pt, inp, out, sl)) (hO : SOk v) {ir : Nat} {a : Nat → Int32} (hra : Ce E g ir (xI S 24 a)) : CtI S E yX7_countRecords cX7_countRecords 5 (Option.some FieldType.int) rmX7_countRecords [.ref (E.1 0), .ref (E.1 ir)] g (fun u g' => u = nI (it (rcF a) (v.1 - 1) (1, a 0)).1 ∧ g = g') := by
  refine Ct.of RX7 (by decide +kernel) rfl (Nat.le_of_ble_eq_true rfl) (fun M C Z => ?_)
  refine G.eq (pc' := 0) (vs' := [some (.ref (E.1 0)), some (.ref (E.1 ir)), none, none, none]) (st' := []) ?_
  obtain ⟨ho, hL, hV, hSc, hWy, hPt, hIn, hOu, hSl⟩ := id hB
  have ho : Ce E g 0 (.inr (7, [.ref (E.1 1), .ref (E.1 127), .int (b2i hsn), .ref (E.1 253), .ref (E.1 266), .ref (E.1 268), .ref (E.1 270), .ref (E.1 271), .ref (E.1 273), .ref (E.1 275), .ref (E.1 277)])) := ho
  have hL : StL S E g 1 v rem := hL
  obtain ⟨pi, ra, hs, hl⟩ := id hL
  obtain ⟨hN4, hN, hr1⟩ := id hO
  refine r_iconst (pc := 0) (v := nI 1) C dX7_countRecords_0 (by decide +kernel) ?_
  refine r_istore_n (pc := 1) C dX7_countRecords_1 (by decide) ?_
  refine G.eq (pc' := 2) (vs' := [some (.ref (E.1 0)), some (.ref (E.1 ir)), some (.int (nI 1)), none, none]) (st' := []) ?_
  refine r_aload_n (pc := 2) C dX7_countRecords_2 rfl ?_
  refine r_iconst (pc := 3) (v := nI 0) C dX7_countRecords_3 (by decide +kernel) ?_
  refine r_iald (pc := 4) C dX7_countRecords_4 hra rfl (by omega) (by omega) ?_
  refine r_istore_n (pc := 5) C dX7_countRecords_5 (by decide) ?_
  refine G.eq (pc' := 6) (vs' := [some (.ref (E.1 0)), some (.ref (E.1 ir)), some (.int (nI 1)), some (.int (a 0)), none]) (st' := []) ?_
  refine r_iconst (pc := 6) (v := nI 1) C dX7_countRecords_6 (by decide +kernel) ?_
  refine r_istore (pc := 7) C dX7_countRecords_7 (by decide) ?_
  refine G.eq (pc' := 9) (vs' := [some (.ref (E.1 0)), some (.ref (E.1 ir)), some (.int (nI 1)), some (.int (a 0)), some (.int (nI 1))]) (st' := []) ?_
  refine bk (P := fun t => G M S E (0, 0) g 9 [some (.ref (E.1 0)), some (.ref (E.1 ir)), some (.int (nI ((it (rcF a) t (1, a 0)).1))), some (.int ((it (rcF a) t (1, a 0)).2)), some (.int (nI (1 + t)))] []) (T := v.1 - 1) ?_ (fun t ht ih => ?_)
  · show G M S E (0, 0) g 9 [some (.ref (E.1 0)), some (.ref (E.1 ir)), some (.int (nI ((it (rcF a) (v.1 - 1) (1, a 0)).1))), some (.int ((it (rcF a) (v.1 - 1) (1, a 0)).2)), some (.int (nI (1 + (v.1 - 1))))] []
    refine r_iload (pc := 9) C dX7_countRecords_9 rfl ?_
    refine r_aload_n (pc := 11) C dX7_countRecords_11 rfl ?_
    refine r_getf (pc := 12) C dX7_countRecords_12 fl_RX7_14 ho rfl ?_
    refine r_getf (pc := 15) C dX7_countRecords_15 fl_RX7_78 hs.1 rfl ?_
    refine r_icmp_ge (pc := 18) (tgt := 43) C dX7_countRecords_18 (by decide) (fun h18 => ?_) (fun h18 => ?_)
    · have h18 := c_le (by omega) (by omega) h18
      refine r_iload_n (pc := 43) C dX7_countRecords_43 rfl ?_
      exact r_iret (pc := 44) C Z dX7_countRecords_44 rfl (⟨rfl, rfl⟩)
    · have h18 := c_nle (by omega) (by omega) h18
      omega
  · show G M S E (0, 0) g 9 [some (.ref (E.1 0)), some (.ref (E.1 ir)), some (.int (nI ((it (rcF a) t (1, a 0)).1))), some (.int ((it (rcF a) t (1, a 0)).2)), some (.int (nI (1 + t)))] []
    refine r_iload (pc := 9) C dX7_countRecords_9 rfl ?_
    refine r_aload_n (pc := 11) C dX7_countRecords_11 rfl ?_
    refine r_getf (pc := 12) C dX7_countRecords_12 fl_RX7_14 ho rfl ?_
    refine r_getf (pc := 15) C dX7_countRecords_15 fl_RX7_78 hs.1 rfl ?_
    refine r_icmp_ge (pc := 18) (tgt := 43) C dX7_countRecords_18 (by decide) (fun h18 => ?_) (fun h18 => ?_)
    · have h18 := c_le (by omega) (by omega) h18
      omega
    · have h18 := c_nle (by omega) (by omega) h18
      refine r_aload_n (pc := 21) C dX7_countRecords_21 rfl ?_
      refine r_iload (pc := 22) C dX7_countRecords_22 rfl ?_
      refine r_iald (pc := 24) C dX7_countRecords_24 hra rfl (by omega) (by omega) ?_
      refine r_iload_n (pc := 25) C dX7_countRecords_25 rfl ?_
      refine r_icmp_le (pc := 26) (tgt := 37) C dX7_countRecords_26 (by decide) (fun h26 => ?_) (fun h26 => ?_)
      · refine r_iinc (pc := 37) (v := nI (1 + t + 1)) C dX7_countRecords_37 rfl (nI_i1 _) (by decide) ?_
        refine G.eq (pc' := 40) (vs' := [some (.ref (E.1 0)), some (.ref (E.1 ir)), some (.int (nI ((it (rcF a) t (1, a 0)).1))), some (.int ((it (rcF a) t (1, a 0)).2)), some (.int (nI (1 + t + 1)))]) (st' := []) ?_
        refine r_goto (pc := 40) (tgt := 9) C dX7_countRecords_40 (by decide) ?_
        rw [show (it (rcF a) (t + 1) (1, a 0)) = (it (rcF a) t (1, a 0)) from if_pos h26] at ih
        exact ih
      · refine r_aload_n (pc := 29) C dX7_countRecords_29 rfl ?_
        refine r_iload (pc := 30) C dX7_countRecords_30 rfl ?_
        refine r_iald (pc := 32) C dX7_countRecords_32 hra rfl (by omega) (by omega) ?_
        refine r_istore_n (pc := 33) C dX7_countRecords_33 (by decide) ?_
        refine G.eq (pc' := 34) (vs' := [some (.ref (E.1 0)), some (.ref (E.1 ir)), some (.int (nI ((it (rcF a) t (1, a 0)).1))), some (.int (a (1 + t))), some (.int (nI (1 + t)))]) (st' := []) ?_
        refine r_iinc (pc := 34) (v := nI ((it (rcF a) t (1, a 0)).1 + 1)) C dX7_countRecords_34 rfl (nI_i1 _) (by decide) ?_
        refine G.eq (pc' := 37) (vs' := [some (.ref (E.1 0)), some (.ref (E.1 ir)), some (.int (nI ((it (rcF a) t (1, a 0)).1 + 1))), some (.int (a (1 + t))), some (.int (nI (1 + t)))]) (st' := []) ?_
        refine r_iinc (pc := 37) (v := nI (1 + t + 1)) C dX7_countRecords_37 rfl (nI_i1 _) (by decide) ?_
        refine G.eq (pc' := 40) (vs' := [some (.ref (E.1 0)), some (.ref (E.1 ir)), some (.int (nI ((it (rcF a) t (1, a 0)).1 + 1))), some (.int (a (1 + t))), some (.int (nI (1 + t + 1)))]) (st' := []) ?_
        refine r_goto (pc := 40) (tgt := 9) C dX7_countRecords_40 (by decide) ?_
        rw [show (it (rcF a) (t + 1) (1, a 0)) = ((it (rcF a) t (1, a 0)).1 + 1, a (1 + t)) from if_neg h26] at ih
        exact ih
/-- one register before another -/
def cbB (N : Nat) (a b : Nat → Int32) (p q : Nat) : Bool := bif decide (lowP N a = lowP N b) then (bif decide (hiN a N = hiN b N) then decide (p < q) else decide (¬ hiN a N ≤ hiN b N)) else (decide (¬ lowP N a = -7) && (decide (lowP N b = -7) || decide (¬ lowP N b ≤ lowP N a)))
theorem dT {p : Prop} {d : Decidable p} (h : p) : @decide p d = true := decide_eq_true h
theorem dF {p : Prop} {d : Decidable p} (h : ¬ p) : @decide p d = false := decide_eq_false h
set_option maxHeartbeats 4000000 in
set_option maxRecDepth 100000 in
theorem c_X7_comesBefore {S : ST} {E : ET} {g : Nat → va_E} {hsn : Bool} {v v2 : SV} {rem rem2 : Nat → PV} {pt inp : Nat × (Nat → Nat)} {out : BV} {sl : Nat → SlV} (hB : BC S E g (hsn, v, rem, v2, rem2, pt, inp, out, sl)) (hO : SOk v) (p q : Nat) (hp : p < 6) (hq : q < 6) : CtI S E yX7_comesBefore cX7_comesBefore 7 (Option.some FieldType.boolean) rmX7_comesBefore [.ref (E.1 0), .int (nI p), .int (nI q)] g (fun u g' => u = b2i (cbB v.1 (v.2.1 p) (v.2.1 q) p q) ∧ g = g') := by
  refine Ct.of RX7 (by decide +kernel) rfl (Nat.le_of_ble_eq_true rfl) (fun M C Z => ?_)
  refine G.eq (pc' := 0) (vs' := [some (.ref (E.1 0)), some (.int (nI p)), some (.int (nI q)), none, none, none, none]) (st' := []) ?_
  obtain ⟨ho, hL, hV, hSc, hWy, hPt, hIn, hOu, hSl⟩ := id hB
  have ho : Ce E g 0 (.inr (7, [.ref (E.1 1), .ref (E.1 127), .int (b2i hsn), .ref (E.1 253), .ref (E.1 266), .ref (E.1 268), .ref (E.1 270), .ref (E.1 271), .ref (E.1 273), .ref (E.1 275), .ref (E.1 277)])) := ho
  have hL : StL S E g 1 v rem := hL
  obtain ⟨pi, ra, hs, hl⟩ := id hL
  obtain ⟨hN4, hN, hr1⟩ := id hO
  refine r_aload_n (pc := 0) C dX7_comesBefore_0 rfl ?_
  refine r_aload_n (pc := 1) C dX7_comesBefore_1 rfl ?_
  refine r_getf (pc := 2) C dX7_comesBefore_2 fl_RX7_14 ho rfl ?_
  refine r_getf (pc := 5) C dX7_comesBefore_5 fl_RX7_91 hs.1 rfl ?_
  refine r_iload_n (pc := 8) C dX7_comesBefore_8 rfl ?_
  refine r_aald (pc := 9) C dX7_comesBefore_9 hs.2.1 rfl rfl rfl (by omega) (by omega) rfl ?_
  refine r_callV (pc := 10) C dX7_comesBefore_10 cv_RX7_97 (c_X7_lowestPower hB hO (hs.2.2.2.1 p (by omega))) ⟨rfl, rfl, by decide, by decide⟩ ho rfl rfl (Nat.le_of_ble_eq_true rfl) ⟨Nat.zero_le _, Nat.zero_le _⟩ ?_
  rintro _ _ ⟨_, rfl, rfl, rfl⟩
  show G M S E (0, 0) g 13 [some (.ref (E.1 0)), some (.int (nI p)), some (.int (nI q)), none, none, none, none] [.int (lowP v.1 (v.2.1 p))]
  refine r_istore_n (pc := 13) C dX7_comesBefore_13 (by decide) ?_
  refine G.eq (pc' := 14) (vs' := [some (.ref (E.1 0)), some (.int (nI p)), some (.int (nI q)), some (.int (lowP v.1 (v.2.1 p))), none, none, none]) (st' := []) ?_
  refine r_aload_n (pc := 14) C dX7_comesBefore_14 rfl ?_
  refine r_aload_n (pc := 15) C dX7_comesBefore_15 rfl ?_
  refine r_getf (pc := 16) C dX7_comesBefore_16 fl_RX7_14 ho rfl ?_
  refine r_getf (pc := 19) C dX7_comesBefore_19 fl_RX7_91 hs.1 rfl ?_
  refine r_iload_n (pc := 22) C dX7_comesBefore_22 rfl ?_
  refine r_aald (pc := 23) C dX7_comesBefore_23 hs.2.1 rfl rfl rfl (by omega) (by omega) rfl ?_
  refine r_callV (pc := 24) C dX7_comesBefore_24 cv_RX7_97 (c_X7_lowestPower hB hO (hs.2.2.2.1 q (by omega))) ⟨rfl, rfl, by decide, by decide⟩ ho rfl rfl (Nat.le_of_ble_eq_true rfl) ⟨Nat.zero_le _, Nat.zero_le _⟩ ?_
  rintro _ _ ⟨_, rfl, rfl, rfl⟩
  show G M S E (0, 0) g 27 [some (.ref (E.1 0)), some (.int (nI p)), some (.int (nI q)), some (.int (lowP v.1 (v.2.1 p))), none, none, none] [.int (lowP v.1 (v.2.1 q))]
  refine r_istore (pc := 27) C dX7_comesBefore_27 (by decide) ?_
  refine G.eq (pc' := 29) (vs' := [some (.ref (E.1 0)), some (.int (nI p)), some (.int (nI q)), some (.int (lowP v.1 (v.2.1 p))), some (.int (lowP v.1 (v.2.1 q))), none, none]) (st' := []) ?_
  refine r_iload_n (pc := 29) C dX7_comesBefore_29 rfl ?_
  refine r_iload (pc := 30) C dX7_comesBefore_30 rfl ?_
  refine r_icmp_eq (pc := 32) (tgt := 60) C dX7_comesBefore_32 (by decide) (fun h32 => ?_) (fun h32 => ?_)
  · refine r_aload_n (pc := 60) C dX7_comesBefore_60 rfl ?_
    refine r_aload_n (pc := 61) C dX7_comesBefore_61 rfl ?_
    refine r_getf (pc := 62) C dX7_comesBefore_62 fl_RX7_14 ho rfl ?_
    refine r_getf (pc := 65) C dX7_comesBefore_65 fl_RX7_91 hs.1 rfl ?_
    refine r_iload_n (pc := 68) C dX7_comesBefore_68 rfl ?_
    refine r_aald (pc := 69) C dX7_comesBefore_69 hs.2.1 rfl rfl rfl (by omega) (by omega) rfl ?_
    refine r_callV (pc := 70) C dX7_comesBefore_70 cv_RX7_101 (c_X7_highestPower hB hO (hs.2.2.2.1 p (by omega))) ⟨rfl, rfl, by decide, by decide⟩ ho rfl rfl (Nat.le_of_ble_eq_true rfl) ⟨Nat.zero_le _, Nat.zero_le _⟩ ?_
    rintro _ _ ⟨_, rfl, rfl, rfl⟩
    show G M S E (0, 0) g 73 [some (.ref (E.1 0)), some (.int (nI p)), some (.int (nI q)), some (.int (lowP v.1 (v.2.1 p))), some (.int (lowP v.1 (v.2.1 q))), none, none] [.int (hiN (v.2.1 p) v.1)]
    refine r_istore (pc := 73) C dX7_comesBefore_73 (by decide) ?_
    refine G.eq (pc' := 75) (vs' := [some (.ref (E.1 0)), some (.int (nI p)), some (.int (nI q)), some (.int (lowP v.1 (v.2.1 p))), some (.int (lowP v.1 (v.2.1 q))), some (.int (hiN (v.2.1 p) v.1)), none]) (st' := []) ?_
    refine r_aload_n (pc := 75) C dX7_comesBefore_75 rfl ?_
    refine r_aload_n (pc := 76) C dX7_comesBefore_76 rfl ?_
    refine r_getf (pc := 77) C dX7_comesBefore_77 fl_RX7_14 ho rfl ?_
    refine r_getf (pc := 80) C dX7_comesBefore_80 fl_RX7_91 hs.1 rfl ?_
    refine r_iload_n (pc := 83) C dX7_comesBefore_83 rfl ?_
    refine r_aald (pc := 84) C dX7_comesBefore_84 hs.2.1 rfl rfl rfl (by omega) (by omega) rfl ?_
    refine r_callV (pc := 85) C dX7_comesBefore_85 cv_RX7_101 (c_X7_highestPower hB hO (hs.2.2.2.1 q (by omega))) ⟨rfl, rfl, by decide, by decide⟩ ho rfl rfl (Nat.le_of_ble_eq_true rfl) ⟨Nat.zero_le _, Nat.zero_le _⟩ ?_
    rintro _ _ ⟨_, rfl, rfl, rfl⟩
    show G M S E (0, 0) g 88 [some (.ref (E.1 0)), some (.int (nI p)), some (.int (nI q)), some (.int (lowP v.1 (v.2.1 p))), some (.int (lowP v.1 (v.2.1 q))), some (.int (hiN (v.2.1 p) v.1)), none] [.int (hiN (v.2.1 q) v.1)]
    refine r_istore (pc := 88) C dX7_comesBefore_88 (by decide) ?_
    refine G.eq (pc' := 90) (vs' := [some (.ref (E.1 0)), some (.int (nI p)), some (.int (nI q)), some (.int (lowP v.1 (v.2.1 p))), some (.int (lowP v.1 (v.2.1 q))), some (.int (hiN (v.2.1 p) v.1)), some (.int (hiN (v.2.1 q) v.1))]) (st' := []) ?_
    refine r_iload (pc := 90) C dX7_comesBefore_90 rfl ?_
    refine r_iload (pc := 92) C dX7_comesBefore_92 rfl ?_
    refine r_icmp_eq (pc := 94) (tgt := 110) C dX7_comesBefore_94 (by decide) (fun h94 => ?_) (fun h94 => ?_)
    · refine r_iload_n (pc := 110) C dX7_comesBefore_110 rfl ?_
      refine r_iload_n (pc := 111) C dX7_comesBefore_111 rfl ?_
      refine r_icmp_ge (pc := 112) (tgt := 119) C dX7_comesBefore_112 (by decide) (fun h112 => ?_) (fun h112 => ?_)
      · have h112 := c_le (by omega) (by omega) h112
        refine r_iconst (pc := 119) (v := nI 0) C dX7_comesBefore_119 (by decide +kernel) ?_
        exact r_iret (pc := 120) C Z dX7_comesBefore_120 rfl (⟨by rw [show cbB v.1 (v.2.1 p) (v.2.1 q) p q = false by unfold cbB; rw [show decide ((lowP v.1 (v.2.1 p)) = (lowP v.1 (v.2.1 q))) = true from dT h32, show decide ((hiN (v.2.1 p) v.1) = (hiN (v.2.1 q) v.1)) = true from dT h94, show decide (p < q) = false from dF (by omega)]; rfl]; rfl, rfl⟩)
      · have h112 := c_nle (by omega) (by omega) h112
        refine r_iconst (pc := 115) (v := nI 1) C dX7_comesBefore_115 (by decide +kernel) ?_
        refine r_goto (pc := 116) (tgt := 120) C dX7_comesBefore_116 (by decide) ?_
        exact r_iret (pc := 120) C Z dX7_comesBefore_120 rfl (⟨by rw [show cbB v.1 (v.2.1 p) (v.2.1 q) p q = true by unfold cbB; rw [show decide ((lowP v.1 (v.2.1 p)) = (lowP v.1 (v.2.1 q))) = true from dT h32, show decide ((hiN (v.2.1 p) v.1) = (hiN (v.2.1 q) v.1)) = true from dT h94, show decide (p < q) = true from dT h112]; rfl]; rfl, rfl⟩)
    · refine r_iload (pc := 97) C dX7_comesBefore_97 rfl ?_
      refine r_iload (pc := 99) C dX7_comesBefore_99 rfl ?_
      refine r_icmp_le (pc := 101) (tgt := 108) C dX7_comesBefore_101 (by decide) (fun h101 => ?_) (fun h101 => ?_)
      · refine r_iconst (pc := 108) (v := nI 0) C dX7_comesBefore_108 (by decide +kernel) ?_
        exact r_iret (pc := 109) C Z dX7_comesBefore_109 rfl (⟨by rw [show cbB v.1 (v.2.1 p) (v.2.1 q) p q = false by unfold cbB; rw [show decide ((lowP v.1 (v.2.1 p)) = (lowP v.1 (v.2.1 q))) = true from dT h32, show decide ((hiN (v.2.1 p) v.1) = (hiN (v.2.1 q) v.1)) = false from dF h94, show decide (¬ (hiN (v.2.1 p) v.1) ≤ (hiN (v.2.1 q) v.1)) = false from dF (fun q => q h101)]; rfl]; rfl, rfl⟩)
      · refine r_iconst (pc := 104) (v := nI 1) C dX7_comesBefore_104 (by decide +kernel) ?_
        refine r_goto (pc := 105) (tgt := 109) C dX7_comesBefore_105 (by decide) ?_
        exact r_iret (pc := 109) C Z dX7_comesBefore_109 rfl (⟨by rw [show cbB v.1 (v.2.1 p) (v.2.1 q) p q = true by unfold cbB; rw [show decide ((lowP v.1 (v.2.1 p)) = (lowP v.1 (v.2.1 q))) = true from dT h32, show decide ((hiN (v.2.1 p) v.1) = (hiN (v.2.1 q) v.1)) = false from dF h94, show decide (¬ (hiN (v.2.1 p) v.1) ≤ (hiN (v.2.1 q) v.1)) = true from dT h101]; rfl]; rfl, rfl⟩)
  · refine r_iload_n (pc := 35) C dX7_comesBefore_35 rfl ?_
    refine r_bipush (pc := 36) (v := (-7)) C dX7_comesBefore_36 (by decide +kernel) ?_
    refine r_icmp_eq (pc := 38) (tgt := 58) C dX7_comesBefore_38 (by decide) (fun h38 => ?_) (fun h38 => ?_)
    · refine r_iconst (pc := 58) (v := nI 0) C dX7_comesBefore_58 (by decide +kernel) ?_
      exact r_iret (pc := 59) C Z dX7_comesBefore_59 rfl (⟨by rw [show cbB v.1 (v.2.1 p) (v.2.1 q) p q = false by unfold cbB; rw [show decide ((lowP v.1 (v.2.1 p)) = (lowP v.1 (v.2.1 q))) = false from dF h32, show decide (¬ (lowP v.1 (v.2.1 p)) = -7) = false from dF (fun q => q h38)]; rfl]; rfl, rfl⟩)
    · refine r_iload (pc := 41) C dX7_comesBefore_41 rfl ?_
      refine r_bipush (pc := 43) (v := (-7)) C dX7_comesBefore_43 (by decide +kernel) ?_
      refine r_icmp_eq (pc := 45) (tgt := 54) C dX7_comesBefore_45 (by decide) (fun h45 => ?_) (fun h45 => ?_)
      · refine r_iconst (pc := 54) (v := nI 1) C dX7_comesBefore_54 (by decide +kernel) ?_
        refine r_goto (pc := 55) (tgt := 59) C dX7_comesBefore_55 (by decide) ?_
        exact r_iret (pc := 59) C Z dX7_comesBefore_59 rfl (⟨by rw [show cbB v.1 (v.2.1 p) (v.2.1 q) p q = true by unfold cbB; rw [show decide ((lowP v.1 (v.2.1 p)) = (lowP v.1 (v.2.1 q))) = false from dF h32, show decide (¬ (lowP v.1 (v.2.1 p)) = -7) = true from dT h38, show decide ((lowP v.1 (v.2.1 q)) = -7) = true from dT h45]; rfl]; rfl, rfl⟩)
      · refine r_iload_n (pc := 48) C dX7_comesBefore_48 rfl ?_
        refine r_iload (pc := 49) C dX7_comesBefore_49 rfl ?_
        refine r_icmp_ge (pc := 51) (tgt := 58) C dX7_comesBefore_51 (by decide) (fun h51 => ?_) (fun h51 => ?_)
        · refine r_iconst (pc := 58) (v := nI 0) C dX7_comesBefore_58 (by decide +kernel) ?_
          exact r_iret (pc := 59) C Z dX7_comesBefore_59 rfl (⟨by rw [show cbB v.1 (v.2.1 p) (v.2.1 q) p q = false by unfold cbB; rw [show decide ((lowP v.1 (v.2.1 p)) = (lowP v.1 (v.2.1 q))) = false from dF h32, show decide (¬ (lowP v.1 (v.2.1 p)) = -7) = true from dT h38, show decide ((lowP v.1 (v.2.1 q)) = -7) = false from dF h45, show decide (¬ (lowP v.1 (v.2.1 q)) ≤ (lowP v.1 (v.2.1 p))) = false from dF (fun q => q h51)]; rfl]; rfl, rfl⟩)
        · refine r_iconst (pc := 54) (v := nI 1) C dX7_comesBefore_54 (by decide +kernel) ?_
          refine r_goto (pc := 55) (tgt := 59) C dX7_comesBefore_55 (by decide) ?_
          exact r_iret (pc := 59) C Z dX7_comesBefore_59 rfl (⟨by rw [show cbB v.1 (v.2.1 p) (v.2.1 q) p q = true by unfold cbB; rw [show decide ((lowP v.1 (v.2.1 p)) = (lowP v.1 (v.2.1 q))) = false from dF h32, show decide (¬ (lowP v.1 (v.2.1 p)) = -7) = true from dT h38, show decide ((lowP v.1 (v.2.1 q)) = -7) = false from dF h45, show decide (¬ (lowP v.1 (v.2.1 q)) ≤ (lowP v.1 (v.2.1 p))) = true from dT h51]; rfl]; rfl, rfl⟩)
set_option maxHeartbeats 4000000 in
set_option maxRecDepth 100000 in
theorem c_X7_rankOf {S : ST} {E : ET} {g : Nat → va_E} {hsn : Bool} {v v2 : SV} {rem rem2 : Nat → PV} {pt inp : Nat × (Nat → Nat)} {out : BV} {sl : Nat → SlV} (hB : BC S E g (hsn, v, rem, v2, rem2, pt, inp, out, sl)) (hO : SOk v) (p : Nat) (hp : p < 6) : CtI S E yX7_rankOf cX7_rankOf 4 (Option.some FieldType.int) rmX7_rankOf [.ref (E.1 0), .int (nI p)] g (fun u g' => u = nI (cntN (fun j => cbB v.1 (v.2.1 j) (v.2.1 p) j p) 6) ∧ g = g') := by
  refine Ct.of RX7 (by decide +kernel) rfl (Nat.le_of_ble_eq_true rfl) (fun M C Z => ?_)
  refine G.eq (pc' := 0) (vs' := [some (.ref (E.1 0)), some (.int (nI p)), none, none]) (st' := []) ?_
  obtain ⟨ho, hL, hV, hSc, hWy, hPt, hIn, hOu, hSl⟩ := id hB
  have ho : Ce E g 0 (.inr (7, [.ref (E.1 1), .ref (E.1 127), .int (b2i hsn), .ref (E.1 253), .ref (E.1 266), .ref (E.1 268), .ref (E.1 270), .ref (E.1 271), .ref (E.1 273), .ref (E.1 275), .ref (E.1 277)])) := ho
  have hL : StL S E g 1 v rem := hL
  obtain ⟨pi, ra, hs, hl⟩ := id hL
  obtain ⟨hN4, hN, hr1⟩ := id hO
  refine r_iconst (pc := 0) (v := nI 0) C dX7_rankOf_0 (by decide +kernel) ?_
  refine r_istore_n (pc := 1) C dX7_rankOf_1 (by decide) ?_
  refine G.eq (pc' := 2) (vs' := [some (.ref (E.1 0)), some (.int (nI p)), some (.int (nI 0)), none]) (st' := []) ?_
  refine r_iconst (pc := 2) (v := nI 0) C dX7_rankOf_2 (by decide +kernel) ?_
  refine r_istore_n (pc := 3) C dX7_rankOf_3 (by decide) ?_
  refine G.eq (pc' := 4) (vs' := [some (.ref (E.1 0)), some (.int (nI p)), some (.int (nI 0)), some (.int (nI 0))]) (st' := []) ?_
  refine bk (P := fun t => G M S E (0, 0) g 4 [some (.ref (E.1 0)), some (.int (nI p)), some (.int (nI (it (cntF (fun j => cbB v.1 (v.2.1 j) (v.2.1 p) j p)) t 0))), some (.int (nI t))] []) (T := 6) ?_ (fun t ht ih => ?_)
  · show G M S E (0, 0) g 4 [some (.ref (E.1 0)), some (.int (nI p)), some (.int (nI (it (cntF (fun j => cbB v.1 (v.2.1 j) (v.2.1 p) j p)) 6 0))), some (.int (nI 6))] []
    refine r_iload_n (pc := 4) C dX7_rankOf_4 rfl ?_
    refine r_bipush (pc := 5) (v := nI 6) C dX7_rankOf_5 (by decide +kernel) ?_
    refine r_icmp_ge (pc := 7) (tgt := 28) C dX7_rankOf_7 (by decide) (fun h7 => ?_) (fun h7 => ?_)
    · have h7 := c_le (by omega) (by omega) h7
      refine r_iload_n (pc := 28) C dX7_rankOf_28 rfl ?_
      exact r_iret (pc := 29) C Z dX7_rankOf_29 rfl (⟨rfl, rfl⟩)
    · have h7 := c_nle (by omega) (by omega) h7
      omega
  · show G M S E (0, 0) g 4 [some (.ref (E.1 0)), some (.int (nI p)), some (.int (nI (it (cntF (fun j => cbB v.1 (v.2.1 j) (v.2.1 p) j p)) t 0))), some (.int (nI t))] []
    refine r_iload_n (pc := 4) C dX7_rankOf_4 rfl ?_
    refine r_bipush (pc := 5) (v := nI 6) C dX7_rankOf_5 (by decide +kernel) ?_
    refine r_icmp_ge (pc := 7) (tgt := 28) C dX7_rankOf_7 (by decide) (fun h7 => ?_) (fun h7 => ?_)
    · have h7 := c_le (by omega) (by omega) h7
      omega
    · have h7 := c_nle (by omega) (by omega) h7
      refine r_aload_n (pc := 10) C dX7_rankOf_10 rfl ?_
      refine r_iload_n (pc := 11) C dX7_rankOf_11 rfl ?_
      refine r_iload_n (pc := 12) C dX7_rankOf_12 rfl ?_
      refine r_callV (pc := 13) C dX7_rankOf_13 cv_RX7_351 (c_X7_comesBefore hB hO t p (by omega) hp) ⟨rfl, rfl, by decide, by decide⟩ ho rfl rfl (Nat.le_of_ble_eq_true rfl) ⟨Nat.zero_le _, Nat.zero_le _⟩ ?_
      rintro _ _ ⟨_, rfl, rfl, rfl⟩
      show G M S E (0, 0) g 16 [some (.ref (E.1 0)), some (.int (nI p)), some (.int (nI (it (cntF (fun j => cbB v.1 (v.2.1 j) (v.2.1 p) j p)) t 0))), some (.int (nI t))] [.int (b2i (cbB v.1 (v.2.1 t) (v.2.1 p) t p))]
      refine r_if_eq (pc := 16) (tgt := 22) C dX7_rankOf_16 (by decide) (fun h16 => ?_) (fun h16 => ?_)
      · have h16 := b_f h16
        refine r_iinc (pc := 22) (v := nI (t + 1)) C dX7_rankOf_22 rfl (nI_i1 _) (by decide) ?_
        refine G.eq (pc' := 25) (vs' := [some (.ref (E.1 0)), some (.int (nI p)), some (.int (nI (it (cntF (fun j => cbB v.1 (v.2.1 j) (v.2.1 p) j p)) t 0))), some (.int (nI (t + 1)))]) (st' := []) ?_
        refine r_goto (pc := 25) (tgt := 4) C dX7_rankOf_25 (by decide) ?_
        rw [← cnt_f (p := (fun j => cbB v.1 (v.2.1 j) (v.2.1 p) j p)) h16] at ih
        exact ih
      · have h16 := b_t h16
        refine r_iinc (pc := 19) (v := nI (it (cntF (fun j => cbB v.1 (v.2.1 j) (v.2.1 p) j p)) t 0 + 1)) C dX7_rankOf_19 rfl (nI_i1 _) (by decide) ?_
        refine G.eq (pc' := 22) (vs' := [some (.ref (E.1 0)), some (.int (nI p)), some (.int (nI (it (cntF (fun j => cbB v.1 (v.2.1 j) (v.2.1 p) j p)) t 0 + 1))), some (.int (nI t))]) (st' := []) ?_
        refine r_iinc (pc := 22) (v := nI (t + 1)) C dX7_rankOf_22 rfl (nI_i1 _) (by decide) ?_
        refine G.eq (pc' := 25) (vs' := [some (.ref (E.1 0)), some (.int (nI p)), some (.int (nI (it (cntF (fun j => cbB v.1 (v.2.1 j) (v.2.1 p) j p)) t 0 + 1))), some (.int (nI (t + 1)))]) (st' := []) ?_
        refine r_goto (pc := 25) (tgt := 4) C dX7_rankOf_25 (by decide) ?_
        rw [← cnt_t (p := (fun j => cbB v.1 (v.2.1 j) (v.2.1 p) j p)) h16] at ih
        exact ih
