/-- Math.abs, max, min over ints; the order of two ints -/
def absI (x : Int32) : Int32 := if 0 ≤ x then x else 0 - x
def maxI (x y : Int32) : Int32 := if x < y then y else x
def minI (x y : Int32) : Int32 := if y < x then y else x
def cmpI (x y : Int32) : Int32 := if y ≤ x then (if x = y then 0 else 1) else -1
/-- Math.floorMod over longs -/
def flM (x y : Int64) : Int64 := if (x ^^^ y) < 0 then if (x - (x / y) * y) = 0 then x - (x / y) * y else (x - (x / y) * y) + y else x - (x / y) * y
/-- below n, and not negative -/
def hix (n : Nat) (x : Int32) : Bool := decide (¬ x < 0) && decide (¬ nI n ≤ x)
theorem hix_t {n : Nat} {x : Int32} (hn : n < 2 ^ 31) (h : hix n x = true) : ∃ j : Nat, j < n ∧ x = nI j := by
  unfold hix at h
  simp only [Bool.and_eq_true, decide_eq_true_eq] at h
  rcases pk_ix x hn with q | q | q
  · exact absurd q h.1
  · exact absurd q h.2
  · exact q
theorem hix_nI {n j : Nat} (hn : n < 2 ^ 31) (hj : j < n) : hix n (nI j) = true := by
  unfold hix
  simp only [Bool.and_eq_true, decide_eq_true_eq]
  exact ⟨nI_pos (by omega), nI_ge hj hn⟩
section GMA
variable {M : MT} {S : ST} {E : ET} {n : Nat × Nat} {g : Nat → va_E} {pc : Nat} {vs : List (Option Value)} {rest : List Value} {cc : ByteArray} {nL : Nat} {own : String} {ret : Option FieldType} {rm : Room}
theorem r_mmax {idx : Nat} {x y : Int32} (C : Cx M S cc nL own ret rm) (d : decode cc pc = .ok (.invokestatic idx, 3)) (hl : Cond.methodLink own idx yJ9_max_7cf53 ∈ Tg) (hf : 1 ≤ rm.frames) (hlo : (rest.map fun v => v.category).sum + 13 ≤ rm.locals) (hn : n.1 ≤ rm.cells ∧ n.2 ≤ rm.slots) (kk : G M S E n g (pc + 3) vs (.int (maxI x y) :: rest)) : G M S E n g pc vs (.int y :: .int x :: rest) := by
  obtain ⟨p, l, e, R, s, m, args, below, meth, c, A, Q⟩ := M
  obtain ⟨hx, hb, hml, hown, hts, hr, hlk, hK, hF, hA, hR⟩ := C
  intro H locs ls hP hD hS hll
  subst hR
  exact va_mmax hx hb hll.1.symm hown (hts _ hl) (hts _ qT_J9_max_7cf53) (hts _ qN_RJ9) (hts _ qC_J9_max_7cf53) hf hlo hn.1 hn.2 d (kk H locs ls hP hD hS hll)
theorem r_mmin {idx : Nat} {x y : Int32} (C : Cx M S cc nL own ret rm) (d : decode cc pc = .ok (.invokestatic idx, 3)) (hl : Cond.methodLink own idx yJ9_min_7cf53 ∈ Tg) (hf : 1 ≤ rm.frames) (hlo : (rest.map fun v => v.category).sum + 13 ≤ rm.locals) (hn : n.1 ≤ rm.cells ∧ n.2 ≤ rm.slots) (kk : G M S E n g (pc + 3) vs (.int (minI x y) :: rest)) : G M S E n g pc vs (.int y :: .int x :: rest) := by
  obtain ⟨p, l, e, R, s, m, args, below, meth, c, A, Q⟩ := M
  obtain ⟨hx, hb, hml, hown, hts, hr, hlk, hK, hF, hA, hR⟩ := C
  intro H locs ls hP hD hS hll
  subst hR
  exact va_mmin hx hb hll.1.symm hown (hts _ hl) (hts _ qT_J9_min_7cf53) (hts _ qN_RJ9) (hts _ qC_J9_min_7cf53) hf hlo hn.1 hn.2 d (kk H locs ls hP hD hS hll)
theorem r_mabs {idx : Nat} {x : Int32} (C : Cx M S cc nL own ret rm) (d : decode cc pc = .ok (.invokestatic idx, 3)) (hl : Cond.methodLink own idx yJ9_abs_0f7a4 ∈ Tg) (hf : 1 ≤ rm.frames) (hlo : (rest.map fun v => v.category).sum + 13 ≤ rm.locals) (hn : n.1 ≤ rm.cells ∧ n.2 ≤ rm.slots) (kk : G M S E n g (pc + 3) vs (.int (absI x) :: rest)) : G M S E n g pc vs (.int x :: rest) := by
  obtain ⟨p, l, e, R, s, m, args, below, meth, c, A, Q⟩ := M
  obtain ⟨hx, hb, hml, hown, hts, hr, hlk, hK, hF, hA, hR⟩ := C
  intro H locs ls hP hD hS hll
  subst hR
  exact va_mabs hx hb hll.1.symm hown (hts _ hl) (hts _ qT_J9_abs_0f7a4) (hts _ qN_RJ9) (hts _ qC_J9_abs_0f7a4) hf hlo hn.1 hn.2 d (kk H locs ls hP hD hS hll)
theorem r_mfm {idx : Nat} {x y : Int64} (C : Cx M S cc nL own ret rm) (d : decode cc pc = .ok (.invokestatic idx, 3)) (hl : Cond.methodLink own idx yJ9_floorMod_f86c9 ∈ Tg) (hy : ¬ y = 0) (hf : 1 ≤ rm.frames) (hlo : 25 ≤ rm.locals) (hw : (rest.map fun v => v.category).sum ≤ 8) (hn : n.1 ≤ rm.cells ∧ n.2 ≤ rm.slots) (kk : G M S E n g (pc + 3) vs (.long (flM x y) :: rest)) : G M S E n g pc vs (.long y :: .long x :: rest) := by
  obtain ⟨p, l, e, R, s, m, args, below, meth, c, A, Q⟩ := M
  obtain ⟨hx, hb, hml, hown, hts, hr, hlk, hK, hF, hA, hR⟩ := C
  intro H locs ls hP hD hS hll
  subst hR
  have htab : Jvm.Free.JP.Math_floorMod_JJ.tab.before args s = true := Jvm.Free.XT.unparts (hts _ qC_J9_floorMod_f86c9) (fun w h => by
    rcases List.mem_cons.mp h with rfl | h
    · exact hts _ qN_RJ9
    · cases h)
  intro T hT X
  obtain ⟨v, vm₁, ⟨U', l2, c2, s2⟩, hW₁, X', ⟨⟨hv, hh⟩, h1, h2, h3⟩, st⟩ := callS X hx (y := Jvm.Free.JP.Math_floorMod_JJ.yN) (bytes := cJ9_floorMod_f86c9) (maxL := 6) (ret := some .long) hown (hts _ hl) (hts _ qT_J9_floorMod_f86c9) (hts _ qN_RJ9) (hts _ qC_J9_floorMod_f86c9) (by decide) (Jvm.Free.JP.Math_floorMod_JJ.pays (W := 8) (len := 3) x y htab hf (by omega)) (g := F0 m pc ls (.long y :: .long x :: rest)) rfl hll.1 (argsL := [.long x, .long y]) (rest := rest) (fun sig h => by
      have h2 : parseMethodDescriptor "(JJ)J" = some { parameters := [.long, .long], returnType := some .long } := by decide +kernel
      rw [show Jvm.Free.JP.Math_floorMod_JJ.yN.desc = "(JJ)J" from rfl, h2] at h
      rw [← Option.some.inj h]; rfl) rfl (by show 2 * 0 + _ ≤ 8; omega) (by rw [hb]; exact d) (fun vm₁ _ => ⟨hn.1, hn.2, rfl, hy⟩)
  dsimp only [Pt.U, Pt.locs, Pt.cells, Pt.slots] at X' hh h1 h2 h3 st
  subst h1; subst h2; subst h3
  have hU : U'.heap = H := by rw [hh]; exact hT
  rw [List.append_nil] at X'
  obtain ⟨t, a1, b1⟩ := kk H locs ls hP hD hS hll U' hU X'
  rw [hv] at st
  exact ⟨t, st t a1, b1⟩
end GMA
set_option maxHeartbeats 4000000 in
set_option maxRecDepth 100000 in
theorem c_J6_compare {S : ST} {E : ET} {g : Nat → va_E} (x y : Int32) : CtI S E yJ6_compare_7cf53 cJ6_compare_7cf53 2 (Option.some FieldType.int) rmJ6_compare_7cf53 [.int x, .int y] g (fun v g' => v = cmpI x y ∧ g = g') := by
  refine Ct.of RJ6 (by decide +kernel) rfl (Nat.le_of_ble_eq_true rfl) (fun M C Z => ?_)
  refine G.eq (pc' := 0) (vs' := [some (.int x), some (.int y)]) (st' := []) ?_
  refine r_iload_n (pc := 0) C dJ6_compare_7cf53_0 rfl ?_
  refine r_iload_n (pc := 1) C dJ6_compare_7cf53_1 rfl ?_
  refine r_icmp_ge (pc := 2) (tgt := 9) C dJ6_compare_7cf53_2 (by decide) (fun h2 => ?_) (fun h2 => ?_)
  · refine r_iload_n (pc := 9) C dJ6_compare_7cf53_9 rfl ?_
    refine r_iload_n (pc := 10) C dJ6_compare_7cf53_10 rfl ?_
    refine r_icmp_ne (pc := 11) (tgt := 18) C dJ6_compare_7cf53_11 (by decide) (fun h11 => ?_) (fun h11 => ?_)
    · refine r_iconst (pc := 18) (v := nI 1) C dJ6_compare_7cf53_18 (by decide +kernel) ?_
      exact r_iret (pc := 19) C Z dJ6_compare_7cf53_19 rfl (⟨by unfold cmpI; rw [if_pos h2, if_neg h11]; rfl, rfl⟩)
    · refine r_iconst (pc := 14) (v := nI 0) C dJ6_compare_7cf53_14 (by decide +kernel) ?_
      refine r_goto (pc := 15) (tgt := 19) C dJ6_compare_7cf53_15 (by decide) ?_
      exact r_iret (pc := 19) C Z dJ6_compare_7cf53_19 rfl (⟨by unfold cmpI; rw [if_pos h2, if_pos h11]; rfl, rfl⟩)
  · refine r_iconst (pc := 5) (v := (-1)) C dJ6_compare_7cf53_5 (by decide +kernel) ?_
    refine r_goto (pc := 6) (tgt := 19) C dJ6_compare_7cf53_6 (by decide) ?_
    exact r_iret (pc := 19) C Z dJ6_compare_7cf53_19 rfl (⟨by unfold cmpI; rw [if_neg h2], rfl⟩)
set_option maxHeartbeats 4000000 in
set_option maxRecDepth 100000 in
theorem c_X4_fillNew {S : ST} {E : ET} {g : Nat → va_E} {s ty sz : Nat} {hd : Bool} {el : Nat → Int64} (hs : Ce E g s (.inr (4, [.ref (E.1 (s + 1)), .int (b2i hd), .int (nI ty), .int (nI sz)]))) (he : Ce E g (s + 1) (xJ S 40 el)) (ty2 sz2 : Nat) : CtV S E yX4_fillNew cX4_fillNew 3 none rmX4_fillNew [.ref (E.1 s), .int (nI ty2), .int (nI sz2)] g (fun g' => g' = va_up (va_up g (s + 1) (xJ S 40 (fun _ => 0))) s (.inr (4, [.ref (E.1 (s + 1)), .int (b2i true), .int (nI ty2), .int (nI sz2)]))) := by
  refine Ct.of RX4 (by decide +kernel) rfl (Nat.le_of_ble_eq_true rfl) (fun M C Z => ?_)
  refine G.eq (pc' := 0) (vs' := [some (.ref (E.1 s)), some (.int (nI ty2)), some (.int (nI sz2))]) (st' := []) ?_
  refine r_aload_n (pc := 0) C dX4_fillNew_0 rfl ?_
  refine r_getf (pc := 1) C dX4_fillNew_1 fl_RX4_9 hs rfl ?_
  refine r_lconst (pc := 4) (v := 0) C dX4_fillNew_4 rfl ?_
  refine r_callS (pc := 5) C dX4_fillNew_5 cs_RX4_26 (c_J7_fill_d0a16 0 he (by decide)) ⟨rfl, rfl, by decide, by decide⟩ rfl rfl (Nat.le_of_ble_eq_true rfl) ⟨Nat.zero_le _, Nat.zero_le _⟩ ?_
  rintro _ _ ⟨rfl, rfl⟩
  show G M S E (0, 0) (va_up g (s + 1) (xJ S 40 (fun _ => 0))) 8 [some (.ref (E.1 s)), some (.int (nI ty2)), some (.int (nI sz2))] []
  refine r_aload_n (pc := 8) C dX4_fillNew_8 rfl ?_
  refine r_iconst (pc := 9) (v := nI 1) C dX4_fillNew_9 (by decide +kernel) ?_
  refine r_putf (pc := 10) C dX4_fillNew_10 fp_RX4_15 (Ce.up hs (by omega)) rfl rfl (Nat.le_of_ble_eq_true rfl) ?_
  refine r_aload_n (pc := 13) C dX4_fillNew_13 rfl ?_
  refine r_iload_n (pc := 14) C dX4_fillNew_14 rfl ?_
  refine r_putf2 (pc := 15) C dX4_fillNew_15 fp_RX4_19 hs.1 rfl rfl (Nat.le_of_ble_eq_true rfl) ?_
  refine r_aload_n (pc := 18) C dX4_fillNew_18 rfl ?_
  refine r_iload_n (pc := 19) C dX4_fillNew_19 rfl ?_
  refine r_putf2 (pc := 20) C dX4_fillNew_20 fp_RX4_23 hs.1 rfl rfl (Nat.le_of_ble_eq_true rfl) ?_
  exact r_vret (pc := 23) C Z dX4_fillNew_23 rfl
set_option maxHeartbeats 4000000 in
set_option maxRecDepth 100000 in
theorem c_X4_hasIndex {S : ST} {E : ET} {g : Nat → va_E} {s ty sz : Nat} {hd : Bool} {el : Nat → Int64} (hs : Ce E g s (.inr (4, [.ref (E.1 (s + 1)), .int (b2i hd), .int (nI ty), .int (nI sz)]))) (he : Ce E g (s + 1) (xJ S 40 el)) (x : Int32) : CtI S E yX4_hasIndex cX4_hasIndex 2 (Option.some FieldType.boolean) rmX4_hasIndex [.ref (E.1 s), .int x] g (fun v g' => v = b2i (hix sz x) ∧ g = g') := by
  refine Ct.of RX4 (by decide +kernel) rfl (Nat.le_of_ble_eq_true rfl) (fun M C Z => ?_)
  refine G.eq (pc' := 0) (vs' := [some (.ref (E.1 s)), some (.int x)]) (st' := []) ?_
  refine r_iload_n (pc := 0) C dX4_hasIndex_0 rfl ?_
  refine r_if_lt (pc := 1) (tgt := 16) C dX4_hasIndex_1 (by decide) (fun h1 => ?_) (fun h1 => ?_)
  · refine r_iconst (pc := 16) (v := nI 0) C dX4_hasIndex_16 (by decide +kernel) ?_
    exact r_iret (pc := 17) C Z dX4_hasIndex_17 rfl (⟨by rw [show hix sz x = false by unfold hix; simp [h1]]; rfl, rfl⟩)
  · refine r_iload_n (pc := 4) C dX4_hasIndex_4 rfl ?_
    refine r_aload_n (pc := 5) C dX4_hasIndex_5 rfl ?_
    refine r_getf (pc := 6) C dX4_hasIndex_6 fl_RX4_23 hs rfl ?_
    refine r_icmp_ge (pc := 9) (tgt := 16) C dX4_hasIndex_9 (by decide) (fun h9 => ?_) (fun h9 => ?_)
    · refine r_iconst (pc := 16) (v := nI 0) C dX4_hasIndex_16 (by decide +kernel) ?_
      exact r_iret (pc := 17) C Z dX4_hasIndex_17 rfl (⟨by rw [show hix sz x = false by unfold hix; simp [h9]]; rfl, rfl⟩)
    · refine r_iconst (pc := 12) (v := nI 1) C dX4_hasIndex_12 (by decide +kernel) ?_
      refine r_goto (pc := 13) (tgt := 17) C dX4_hasIndex_13 (by decide) ?_
      exact r_iret (pc := 17) C Z dX4_hasIndex_17 rfl (⟨by rw [show hix sz x = true by unfold hix; simp only [h1, h9, not_false_eq_true, decide_true, Bool.and_self]]; rfl, rfl⟩)
/-- a stretch within an array -/
def hrg (n : Nat) (x k : Int32) : Bool := decide (¬ x < 0) && (decide (¬ k < 0) && decide (¬ (nI n).toInt64 < x.toInt64 + k.toInt64))
set_option maxHeartbeats 4000000 in
set_option maxRecDepth 100000 in
theorem c_X4_hasRange {S : ST} {E : ET} {g : Nat → va_E} {s ty sz : Nat} {hd : Bool} {el : Nat → Int64} (hs : Ce E g s (.inr (4, [.ref (E.1 (s + 1)), .int (b2i hd), .int (nI ty), .int (nI sz)]))) (he : Ce E g (s + 1) (xJ S 40 el)) (x k : Int32) : CtI S E yX4_hasRange cX4_hasRange 3 (Option.some FieldType.boolean) rmX4_hasRange [.ref (E.1 s), .int x, .int k] g (fun v g' => v = b2i (hrg sz x k) ∧ g = g') := by
  refine Ct.of RX4 (by decide +kernel) rfl (Nat.le_of_ble_eq_true rfl) (fun M C Z => ?_)
  refine G.eq (pc' := 0) (vs' := [some (.ref (E.1 s)), some (.int x), some (.int k)]) (st' := []) ?_
  refine r_iload_n (pc := 0) C dX4_hasRange_0 rfl ?_
  refine r_if_lt (pc := 1) (tgt := 26) C dX4_hasRange_1 (by decide) (fun h1 => ?_) (fun h1 => ?_)
  · refine r_iconst (pc := 26) (v := nI 0) C dX4_hasRange_26 (by decide +kernel) ?_
    exact r_iret (pc := 27) C Z dX4_hasRange_27 rfl (⟨by rw [show hrg sz x k = false by unfold hrg; simp [h1]]; rfl, rfl⟩)
  · refine r_iload_n (pc := 4) C dX4_hasRange_4 rfl ?_
    refine r_if_lt (pc := 5) (tgt := 26) C dX4_hasRange_5 (by decide) (fun h5 => ?_) (fun h5 => ?_)
    · refine r_iconst (pc := 26) (v := nI 0) C dX4_hasRange_26 (by decide +kernel) ?_
      exact r_iret (pc := 27) C Z dX4_hasRange_27 rfl (⟨by rw [show hrg sz x k = false by unfold hrg; simp [h5]]; rfl, rfl⟩)
    · refine r_iload_n (pc := 8) C dX4_hasRange_8 rfl ?_
      refine r_i2l (pc := 9) C dX4_hasRange_9 ?_
      refine r_iload_n (pc := 10) C dX4_hasRange_10 rfl ?_
      refine r_i2l (pc := 11) C dX4_hasRange_11 ?_
      refine r_ladd (pc := 12) C dX4_hasRange_12 ?_
      refine r_aload_n (pc := 13) C dX4_hasRange_13 rfl ?_
      refine r_getf (pc := 14) C dX4_hasRange_14 fl_RX4_23 hs rfl ?_
      refine r_i2l (pc := 17) C dX4_hasRange_17 ?_
      refine r_lcmp (pc := 18) C dX4_hasRange_18 ?_
      refine r_if_gt (pc := 19) (tgt := 26) C dX4_hasRange_19 (by decide) (fun h19 => ?_) (fun h19 => ?_)
      · have h19 := k_gt h19
        refine r_iconst (pc := 26) (v := nI 0) C dX4_hasRange_26 (by decide +kernel) ?_
        exact r_iret (pc := 27) C Z dX4_hasRange_27 rfl (⟨by rw [show hrg sz x k = false by unfold hrg; simp [h19]]; rfl, rfl⟩)
      · have h19 := k_ngt h19
        refine r_iconst (pc := 22) (v := nI 1) C dX4_hasRange_22 (by decide +kernel) ?_
        refine r_goto (pc := 23) (tgt := 27) C dX4_hasRange_23 (by decide) ?_
        exact r_iret (pc := 27) C Z dX4_hasRange_27 rfl (⟨by rw [show hrg sz x k = true by unfold hrg; simp only [h1, h5, h19, not_false_eq_true, decide_true, Bool.and_self]]; rfl, rfl⟩)
/-- a value narrowed to a type: 0 byte, 1 short, 2 int -/
def nrw (ty : Nat) (v : Int64) : Int64 := if ty = 0 then v.toInt32.toInt8.toInt32.toInt64 else if ty = 1 then v.toInt32.toInt16.toInt32.toInt64 else if ty = 2 then v.toInt32.toInt64 else v
set_option maxHeartbeats 4000000 in
set_option maxRecDepth 100000 in
theorem c_X4_narrowed {S : ST} {E : ET} {g : Nat → va_E} {s ty sz : Nat} {hd : Bool} {el : Nat → Int64} (hs : Ce E g s (.inr (4, [.ref (E.1 (s + 1)), .int (b2i hd), .int (nI ty), .int (nI sz)]))) (he : Ce E g (s + 1) (xJ S 40 el)) (hty : ty < 4) (v : Int64) : CtL S E yX4_narrowed cX4_narrowed 3 (Option.some FieldType.long) rmX4_narrowed [.ref (E.1 s), .long v] g (fun x g' => x = nrw ty v ∧ g = g') := by
  refine Ct.of RX4 (by decide +kernel) rfl (Nat.le_of_ble_eq_true rfl) (fun M C Z => ?_)
  refine G.eq (pc' := 0) (vs' := [some (.ref (E.1 s)), some (.long v), none]) (st' := []) ?_
  refine r_aload_n (pc := 0) C dX4_narrowed_0 rfl ?_
  refine r_getf (pc := 1) C dX4_narrowed_1 fl_RX4_19 hs rfl ?_
  rcases (show ty = 0 ∨ ty = 1 ∨ ty = 2 ∨ ty = 3 by omega) with rfl | rfl | rfl | rfl
  · refine r_tableIn (pc := 4) (tgt := 32) (off := 28) C dX4_narrowed_4 (by decide +kernel) (by decide +kernel) (by decide +kernel) (by decide) ?_
    refine r_lload_n (pc := 32) C dX4_narrowed_32 rfl ?_
    refine r_l2i (pc := 33) C dX4_narrowed_33 ?_
    refine r_i2b (pc := 34) C dX4_narrowed_34 ?_
    refine r_i2l (pc := 35) C dX4_narrowed_35 ?_
    exact r_lret (pc := 36) C Z dX4_narrowed_36 (⟨rfl, rfl⟩)
  · refine r_tableIn (pc := 4) (tgt := 37) (off := 33) C dX4_narrowed_4 (by decide +kernel) (by decide +kernel) (by decide +kernel) (by decide) ?_
    refine r_lload_n (pc := 37) C dX4_narrowed_37 rfl ?_
    refine r_l2i (pc := 38) C dX4_narrowed_38 ?_
    refine r_i2s (pc := 39) C dX4_narrowed_39 ?_
    refine r_i2l (pc := 40) C dX4_narrowed_40 ?_
    exact r_lret (pc := 41) C Z dX4_narrowed_41 (⟨rfl, rfl⟩)
  · refine r_tableIn (pc := 4) (tgt := 42) (off := 38) C dX4_narrowed_4 (by decide +kernel) (by decide +kernel) (by decide +kernel) (by decide) ?_
    refine r_lload_n (pc := 42) C dX4_narrowed_42 rfl ?_
    refine r_l2i (pc := 43) C dX4_narrowed_43 ?_
    refine r_i2l (pc := 44) C dX4_narrowed_44 ?_
    exact r_lret (pc := 45) C Z dX4_narrowed_45 (⟨rfl, rfl⟩)
  · refine r_tableOut (pc := 4) (tgt := 46) C dX4_narrowed_4 (by decide +kernel) (by decide) ?_
    refine r_lload_n (pc := 46) C dX4_narrowed_46 rfl ?_
    exact r_lret (pc := 47) C Z dX4_narrowed_47 (⟨rfl, rfl⟩)
