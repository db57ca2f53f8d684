/-! the words of filterPartitions as texts: rows over the string constants, the JDK's own methods -/
theorem gdV {own : String} {idx : Nat} {y : MethodName} {bytes : ByteArray} {maxL : Nat} {ret : Option FieldType} (h1 : Cond.methodLink own idx y ∈ Tg) (h2 : Cond.instanceMethod y ∈ Tg) (h3 : Cond.selects y.cls y y ∈ Tg) (h4 : Cond.initialized y.cls ∈ Tg) (h5 : Cond.code y bytes maxL ret ∈ Tg) : GoodIn Tg (wsV own idx y.cls y (.code y bytes maxL ret :: Tg)) := fun w hw => by
  have hm : w ∈ Tg := by
    unfold wsV at hw
    rcases List.mem_append.mp hw with h | h
    · simp only [List.mem_cons, List.not_mem_nil, or_false] at h
      rcases h with rfl | rfl | rfl | rfl <;> assumption
    · rcases List.mem_cons.mp h with rfl | h
      · exact h5
      · exact h
  exact ⟨hm, Tg_good w hm⟩
section GST
variable {M : MT} {S : ST} {E : ET} {n : Nat × Nat} {g : Nat → va_E} {pc : Nat} {vs : List (Option Value)} {rest : List Value} {cc : ByteArray} {nL : Nat} {own : String} {ret : Option FieldType} {rm : Room}
theorem r_ldcW {i idx : Nat} (C : Cx M S cc nL RX7 ret rm) (d : decode cc pc = .ok (.ldc_w idx, 3)) (hi : i < 6) (hk : strK.getD i 0 = idx) (kk : G M S E n g (pc + 3) vs (.ref (S.2 (10 + i)) :: rest)) : G M S E n g pc vs rest := by
  obtain ⟨p, l, e, R, s, m, args, below, meth, c, A, Q⟩ := M
  obtain ⟨hx, hb, hml, hown, hts, hr, hlk, hK, hF, hA, hR⟩ := C
  intro H locs ls hP hD hS hl T hT X
  obtain ⟨t, a1, b1⟩ := kk H locs ls hP hD hS hl T hT X
  have hZ := hF.1.2 i hi
  rw [hk] at hZ
  exact ⟨t, X.ldcStringW hx hown (text := strT.getD i "") (a := S.2 (10 + i)) hZ.1 hZ.2 (g := F0 m pc ls rest) rfl (by rw [hb]; exact d) t a1, b1⟩
theorem r_getV {i : Nat} (C : Cx M S cc nL RJ0 ret rm) (d : decode cc pc = .ok (.getfield 9, 3)) (hi : i < 6) (kk : G M S E n g (pc + 3) vs (.ref (S.2 (20 + i)) :: rest)) : G M S E n g pc vs (.ref (S.2 (10 + i)) :: rest) := by
  obtain ⟨p, l, e, R, s, m, args, below, meth, c, A, Q⟩ := M
  obtain ⟨hx, hb, hml, hown, hts, hr, hlk, hK, hF, hA, hR⟩ := C
  intro H locs ls hP hD hS hl
  exact vk_getf hx hb (hF.2.1.1 i hi).2.2.1 hS hown (hts _ qF_RJ0_9) (fun _ h => h) d (kk H locs ls hP hD hS hl)
theorem r_getC {i : Nat} (C : Cx M S cc nL RJ0 ret rm) (d : decode cc pc = .ok (.getfield 15, 3)) (hi : i < 6) (kk : G M S E n g (pc + 3) vs (.int (nI 0) :: rest)) : G M S E n g pc vs (.ref (S.2 (10 + i)) :: rest) := by
  obtain ⟨p, l, e, R, s, m, args, below, meth, c, A, Q⟩ := M
  obtain ⟨hx, hb, hml, hown, hts, hr, hlk, hK, hF, hA, hR⟩ := C
  intro H locs ls hP hD hS hl
  exact vk_getf hx hb (hF.2.1.1 i hi).2.1 hS hown (hts _ qF_RJ0_15) (fun _ h => h) d (kk H locs ls hP hD hS hl)
theorem r_getK (C : Cx M S cc nL RJ0 ret rm) (d : decode cc pc = .ok (.getstatic 38, 3)) (kk : G M S E n g (pc + 3) vs (.int (nI 1) :: rest)) : G M S E n g pc vs rest := by
  obtain ⟨p, l, e, R, s, m, args, below, meth, c, A, Q⟩ := M
  obtain ⟨hx, hb, hml, hown, hts, hr, hlk, hK, hF, hA, hR⟩ := C
  intro H locs ls hP hD hS hl
  exact va_gets hx hb hF.2.2.1 hS hown (hts _ qF_RJ0_38) (fun _ h => h) d (kk H locs ls hP hD hS hl)
theorem r_getQ (C : Cx M S cc nL RJ0 ret rm) (d : decode cc pc = .ok (.getstatic 1053, 3)) (k1 : G M S E n g (pc + 3) vs (.null :: rest)) (k2 : ∀ t : Nat, G M S E n g (pc + 3) vs (.ref t :: rest)) : G M S E n g pc vs rest := by
  obtain ⟨p, l, e, R, s, m, args, below, meth, c, A, Q⟩ := M
  obtain ⟨hx, hb, hml, hown, hts, hr, hlk, hK, hF, hA, hR⟩ := C
  intro H locs ls hP hD hS hl
  rcases hF.2.2.2 with h | ⟨t, h⟩
  · exact va_gets hx hb h hS hown (hts _ qF_RJ0_1053) (fun _ h => h) d (k1 H locs ls hP hD hS hl)
  · exact va_gets hx hb h hS hown (hts _ qF_RJ0_1053) (fun _ h => h) d (k2 t H locs ls hP hD hS hl)
theorem r_alenS {i : Nat} (C : Cx M S cc nL own ret rm) (d : decode cc pc = .ok (.arraylength, 1)) (hi : i < 6) (kk : G M S E n g (pc + 1) vs (.int (nI (strL.getD i 0)) :: rest)) : G M S E n g pc vs (.ref (S.2 (20 + i)) :: rest) := by
  obtain ⟨p, l, e, R, s, m, args, below, meth, c, A, Q⟩ := M
  obtain ⟨hx, hb, hml, hown, hts, hr, hlk, hK, hF, hA, hR⟩ := C
  intro H locs ls hP hD hS hl
  obtain ⟨cell, h1, h2, h3, h4, h5, h6, h7⟩ := (hF.2.1.1 i hi).2.2.2
  exact W.alen (n := Int32.ofNat (strL.getD i 0)) hx hb (by rw [hS.2.1 _ (Array.getElem?_eq_some_iff.mp h1).1 h7]; exact h1) h2 h5 rfl rfl d (kk H locs ls hP hD hS hl)
theorem r_baldS {i k : Nat} (C : Cx M S cc nL own ret rm) (d : decode cc pc = .ok (.baload, 1)) (hi : i < 6) (hk : k < strL.getD i 0) (hb31 : strL.getD i 0 < 2 ^ 31) (kk : G M S E n g (pc + 1) vs (.int ((strB.getD i []).getD k 0) :: rest)) : G M S E n g pc vs (.int (nI k) :: .ref (S.2 (20 + i)) :: rest) := by
  obtain ⟨p, l, e, R, s, m, args, below, meth, c, A, Q⟩ := M
  obtain ⟨hx, hb, hml, hown, hts, hr, hlk, hK, hF, hA, hR⟩ := C
  intro H locs ls hP hD hS hl
  exact va_tb hx hb (hF.2.1.1 i hi).2.2.2 hS (vp_in_nI hk hb31) (by rw [nI_clamp (Nat.lt_trans hk hb31)]) d (kk H locs ls hP hD hS hl)
theorem r_i2c {x : Int32} (C : Cx M S cc nL own ret rm) (d : decode cc pc = .ok (.i2c, 1)) (v : Int32) (hv : (x.toUInt32 % 65536).toInt32 = v) (kk : G M S E n g (pc + 1) vs (.int v :: rest)) : G M S E n g pc vs (.int x :: rest) := by
  obtain ⟨p, l, e, R, s, m, args, below, meth, c, A, Q⟩ := M
  obtain ⟨hx, hb, hml, hown, hts, hr, hlk, hK, hF, hA, hR⟩ := C
  intro H locs ls hP hD hS hl
  exact lv_i2c hx hb d hv (kk H locs ls hP hD hS hl)
theorem r_callJ {y : MethodName} {bytes : ByteArray} {maxL idx np i : Nat} {ret' : Option FieldType} {rm' : Room} {av st : List Value} {post : Option Value → (Nat → va_E) → Prop} (C : Cx M S cc nL own ret rm) (d : decode cc pc = .ok (.invokevirtual idx, 3)) (c1 : GoodIn Tg (wsV own idx y.cls y (.code y bytes maxL ret' :: Tg))) (c2 : y.cls ≠ "java/lang/invoke/MethodHandle" ∧ y.cls ≠ "java/lang/invoke/VarHandle") (c3 : (parseMethodDescriptor y.desc).map (fun d => d.parameters.length) = some np) (hcl : y.cls = "java/lang/String") (hi : i < 6) (hM : Ct S E y bytes maxL ret' rm' (.ref (S.2 (10 + i)) :: av) g post) (hR' : rmOk rm' maxL rm) (hnp : av.length = np) (hst : st = av.reverse ++ .ref (S.2 (10 + i)) :: rest) (hw : (rest.map fun v => v.category).sum ≤ 8) (hn : n.1 ≤ rm.cells ∧ n.2 ≤ rm.slots)
    (kk : ∀ (v : Option Value) (g' : Nat → va_E), post v g' → G M S E n g' (pc + 3) vs (v.toList ++ rest)) : G M S E n g pc vs st := by
  obtain ⟨p, l, e, R, s, m, args, below, meth, c, A, Q⟩ := M
  obtain ⟨hx, hb, hml, hown, hts, hr, hlk, hK, hF, hA, hR⟩ := C
  intro H locs ls hP hD hS hl
  subst hR
  refine g_run (st := st) (rest := rest) (va_runV (As := av) (rest := rest) (C := y.cls) ⟨hx, hb, rfl, hown, hts⟩ (hM l H.size) (cwV np hts c1 rfl hR'.1 hR'.2.1 ⟨rfl, c2.1, c2.2, c3⟩ ⟨hR'.2.2.1, hR'.2.2.2⟩) ⟨Cx.blind, ?_, fun U hU hW => ⟨rfl, by rw [hU], by rw [hU]; exact hP, ⟨hD.1, fun _ _ => trivial⟩, va_K.moved hW.alike hK, FX.call hW hU hS (af_sub hA hD hS) hF⟩⟩ rfl hnp hl.1 hst (lv_room (m := m) (pc := pc) (ls := ls) (rest := st) hw) d hn) kk hA hD hS hl
  rw [hcl]
  exact vk_recv (i := i) hF.2.1 hi hS
end GST
def chL : List (List Nat) := [[100, 105, 115, 116, 105, 110, 99, 116], [111, 100, 100], [103, 97, 112], [110, 111, 111, 110, 101, 115], [101, 118, 101, 110], [115, 101, 108, 102, 99, 111, 110, 106, 117, 103, 97, 116, 101]]
def chN (i k : Nat) : Nat := (chL.getD i []).getD k 0
theorem ch_all : ∀ i : Nat, i < 6 → ∀ k : Nat, k < strL.getD i 0 → (((((strB.getD i []).getD k 0) &&& nI 255).toUInt32 % 65536).toInt32 = nI (chN i k) ∧ chN i k < 128) := by decide +kernel
theorem sl_all : ∀ i : Nat, i < 6 → (nI (strL.getD i 0) >>> (nI 0 &&& 31) = nI (strL.getD i 0) ∧ strL.getD i 0 < 14) := by decide +kernel
theorem nar_c : ∀ k : Nat, k < 128 → narrow .char (.int (nI k)) = .int (nI k) := by decide +kernel
def hoB (L : Nat) (x : Nat → Nat) (i : Nat) : Bool := decide (strL.getD i 0 = L) && allB (fun k => decide (x k = chN i k)) L
set_option maxHeartbeats 4000000 in
set_option maxRecDepth 100000 in
theorem c_J0_coder {S : ST} {E : ET} {g : Nat → va_E} {i : Nat} (hi : i < 6) : CtI S E yJ0_coder_7d493 cJ0_coder_7d493 1 (Option.some FieldType.byte) rmJ0_coder_7d493 [.ref (S.2 (10 + i))] g (fun u g' => u = nI 0 ∧ g = g') := by
  refine Ct.of RJ0 (by decide +kernel) rfl (Nat.le_of_ble_eq_true rfl) (fun M C Z => ?_)
  refine G.eq (pc' := 0) (vs' := [some (.ref (S.2 (10 + i)))]) (st' := []) ?_
  refine r_getK (pc := 0) C dJ0_coder_7d493_0  ?_
  refine r_if_eq (pc := 3) (tgt := 13) C dJ0_coder_7d493_3 (by decide) (fun h3 => ?_) (fun h3 => ?_)
  · have h3 := z_eq (by omega) h3
    omega
  · have h3 := z_ne (by omega) h3
    refine r_aload_n (pc := 6) C dJ0_coder_7d493_6 rfl ?_
    refine r_getC (pc := 7) C dJ0_coder_7d493_7 hi ?_
    refine r_goto (pc := 10) (tgt := 14) C dJ0_coder_7d493_10 (by decide) ?_
    exact r_iret (pc := 14) C Z dJ0_coder_7d493_14 rfl (⟨rfl, rfl⟩)
set_option maxHeartbeats 4000000 in
set_option maxRecDepth 100000 in
theorem c_J0_length {S : ST} {E : ET} {g : Nat → va_E} {i : Nat} (hi : i < 6) : CtI S E yJ0_length_8abf5 cJ0_length_8abf5 1 (Option.some FieldType.int) rmJ0_length_8abf5 [.ref (S.2 (10 + i))] g (fun u g' => u = nI (strL.getD i 0) ∧ g = g') := by
  refine Ct.of RJ0 (by decide +kernel) rfl (Nat.le_of_ble_eq_true rfl) (fun M C Z => ?_)
  refine G.eq (pc' := 0) (vs' := [some (.ref (S.2 (10 + i)))]) (st' := []) ?_
  refine r_aload_n (pc := 0) C dJ0_length_8abf5_0 rfl ?_
  refine r_getV (pc := 1) C dJ0_length_8abf5_1 hi ?_
  refine r_alenS (pc := 4) C dJ0_length_8abf5_4 hi ?_
  refine r_aload_n (pc := 5) C dJ0_length_8abf5_5 rfl ?_
  refine r_callJ (pc := 6) (np := 0) C dJ0_length_8abf5_6 (gdV qM_RJ0_335 qI_J0_coder_7d493 qS_J0_coder_7d493 qN_RJ0 qC_J0_coder_7d493) (by decide +kernel) (by decide +kernel) rfl hi (c_J0_coder hi) ⟨rfl, rfl, by decide, by decide⟩ rfl rfl (Nat.le_of_ble_eq_true rfl) ⟨Nat.zero_le _, Nat.zero_le _⟩ ?_
  rintro _ _ ⟨_, rfl, rfl, rfl⟩
  show G M S E (0, 0) g 9 [some (.ref (S.2 (10 + i)))] [.int (nI 0), .int (nI (strL.getD i 0))]
  refine r_ishr (pc := 9) C dJ0_length_8abf5_9 ?_
  refine r_ti (nI (strL.getD i 0)) (sl_all i hi).1 ?_
  exact r_iret (pc := 10) C Z dJ0_length_8abf5_10 rfl (⟨rfl, rfl⟩)
set_option maxHeartbeats 4000000 in
set_option maxRecDepth 100000 in
theorem c_J0_isLatin1 {S : ST} {E : ET} {g : Nat → va_E} {i : Nat} (hi : i < 6) : CtI S E yJ0_isLatin1_aae02 cJ0_isLatin1_aae02 1 (Option.some FieldType.boolean) rmJ0_isLatin1_aae02 [.ref (S.2 (10 + i))] g (fun u g' => u = nI 1 ∧ g = g') := by
  refine Ct.of RJ0 (by decide +kernel) rfl (Nat.le_of_ble_eq_true rfl) (fun M C Z => ?_)
  refine G.eq (pc' := 0) (vs' := [some (.ref (S.2 (10 + i)))]) (st' := []) ?_
  refine r_getK (pc := 0) C dJ0_isLatin1_aae02_0  ?_
  refine r_if_eq (pc := 3) (tgt := 17) C dJ0_isLatin1_aae02_3 (by decide) (fun h3 => ?_) (fun h3 => ?_)
  · have h3 := z_eq (by omega) h3
    omega
  · have h3 := z_ne (by omega) h3
    refine r_aload_n (pc := 6) C dJ0_isLatin1_aae02_6 rfl ?_
    refine r_getC (pc := 7) C dJ0_isLatin1_aae02_7 hi ?_
    refine r_if_ne (pc := 10) (tgt := 17) C dJ0_isLatin1_aae02_10 (by decide) (fun h10 => ?_) (fun h10 => ?_)
    · have h10 := z_ne (by omega) h10
      omega
    · have h10 := z_eq (by omega) h10
      refine r_iconst (pc := 13) (v := nI 1) C dJ0_isLatin1_aae02_13 (by decide +kernel) ?_
      refine r_goto (pc := 14) (tgt := 18) C dJ0_isLatin1_aae02_14 (by decide) ?_
      exact r_iret (pc := 18) C Z dJ0_isLatin1_aae02_18 rfl (⟨rfl, rfl⟩)
set_option maxHeartbeats 4000000 in
set_option maxRecDepth 100000 in
theorem c_J3_checkIndex_n {S : ST} {E : ET} {g : Nat → va_E} (k L : Nat) (hk : k < L) (hL : L < 2 ^ 31) : CtI S E yJ3_checkIndex_8e157 cJ3_checkIndex_8e157 3 (Option.some FieldType.int) rmJ3_checkIndex_8e157 [.int (nI k), .int (nI L), .null] g (fun u g' => u = nI k ∧ g = g') := by
  refine Ct.of RJ3 (by decide +kernel) rfl (Nat.le_of_ble_eq_true rfl) (fun M C Z => ?_)
  refine G.eq (pc' := 0) (vs' := [some (.int (nI k)), some (.int (nI L)), some (.null)]) (st' := []) ?_
  refine r_iload_n (pc := 0) C dJ3_checkIndex_8e157_0 rfl ?_
  refine r_if_lt (pc := 1) (tgt := 9) C dJ3_checkIndex_8e157_1 (by decide) (fun h1 => ?_) (fun h1 => ?_)
  · have h1 := z_lt (by omega) h1
    exact h1.elim
  · have h1 := z_nlt (by omega) h1
    refine r_iload_n (pc := 4) C dJ3_checkIndex_8e157_4 rfl ?_
    refine r_iload_n (pc := 5) C dJ3_checkIndex_8e157_5 rfl ?_
    refine r_icmp_lt (pc := 6) (tgt := 16) C dJ3_checkIndex_8e157_6 (by decide) (fun h6 => ?_) (fun h6 => ?_)
    · have h6 := c_lt (by omega) (by omega) h6
      refine r_iload_n (pc := 16) C dJ3_checkIndex_8e157_16 rfl ?_
      exact r_iret (pc := 17) C Z dJ3_checkIndex_8e157_17 rfl (⟨rfl, rfl⟩)
    · have h6 := c_nlt (by omega) (by omega) h6
      omega
set_option maxHeartbeats 4000000 in
set_option maxRecDepth 100000 in
theorem c_J3_checkIndex_r {S : ST} {E : ET} {g : Nat → va_E} (k L t : Nat) (hk : k < L) (hL : L < 2 ^ 31) : CtI S E yJ3_checkIndex_8e157 cJ3_checkIndex_8e157 3 (Option.some FieldType.int) rmJ3_checkIndex_8e157 [.int (nI k), .int (nI L), .ref t] g (fun u g' => u = nI k ∧ g = g') := by
  refine Ct.of RJ3 (by decide +kernel) rfl (Nat.le_of_ble_eq_true rfl) (fun M C Z => ?_)
  refine G.eq (pc' := 0) (vs' := [some (.int (nI k)), some (.int (nI L)), some (.ref t)]) (st' := []) ?_
  refine r_iload_n (pc := 0) C dJ3_checkIndex_8e157_0 rfl ?_
  refine r_if_lt (pc := 1) (tgt := 9) C dJ3_checkIndex_8e157_1 (by decide) (fun h1 => ?_) (fun h1 => ?_)
  · have h1 := z_lt (by omega) h1
    exact h1.elim
  · have h1 := z_nlt (by omega) h1
    refine r_iload_n (pc := 4) C dJ3_checkIndex_8e157_4 rfl ?_
    refine r_iload_n (pc := 5) C dJ3_checkIndex_8e157_5 rfl ?_
    refine r_icmp_lt (pc := 6) (tgt := 16) C dJ3_checkIndex_8e157_6 (by decide) (fun h6 => ?_) (fun h6 => ?_)
    · have h6 := c_lt (by omega) (by omega) h6
      refine r_iload_n (pc := 16) C dJ3_checkIndex_8e157_16 rfl ?_
      exact r_iret (pc := 17) C Z dJ3_checkIndex_8e157_17 rfl (⟨rfl, rfl⟩)
    · have h6 := c_nlt (by omega) (by omega) h6
      omega
set_option maxHeartbeats 4000000 in
set_option maxRecDepth 100000 in
theorem c_J0_checkIndex {S : ST} {E : ET} {g : Nat → va_E} (k L : Nat) (hk : k < L) (hL : L < 2 ^ 31) : CtV S E yJ0_checkIndex_df160 cJ0_checkIndex_df160 2 none rmJ0_checkIndex_df160 [.int (nI k), .int (nI L)] g (fun g' => g = g') := by
  refine Ct.of RJ0 (by decide +kernel) rfl (Nat.le_of_ble_eq_true rfl) (fun M C Z => ?_)
  refine G.eq (pc' := 0) (vs' := [some (.int (nI k)), some (.int (nI L))]) (st' := []) ?_
  refine r_iload_n (pc := 0) C dJ0_checkIndex_df160_0 rfl ?_
  refine r_iload_n (pc := 1) C dJ0_checkIndex_df160_1 rfl ?_
  refine r_getQ (pc := 2) C dJ0_checkIndex_df160_2 ?_ (fun t => ?_)
  · show G M S E (0, 0) g 5 [some (.int (nI k)), some (.int (nI L))] [.null, .int (nI L), .int (nI k)]
    refine r_callS (pc := 5) C dJ0_checkIndex_df160_5 cs_RJ0_1059 (c_J3_checkIndex_n k L hk hL) ⟨rfl, rfl, by decide, by decide⟩ rfl rfl (Nat.le_of_ble_eq_true rfl) ⟨Nat.zero_le _, Nat.zero_le _⟩ ?_
    rintro _ _ ⟨_, rfl, rfl, rfl⟩
    show G M S E (0, 0) g 8 [some (.int (nI k)), some (.int (nI L))] [.int (nI k)]
    refine r_pop (pc := 8) C dJ0_checkIndex_df160_8 rfl ?_
    exact r_vret (pc := 9) C Z dJ0_checkIndex_df160_9 rfl
  · show G M S E (0, 0) g 5 [some (.int (nI k)), some (.int (nI L))] [.ref t, .int (nI L), .int (nI k)]
    refine r_callS (pc := 5) C dJ0_checkIndex_df160_5 cs_RJ0_1059 (c_J3_checkIndex_r k L t hk hL) ⟨rfl, rfl, by decide, by decide⟩ rfl rfl (Nat.le_of_ble_eq_true rfl) ⟨Nat.zero_le _, Nat.zero_le _⟩ ?_
    rintro _ _ ⟨_, rfl, rfl, rfl⟩
    show G M S E (0, 0) g 8 [some (.int (nI k)), some (.int (nI L))] [.int (nI k)]
    refine r_pop (pc := 8) C dJ0_checkIndex_df160_8 rfl ?_
    exact r_vret (pc := 9) C Z dJ0_checkIndex_df160_9 rfl
set_option maxHeartbeats 4000000 in
set_option maxRecDepth 100000 in
theorem c_J1_charAt {S : ST} {E : ET} {g : Nat → va_E} {i : Nat} (hi : i < 6) (k : Nat) (hk : k < strL.getD i 0) : CtI S E yJ1_charAt_3b067 cJ1_charAt_3b067 2 (Option.some FieldType.char) rmJ1_charAt_3b067 [.ref (S.2 (20 + i)), .int (nI k)] g (fun u g' => u = nI (chN i k) ∧ g = g') := by
  refine Ct.of RJ1 (by decide +kernel) rfl (Nat.le_of_ble_eq_true rfl) (fun M C Z => ?_)
  refine G.eq (pc' := 0) (vs' := [some (.ref (S.2 (20 + i))), some (.int (nI k))]) (st' := []) ?_
  have hsl := (sl_all i hi).2
  have hch := ch_all i hi k hk
  refine r_iload_n (pc := 0) C dJ1_charAt_3b067_0 rfl ?_
  refine r_aload_n (pc := 1) C dJ1_charAt_3b067_1 rfl ?_
  refine r_alenS (pc := 2) C dJ1_charAt_3b067_2 hi ?_
  refine r_callS (pc := 3) C dJ1_charAt_3b067_3 cs_RJ1_9 (c_J0_checkIndex k (strL.getD i 0) hk (by omega)) ⟨rfl, rfl, by decide, by decide⟩ rfl rfl (Nat.le_of_ble_eq_true rfl) ⟨Nat.zero_le _, Nat.zero_le _⟩ ?_
  rintro _ _ ⟨rfl, rfl⟩
  show G M S E (0, 0) g 6 [some (.ref (S.2 (20 + i))), some (.int (nI k))] []
  refine r_aload_n (pc := 6) C dJ1_charAt_3b067_6 rfl ?_
  refine r_iload_n (pc := 7) C dJ1_charAt_3b067_7 rfl ?_
  refine r_baldS (pc := 8) C dJ1_charAt_3b067_8 hi hk (by omega) ?_
  refine r_sipush (pc := 9) (v := nI 255) C dJ1_charAt_3b067_9 (by decide +kernel) ?_
  refine r_iand (pc := 12) C dJ1_charAt_3b067_12 ?_
  refine r_i2c (pc := 13) C dJ1_charAt_3b067_13 (nI (chN i k)) hch.1 ?_
  exact r_iret (pc := 14) C Z dJ1_charAt_3b067_14 (nar_c _ hch.2) (⟨rfl, rfl⟩)
set_option maxHeartbeats 4000000 in
set_option maxRecDepth 100000 in
theorem c_J0_charAt {S : ST} {E : ET} {g : Nat → va_E} {i : Nat} (hi : i < 6) (k : Nat) (hk : k < strL.getD i 0) : CtI S E yJ0_charAt_5068e cJ0_charAt_5068e 2 (Option.some FieldType.char) rmJ0_charAt_5068e [.ref (S.2 (10 + i)), .int (nI k)] g (fun u g' => u = nI (chN i k) ∧ g = g') := by
  refine Ct.of RJ0 (by decide +kernel) rfl (Nat.le_of_ble_eq_true rfl) (fun M C Z => ?_)
  refine G.eq (pc' := 0) (vs' := [some (.ref (S.2 (10 + i))), some (.int (nI k))]) (st' := []) ?_
  have hch := ch_all i hi k hk
  refine r_aload_n (pc := 0) C dJ0_charAt_5068e_0 rfl ?_
  refine r_callJ (pc := 1) (np := 0) C dJ0_charAt_5068e_1 (gdV qM_RJ0_492 qI_J0_isLatin1_aae02 qS_J0_isLatin1_aae02 qN_RJ0 qC_J0_isLatin1_aae02) (by decide +kernel) (by decide +kernel) rfl hi (c_J0_isLatin1 hi) ⟨rfl, rfl, by decide, by decide⟩ rfl rfl (Nat.le_of_ble_eq_true rfl) ⟨Nat.zero_le _, Nat.zero_le _⟩ ?_
  rintro _ _ ⟨_, rfl, rfl, rfl⟩
  show G M S E (0, 0) g 4 [some (.ref (S.2 (10 + i))), some (.int (nI k))] [.int (nI 1)]
  refine r_if_eq (pc := 4) (tgt := 16) C dJ0_charAt_5068e_4 (by decide) (fun h4 => ?_) (fun h4 => ?_)
  · have h4 := z_eq (by omega) h4
    omega
  · have h4 := z_ne (by omega) h4
    refine r_aload_n (pc := 7) C dJ0_charAt_5068e_7 rfl ?_
    refine r_getV (pc := 8) C dJ0_charAt_5068e_8 hi ?_
    refine r_iload_n (pc := 11) C dJ0_charAt_5068e_11 rfl ?_
    refine r_callS (pc := 12) C dJ0_charAt_5068e_12 cs_RJ0_495 (c_J1_charAt hi k hk) ⟨rfl, rfl, by decide, by decide⟩ rfl rfl (Nat.le_of_ble_eq_true rfl) ⟨Nat.zero_le _, Nat.zero_le _⟩ ?_
    rintro _ _ ⟨_, rfl, rfl, rfl⟩
    show G M S E (0, 0) g 15 [some (.ref (S.2 (10 + i))), some (.int (nI k))] [.int (nI (chN i k))]
    exact r_iret (pc := 15) C Z dJ0_charAt_5068e_15 (nar_c _ hch.2) (⟨rfl, rfl⟩)
set_option maxHeartbeats 4000000 in
set_option maxRecDepth 100000 in
theorem c_X0_holds {S : ST} {E : ET} {g : Nat → va_E} {q L p : Nat} {x : Nat → Nat} (hq : Ce E g q (.inr (0, [.ref (E.1 (q + 1)), .int (nI L), .int (nI p)]))) (hx : Ce E g (q + 1) (xB S 60 (fun k => nI (x k)))) (hL : L ≤ 60) (h128 : ∀ k, x k < 128) {i : Nat} (hi : i < 6) : CtI S E yX0_holds cX0_holds 3 (Option.some FieldType.boolean) rmX0_holds [.ref (E.1 q), .ref (S.2 (10 + i))] g (fun u g' => u = b2i (hoB L x i) ∧ g = g') := by
  refine Ct.of RX0 (by decide +kernel) rfl (Nat.le_of_ble_eq_true rfl) (fun M C Z => ?_)
  refine G.eq (pc' := 0) (vs' := [some (.ref (E.1 q)), some (.ref (S.2 (10 + i))), none]) (st' := []) ?_
  have hsl := (sl_all i hi).2
  refine r_aload_n (pc := 0) C dX0_holds_0 rfl ?_
  refine r_callJ (pc := 1) (np := 0) C dX0_holds_1 (gdV qM_RX0_22 qI_J0_length_8abf5 qS_J0_length_8abf5 qN_RJ0 qC_J0_length_8abf5) (by decide +kernel) (by decide +kernel) rfl hi (c_J0_length hi) ⟨rfl, rfl, by decide, by decide⟩ rfl rfl (Nat.le_of_ble_eq_true rfl) ⟨Nat.zero_le _, Nat.zero_le _⟩ ?_
  rintro _ _ ⟨_, rfl, rfl, rfl⟩
  show G M S E (0, 0) g 4 [some (.ref (E.1 q)), some (.ref (S.2 (10 + i))), none] [.int (nI (strL.getD i 0))]
  refine r_aload_n (pc := 4) C dX0_holds_4 rfl ?_
  refine r_getf (pc := 5) C dX0_holds_5 fl_RX0_15 hq rfl ?_
  refine r_icmp_eq (pc := 8) (tgt := 13) C dX0_holds_8 (by decide) (fun h8 => ?_) (fun h8 => ?_)
  · have h8 := c_eq (by omega) (by omega) h8
    refine r_iconst (pc := 13) (v := nI 0) C dX0_holds_13 (by decide +kernel) ?_
    refine r_istore_n (pc := 14) C dX0_holds_14 (by decide) ?_
    refine G.eq (pc' := 15) (vs' := [some (.ref (E.1 q)), some (.ref (S.2 (10 + i))), some (.int (nI 0))]) (st' := []) ?_
    refine bk (P := fun t => (∀ j : Nat, j < t → (fun k => decide (x k = chN i k)) j = true) → G M S E (0, 0) g 15 [some (.ref (E.1 q)), some (.ref (S.2 (10 + i))), some (.int (nI t))] []) (T := L) (fun hh => ?_) (fun t ht ih hh => ?_) (fun j hj => absurd hj (Nat.not_lt_zero j))
    · show G M S E (0, 0) g 15 [some (.ref (E.1 q)), some (.ref (S.2 (10 + i))), some (.int (nI L))] []
      refine r_iload_n (pc := 15) C dX0_holds_15 rfl ?_
      refine r_aload_n (pc := 16) C dX0_holds_16 rfl ?_
      refine r_getf (pc := 17) C dX0_holds_17 fl_RX0_15 hq rfl ?_
      refine r_icmp_ge (pc := 20) (tgt := 45) C dX0_holds_20 (by decide) (fun h20 => ?_) (fun h20 => ?_)
      · have h20 := c_le (by omega) (by omega) h20
        refine r_iconst (pc := 45) (v := nI 1) C dX0_holds_45 (by decide +kernel) ?_
        exact r_iret (pc := 46) C Z dX0_holds_46 rfl (⟨by rw [show hoB L x i = true by unfold hoB; rw [show decide (strL.getD i 0 = L) = true from decide_eq_true h8, show allB (fun k => decide (x k = chN i k)) L = true from allB_t hh]; rfl]; rfl, rfl⟩)
      · have h20 := c_nle (by omega) (by omega) h20
        omega
    · show G M S E (0, 0) g 15 [some (.ref (E.1 q)), some (.ref (S.2 (10 + i))), some (.int (nI t))] []
      refine r_iload_n (pc := 15) C dX0_holds_15 rfl ?_
      refine r_aload_n (pc := 16) C dX0_holds_16 rfl ?_
      refine r_getf (pc := 17) C dX0_holds_17 fl_RX0_15 hq rfl ?_
      refine r_icmp_ge (pc := 20) (tgt := 45) C dX0_holds_20 (by decide) (fun h20 => ?_) (fun h20 => ?_)
      · have h20 := c_le (by omega) (by omega) h20
        omega
      · have h20 := c_nle (by omega) (by omega) h20
        have hch := ch_all i hi t (by omega)
        have hxt := h128 t
        refine r_aload_n (pc := 23) C dX0_holds_23 rfl ?_
        refine r_getf (pc := 24) C dX0_holds_24 fl_RX0_9 hq rfl ?_
        refine r_iload_n (pc := 27) C dX0_holds_27 rfl ?_
        refine r_bald (pc := 28) C dX0_holds_28 hx rfl (by omega) (by omega) ?_
        refine r_ti (nI (x t)) rfl ?_
        refine r_aload_n (pc := 29) C dX0_holds_29 rfl ?_
        refine r_iload_n (pc := 30) C dX0_holds_30 rfl ?_
        refine r_callJ (pc := 31) (np := 1) C dX0_holds_31 (gdV qM_RX0_27 qI_J0_charAt_5068e qS_J0_charAt_5068e qN_RJ0 qC_J0_charAt_5068e) (by decide +kernel) (by decide +kernel) rfl hi (c_J0_charAt hi t (by omega)) ⟨rfl, rfl, by decide, by decide⟩ rfl rfl (Nat.le_of_ble_eq_true rfl) ⟨Nat.zero_le _, Nat.zero_le _⟩ ?_
        rintro _ _ ⟨_, rfl, rfl, rfl⟩
        show G M S E (0, 0) g 34 [some (.ref (E.1 q)), some (.ref (S.2 (10 + i))), some (.int (nI t))] [.int (nI (chN i t)), .int (nI (x t))]
        refine r_icmp_eq (pc := 34) (tgt := 39) C dX0_holds_34 (by decide) (fun h34 => ?_) (fun h34 => ?_)
        · have h34 := c_eq (by omega) (by omega) h34
          refine r_iinc (pc := 39) (v := nI (t + 1)) C dX0_holds_39 rfl (nI_i1 _) (by decide) ?_
          refine G.eq (pc' := 42) (vs' := [some (.ref (E.1 q)), some (.ref (S.2 (10 + i))), some (.int (nI (t + 1)))]) (st' := []) ?_
          refine r_goto (pc := 42) (tgt := 15) C dX0_holds_42 (by decide) ?_
          exact (ih (lt_s hh (decide_eq_true h34)))
        · have h34 := c_ne (by omega) (by omega) h34
          refine r_iconst (pc := 37) (v := nI 0) C dX0_holds_37 (by decide +kernel) ?_
          exact r_iret (pc := 38) C Z dX0_holds_38 rfl (⟨by rw [show hoB L x i = false by unfold hoB; rw [show allB (fun k => decide (x k = chN i k)) L = false from allB_f ht (decide_eq_false h34), Bool.and_false]]; rfl, rfl⟩)
  · have h8 := c_ne (by omega) (by omega) h8
    refine r_iconst (pc := 11) (v := nI 0) C dX0_holds_11 (by decide +kernel) ?_
    exact r_iret (pc := 12) C Z dX0_holds_12 rfl (⟨by rw [show hoB L x i = false by unfold hoB; rw [show decide (strL.getD i 0 = L) = false from decide_eq_false h8]; rfl]; rfl, rfl⟩)
def flF (L : Nat) (x : Nat → Nat) : Int32 := bif hoB L x 0 then nI 1 else bif hoB L x 1 then nI 2 else bif hoB L x 2 then nI 3 else bif hoB L x 3 then nI 4 else bif hoB L x 4 then nI 5 else bif hoB L x 5 then nI 6 else nI 0
def flN (L : Nat) (x : Nat → Nat) : Nat := bif hoB L x 0 then 1 else bif hoB L x 1 then 2 else bif hoB L x 2 then 3 else bif hoB L x 3 then 4 else bif hoB L x 4 then 5 else bif hoB L x 5 then 6 else 0
theorem flN_le (L : Nat) (x : Nat → Nat) : flN L x ≤ 6 := by
  unfold flN
  cases hoB L x 0 <;> cases hoB L x 1 <;> cases hoB L x 2 <;> cases hoB L x 3 <;> cases hoB L x 4 <;> cases hoB L x 5 <;> decide
def oFlt (k : KV) : Int32 × KV := if flN k.2.2.2.2.2.2.1.1 k.2.2.2.2.2.2.1.2 = 0 then (-1, kIn k (0, k.2.2.2.2.2.2.1.2)) else (nI (it (koF (flN k.2.2.2.2.2.2.1.1 k.2.2.2.2.2.2.1.2)) k.2.2.2.2.2.1.1 (k.2.2.2.2.2.1.2, 0)).2, kPt (kIn k (0, k.2.2.2.2.2.2.1.2)) ((it (koF (flN k.2.2.2.2.2.2.1.1 k.2.2.2.2.2.2.1.2)) k.2.2.2.2.2.1.1 (k.2.2.2.2.2.1.2, 0)).2, (it (koF (flN k.2.2.2.2.2.2.1.1 k.2.2.2.2.2.2.1.2)) k.2.2.2.2.2.1.1 (k.2.2.2.2.2.1.2, 0)).1))
set_option maxHeartbeats 4000000 in
set_option maxRecDepth 100000 in
theorem c_X7_filterInInput {S : ST} {E : ET} {g : Nat → va_E} {hsn : Bool} {v v2 : SV} {rem rem2 : Nat → PV} {pt inp : Nat × (Nat → Nat)} {out : BV} {sl : Nat → SlV} (hB : BC S E g (hsn, v, rem, v2, rem2, pt, inp, out, sl)) (hO : SOk v) : CtI S E yX7_filterInInput cX7_filterInInput 1 (Option.some FieldType.int) rmX7_filterInInput [.ref (E.1 0)] g (fun u g' => u = nI (flN inp.1 inp.2) ∧ g = g') := by
  refine Ct.of RX7 (by decide +kernel) rfl (Nat.le_of_ble_eq_true rfl) (fun M C Z => ?_)
  refine G.eq (pc' := 0) (vs' := [some (.ref (E.1 0))]) (st' := []) ?_
  obtain ⟨ho, hL, hV, hSc, hWy, hPt, hIn, hOu, hSl⟩ := id hB
  have ho : Ce E g 0 (.inr (7, [.ref (E.1 1), .ref (E.1 127), .int (b2i hsn), .ref (E.1 253), .ref (E.1 266), .ref (E.1 268), .ref (E.1 270), .ref (E.1 271), .ref (E.1 273), .ref (E.1 275), .ref (E.1 277)])) := ho
  have hL : StL S E g 1 v rem := hL
  obtain ⟨pi, ra, hs, hl⟩ := id hL
  obtain ⟨hN4, hN, hr1⟩ := id hO
  have hIn : InAt S E g inp := hIn
  obtain ⟨⟨p0, hq⟩, hx, h128, hi60⟩ := id hIn
  refine r_aload_n (pc := 0) C dX7_filterInInput_0 rfl ?_
  refine r_getf (pc := 1) C dX7_filterInInput_1 fl_RX7_56 ho rfl ?_
  refine r_ldcW (pc := 4) C dX7_filterInInput_4 (i := 0) (by decide) rfl ?_
  refine r_callV (pc := 7) C dX7_filterInInput_7 cv_RX7_356 (c_X0_holds hq hx hi60 h128 (i := 0) (by decide)) ⟨rfl, rfl, by decide, by decide⟩ hq rfl rfl (Nat.le_of_ble_eq_true rfl) ⟨Nat.zero_le _, Nat.zero_le _⟩ ?_
  rintro _ _ ⟨_, rfl, rfl, rfl⟩
  show G M S E (0, 0) g 10 [some (.ref (E.1 0))] [.int (b2i (hoB inp.1 inp.2 0))]
  refine r_if_eq (pc := 10) (tgt := 15) C dX7_filterInInput_10 (by decide) (fun h10 => ?_) (fun h10 => ?_)
  · have h10 := b_f h10
    refine r_aload_n (pc := 15) C dX7_filterInInput_15 rfl ?_
    refine r_getf (pc := 16) C dX7_filterInInput_16 fl_RX7_56 ho rfl ?_
    refine r_ldcW (pc := 19) C dX7_filterInInput_19 (i := 1) (by decide) rfl ?_
    refine r_callV (pc := 22) C dX7_filterInInput_22 cv_RX7_356 (c_X0_holds hq hx hi60 h128 (i := 1) (by decide)) ⟨rfl, rfl, by decide, by decide⟩ hq rfl rfl (Nat.le_of_ble_eq_true rfl) ⟨Nat.zero_le _, Nat.zero_le _⟩ ?_
    rintro _ _ ⟨_, rfl, rfl, rfl⟩
    show G M S E (0, 0) g 25 [some (.ref (E.1 0))] [.int (b2i (hoB inp.1 inp.2 1))]
    refine r_if_eq (pc := 25) (tgt := 30) C dX7_filterInInput_25 (by decide) (fun h25 => ?_) (fun h25 => ?_)
    · have h25 := b_f h25
      refine r_aload_n (pc := 30) C dX7_filterInInput_30 rfl ?_
      refine r_getf (pc := 31) C dX7_filterInInput_31 fl_RX7_56 ho rfl ?_
      refine r_ldcW (pc := 34) C dX7_filterInInput_34 (i := 2) (by decide) rfl ?_
      refine r_callV (pc := 37) C dX7_filterInInput_37 cv_RX7_356 (c_X0_holds hq hx hi60 h128 (i := 2) (by decide)) ⟨rfl, rfl, by decide, by decide⟩ hq rfl rfl (Nat.le_of_ble_eq_true rfl) ⟨Nat.zero_le _, Nat.zero_le _⟩ ?_
      rintro _ _ ⟨_, rfl, rfl, rfl⟩
      show G M S E (0, 0) g 40 [some (.ref (E.1 0))] [.int (b2i (hoB inp.1 inp.2 2))]
      refine r_if_eq (pc := 40) (tgt := 45) C dX7_filterInInput_40 (by decide) (fun h40 => ?_) (fun h40 => ?_)
      · have h40 := b_f h40
        refine r_aload_n (pc := 45) C dX7_filterInInput_45 rfl ?_
        refine r_getf (pc := 46) C dX7_filterInInput_46 fl_RX7_56 ho rfl ?_
        refine r_ldcW (pc := 49) C dX7_filterInInput_49 (i := 3) (by decide) rfl ?_
        refine r_callV (pc := 52) C dX7_filterInInput_52 cv_RX7_356 (c_X0_holds hq hx hi60 h128 (i := 3) (by decide)) ⟨rfl, rfl, by decide, by decide⟩ hq rfl rfl (Nat.le_of_ble_eq_true rfl) ⟨Nat.zero_le _, Nat.zero_le _⟩ ?_
        rintro _ _ ⟨_, rfl, rfl, rfl⟩
        show G M S E (0, 0) g 55 [some (.ref (E.1 0))] [.int (b2i (hoB inp.1 inp.2 3))]
        refine r_if_eq (pc := 55) (tgt := 60) C dX7_filterInInput_55 (by decide) (fun h55 => ?_) (fun h55 => ?_)
        · have h55 := b_f h55
          refine r_aload_n (pc := 60) C dX7_filterInInput_60 rfl ?_
          refine r_getf (pc := 61) C dX7_filterInInput_61 fl_RX7_56 ho rfl ?_
          refine r_ldcW (pc := 64) C dX7_filterInInput_64 (i := 4) (by decide) rfl ?_
          refine r_callV (pc := 67) C dX7_filterInInput_67 cv_RX7_356 (c_X0_holds hq hx hi60 h128 (i := 4) (by decide)) ⟨rfl, rfl, by decide, by decide⟩ hq rfl rfl (Nat.le_of_ble_eq_true rfl) ⟨Nat.zero_le _, Nat.zero_le _⟩ ?_
          rintro _ _ ⟨_, rfl, rfl, rfl⟩
          show G M S E (0, 0) g 70 [some (.ref (E.1 0))] [.int (b2i (hoB inp.1 inp.2 4))]
          refine r_if_eq (pc := 70) (tgt := 75) C dX7_filterInInput_70 (by decide) (fun h70 => ?_) (fun h70 => ?_)
          · have h70 := b_f h70
            refine r_aload_n (pc := 75) C dX7_filterInInput_75 rfl ?_
            refine r_getf (pc := 76) C dX7_filterInInput_76 fl_RX7_56 ho rfl ?_
            refine r_ldcW (pc := 79) C dX7_filterInInput_79 (i := 5) (by decide) rfl ?_
            refine r_callV (pc := 82) C dX7_filterInInput_82 cv_RX7_356 (c_X0_holds hq hx hi60 h128 (i := 5) (by decide)) ⟨rfl, rfl, by decide, by decide⟩ hq rfl rfl (Nat.le_of_ble_eq_true rfl) ⟨Nat.zero_le _, Nat.zero_le _⟩ ?_
            rintro _ _ ⟨_, rfl, rfl, rfl⟩
            show G M S E (0, 0) g 85 [some (.ref (E.1 0))] [.int (b2i (hoB inp.1 inp.2 5))]
            refine r_if_eq (pc := 85) (tgt := 91) C dX7_filterInInput_85 (by decide) (fun h85 => ?_) (fun h85 => ?_)
            · have h85 := b_f h85
              refine r_iconst (pc := 91) (v := nI 0) C dX7_filterInInput_91 (by decide +kernel) ?_
              exact r_iret (pc := 92) C Z dX7_filterInInput_92 rfl (⟨by unfold flN; rw [h10, h25, h40, h55, h70, h85]; rfl, rfl⟩)
            · have h85 := b_t h85
              refine r_bipush (pc := 88) (v := nI 6) C dX7_filterInInput_88 (by decide +kernel) ?_
              exact r_iret (pc := 90) C Z dX7_filterInInput_90 rfl (⟨by unfold flN; rw [h10, h25, h40, h55, h70, h85]; rfl, rfl⟩)
          · have h70 := b_t h70
            refine r_iconst (pc := 73) (v := nI 5) C dX7_filterInInput_73 (by decide +kernel) ?_
            exact r_iret (pc := 74) C Z dX7_filterInInput_74 rfl (⟨by unfold flN; rw [h10, h25, h40, h55, h70]; rfl, rfl⟩)
        · have h55 := b_t h55
          refine r_iconst (pc := 58) (v := nI 4) C dX7_filterInInput_58 (by decide +kernel) ?_
          exact r_iret (pc := 59) C Z dX7_filterInInput_59 rfl (⟨by unfold flN; rw [h10, h25, h40, h55]; rfl, rfl⟩)
      · have h40 := b_t h40
        refine r_iconst (pc := 43) (v := nI 3) C dX7_filterInInput_43 (by decide +kernel) ?_
        exact r_iret (pc := 44) C Z dX7_filterInInput_44 rfl (⟨by unfold flN; rw [h10, h25, h40]; rfl, rfl⟩)
    · have h25 := b_t h25
      refine r_iconst (pc := 28) (v := nI 2) C dX7_filterInInput_28 (by decide +kernel) ?_
      exact r_iret (pc := 29) C Z dX7_filterInInput_29 rfl (⟨by unfold flN; rw [h10, h25]; rfl, rfl⟩)
  · have h10 := b_t h10
    refine r_iconst (pc := 13) (v := nI 1) C dX7_filterInInput_13 (by decide +kernel) ?_
    exact r_iret (pc := 14) C Z dX7_filterInInput_14 rfl (⟨by unfold flN; rw [h10]; rfl, rfl⟩)
set_option maxHeartbeats 4000000 in
set_option maxRecDepth 100000 in
theorem c_X7_filterPartitions {S : ST} {E : ET} {g : Nat → va_E} {hsn : Bool} {v v2 : SV} {rem rem2 : Nat → PV} {pt inp : Nat × (Nat → Nat)} {out : BV} {sl : Nat → SlV} (hB : BC S E g (hsn, v, rem, v2, rem2, pt, inp, out, sl)) (hO : SOk v) : CtI S E yX7_filterPartitions cX7_filterPartitions 2 (Option.some FieldType.int) rmX7_filterPartitions [.ref (E.1 0)] g (fun u g' => u = (oFlt (hsn, v, rem, v2, rem2, pt, inp, out, sl)).1 ∧ BC S E g' (oFlt (hsn, v, rem, v2, rem2, pt, inp, out, sl)).2 ∧ Fr g g' 0 286) := by
  refine Ct.of RX7 (by decide +kernel) rfl (Nat.le_of_ble_eq_true rfl) (fun M C Z => ?_)
  refine G.eq (pc' := 0) (vs' := [some (.ref (E.1 0)), none]) (st' := []) ?_
  obtain ⟨ho, hL, hV, hSc, hWy, hPt, hIn, hOu, hSl⟩ := id hB
  have ho : Ce E g 0 (.inr (7, [.ref (E.1 1), .ref (E.1 127), .int (b2i hsn), .ref (E.1 253), .ref (E.1 266), .ref (E.1 268), .ref (E.1 270), .ref (E.1 271), .ref (E.1 273), .ref (E.1 275), .ref (E.1 277)])) := ho
  have hL : StL S E g 1 v rem := hL
  obtain ⟨pi, ra, hs, hl⟩ := id hL
  obtain ⟨hN4, hN, hr1⟩ := id hO
  have hPt : PtAt S E g pt := hPt
  have hIn : InAt S E g inp := hIn
  obtain ⟨⟨p0, hq⟩, hx, h128, hi60⟩ := id hIn
  refine r_aload_n (pc := 0) C dX7_filterPartitions_0 rfl ?_
  refine r_callV (pc := 1) C dX7_filterPartitions_1 cv_RX7_230 (c_X7_filterInInput hB hO) ⟨rfl, rfl, by decide, by decide⟩ ho rfl rfl (Nat.le_of_ble_eq_true rfl) ⟨Nat.zero_le _, Nat.zero_le _⟩ ?_
  rintro _ _ ⟨_, rfl, rfl, rfl⟩
  show G M S E (0, 0) g 4 [some (.ref (E.1 0)), none] [.int (nI (flN inp.1 inp.2))]
  have hfl := flN_le inp.1 inp.2
  refine r_istore_n (pc := 4) C dX7_filterPartitions_4 (by decide) ?_
  refine G.eq (pc' := 5) (vs' := [some (.ref (E.1 0)), some (.int (nI (flN inp.1 inp.2)))]) (st' := []) ?_
  refine r_aload_n (pc := 5) C dX7_filterPartitions_5 rfl ?_
  refine r_getf (pc := 6) C dX7_filterPartitions_6 fl_RX7_56 ho rfl ?_
  refine r_iconst (pc := 9) (v := nI 0) C dX7_filterPartitions_9 (by decide +kernel) ?_
  refine r_putf (pc := 10) C dX7_filterPartitions_10 fp_RX7_234 hq rfl rfl (Nat.le_of_ble_eq_true rfl) ?_
  refine r_iload_n (pc := 13) C dX7_filterPartitions_13 rfl ?_
  refine r_if_ne (pc := 14) (tgt := 19) C dX7_filterPartitions_14 (by decide) (fun h14 => ?_) (fun h14 => ?_)
  · have h14 := z_ne (by omega) h14
    have hf2 : Fr g (va_up g 273 (.inr (0, [.ref (E.1 (273 + 1)), .int (nI 0), .int (nI p0)]))) 273 275 := (Fr.rf.up (by omega) (by omega))
    have hB2 := hB.inp hf2 (show InAt S E (va_up g 273 (.inr (0, [.ref (E.1 (273 + 1)), .int (nI 0), .int (nI p0)]))) (0, inp.2) from ⟨⟨p0, (Ce.new hq)⟩, (Ce.up hx (by omega)), h128, by omega⟩)
    refine r_aload_n (pc := 19) C dX7_filterPartitions_19 rfl ?_
    refine r_getf (pc := 20) C dX7_filterPartitions_20 fl_RX7_49 (Ce.up ho (by decide)) rfl ?_
    refine r_iload_n (pc := 23) C dX7_filterPartitions_23 rfl ?_
    refine r_callV (pc := 24) C dX7_filterPartitions_24 cv_RX7_235 (c_X3_keepOnly (Ce.up hPt.1 (by decide)) (Ce.up hPt.2.1 (by omega)) hPt.2.2.1 (flN inp.1 inp.2) hPt.2.2.2 (by omega) hfl) ⟨rfl, rfl, by decide, by decide⟩ (Ce.up hPt.1 (by decide)) rfl rfl (Nat.le_of_ble_eq_true rfl) ⟨Nat.zero_le _, Nat.zero_le _⟩ ?_
    rintro _ _ ⟨rfl, rfl⟩
    show G M S E (0, 0) (va_up (va_up (va_up g 273 (.inr (0, [.ref (E.1 (273 + 1)), .int (nI 0), .int (nI p0)]))) (271 + 1) (xB S 3696 (fun k => nI ((it (koF (flN inp.1 inp.2)) pt.1 (pt.2, 0)).1 k)))) 271 (.inr (3, [.ref (E.1 (271 + 1)), .int (nI ((it (koF (flN inp.1 inp.2)) pt.1 (pt.2, 0)).2))]))) 27 [some (.ref (E.1 0)), some (.int (nI (flN inp.1 inp.2)))] []
    refine r_aload_n (pc := 27) C dX7_filterPartitions_27 rfl ?_
    refine r_getf (pc := 28) C dX7_filterPartitions_28 fl_RX7_49 (Ce.up (Ce.up (Ce.up ho (by decide)) (by omega)) (by decide)) rfl ?_
    refine r_getf (pc := 31) C dX7_filterPartitions_31 fl_RX7_227 (Ce.new (Ce.up (Ce.up hPt.1 (by decide)) (by omega))) rfl ?_
    have hkl := koF_le (flN inp.1 inp.2) pt.2 pt.1
    exact r_iret (pc := 34) C Z dX7_filterPartitions_34 rfl (by rw [show oFlt (hsn, v, rem, v2, rem2, pt, inp, out, sl) = (nI (it (koF (flN inp.1 inp.2)) pt.1 (pt.2, 0)).2, kPt (kIn (hsn, v, rem, v2, rem2, pt, inp, out, sl) (0, inp.2)) ((it (koF (flN inp.1 inp.2)) pt.1 (pt.2, 0)).2, (it (koF (flN inp.1 inp.2)) pt.1 (pt.2, 0)).1)) from if_neg h14]; exact ⟨rfl, hB2.pt (k := kIn (hsn, v, rem, v2, rem2, pt, inp, out, sl) (0, inp.2)) (Fr.up (Fr.up (Fr.rf (lo := 271) (hi := 273)) (by omega) (by omega)) (by omega) (by omega)) ⟨(Ce.new (Ce.up (Ce.up hPt.1 (by decide)) (by omega))), (Ce.up (Ce.new (Ce.up hPt.2.1 (by omega))) (by omega)), koF_hb (flN inp.1 inp.2) hPt.2.2.1 pt.1, Nat.le_trans hkl hPt.2.2.2⟩, (((Fr.rf.up (by omega) (by omega)).up (by omega) (by omega)).up (by omega) (by omega))⟩)
  · have h14 := z_eq (by omega) h14
    have hf2 : Fr g (va_up g 273 (.inr (0, [.ref (E.1 (273 + 1)), .int (nI 0), .int (nI p0)]))) 273 275 := (Fr.rf.up (by omega) (by omega))
    have hB2 := hB.inp hf2 (show InAt S E (va_up g 273 (.inr (0, [.ref (E.1 (273 + 1)), .int (nI 0), .int (nI p0)]))) (0, inp.2) from ⟨⟨p0, (Ce.new hq)⟩, (Ce.up hx (by omega)), h128, by omega⟩)
    refine r_iconst (pc := 17) (v := (-1)) C dX7_filterPartitions_17 (by decide +kernel) ?_
    exact r_iret (pc := 18) C Z dX7_filterPartitions_18 rfl (by rw [show oFlt (hsn, v, rem, v2, rem2, pt, inp, out, sl) = (-1, kIn (hsn, v, rem, v2, rem2, pt, inp, out, sl) (0, inp.2)) from if_pos h14]; exact ⟨rfl, hB2, hf2.wide (by omega) (by omega)⟩)
