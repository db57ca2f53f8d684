/-! what is known at the law's entry -/
theorem lw_known {args : Array Value} {s : State} (htg : ∀ w ∈ Tg, w.before args s = true) : ∃ D : va_G, ∀ (c : Nat) (q : vw_C), vwCl[c]? = some q → u_Kn s q.1 q.2.1 q.2.2 (D.1 c) (D.2 c) := by
  have h : ∀ c : Nat, ∃ q : ClassId × (Nat → Nat), ∀ x : vw_C, vwCl[c]? = some x → u_Kn s x.1 x.2.1 x.2.2 q.1 q.2 := fun c => match c with
    | 0 => by
      obtain ⟨cC, iS, h⟩ := u_known (T := TX0) (N := 3) htg uw_X0 (htg _ qA_RX0)
      exact ⟨(cC, iS), fun x hx => by cases hx; exact h⟩
    | 1 => by
      obtain ⟨cC, iS, h⟩ := u_known (T := TX1) (N := 2) htg uw_X1 (htg _ qA_RX1)
      exact ⟨(cC, iS), fun x hx => by cases hx; exact h⟩
    | 2 => by
      obtain ⟨cC, iS, h⟩ := u_known (T := TX2) (N := 3) htg uw_X2 (htg _ qA_RX2)
      exact ⟨(cC, iS), fun x hx => by cases hx; exact h⟩
    | 3 => by
      obtain ⟨cC, iS, h⟩ := u_known (T := TX3) (N := 2) htg uw_X3 (htg _ qA_RX3)
      exact ⟨(cC, iS), fun x hx => by cases hx; exact h⟩
    | 4 => by
      obtain ⟨cC, iS, h⟩ := u_known (T := TX4) (N := 4) htg uw_X4 (htg _ qA_RX4)
      exact ⟨(cC, iS), fun x hx => by cases hx; exact h⟩
    | 5 => by
      obtain ⟨cC, iS, h⟩ := u_known (T := TX5) (N := 6) htg uw_X5 (htg _ qA_RX5)
      exact ⟨(cC, iS), fun x hx => by cases hx; exact h⟩
    | 6 => by
      obtain ⟨cC, iS, h⟩ := u_known (T := TX6) (N := 2) htg uw_X6 (htg _ qA_RX6)
      exact ⟨(cC, iS), fun x hx => by cases hx; exact h⟩
    | 7 => by
      obtain ⟨cC, iS, h⟩ := u_known (T := TX7) (N := 11) htg uw_X7 (htg _ qA_RX7)
      exact ⟨(cC, iS), fun x hx => by cases hx; exact h⟩
    | 8 => by
      obtain ⟨cC, iS, h⟩ := u_known (T := TX8) (N := 32) htg uw_X8 (htg _ qA_RX8)
      exact ⟨(cC, iS), fun x hx => by cases hx; exact h⟩
    | n + 9 => ⟨(0, fun _ => 0), fun x hx => by
      have h9 : n + 9 < 9 := (List.getElem?_eq_some_iff.mp hx).1
      omega⟩
  obtain ⟨F, hF⟩ := Classical.axiomOfChoice h
  exact ⟨(fun c => (F c).1, fun c => (F c).2), fun c q hq => hF c q hq⟩
theorem arr_int {args : Array Value} {s : State} (h : (Cond.arrayClass FieldType.int).before args s = true) : ∃ cA : ClassId, ArrOfT s cA .int ∧ va_RA s cA .int := by
  obtain ⟨cA, kA, comp, hfind, hk, hkind⟩ := Cond.arrayClass_spec h
  exact ⟨cA, fun n z => ⟨fun k h => (by cases h), kA, hk, comp, hkind⟩, hfind⟩
theorem arr_long {args : Array Value} {s : State} (h : (Cond.arrayClass FieldType.long).before args s = true) : ∃ cA : ClassId, ArrOfT s cA .long ∧ va_RA s cA .long := by
  obtain ⟨cA, kA, comp, hfind, hk, hkind⟩ := Cond.arrayClass_spec h
  exact ⟨cA, fun n z => ⟨fun k h => (by cases h), kA, hk, comp, hkind⟩, hfind⟩
theorem arr_byte {args : Array Value} {s : State} (h : (Cond.arrayClass FieldType.byte).before args s = true) : ∃ cA : ClassId, ArrOfT s cA .byte ∧ va_RA s cA .byte := by
  obtain ⟨cA, kA, comp, hfind, hk, hkind⟩ := Cond.arrayClass_spec h
  exact ⟨cA, fun n z => ⟨fun k h => (by cases h), kA, hk, comp, hkind⟩, hfind⟩
theorem arr_arr {s : State} {t : FieldType} (h : va_AOA t s) : ∃ cA : ClassId, ArrOfT s cA (.array t) ∧ va_RA s cA (.array t) := by
  obtain ⟨comp, c, k, h1, h2, h3, h4, h5⟩ := aoA_spec h
  exact ⟨c, fun n z => ⟨fun k h => (by cases h), k, h3, comp, h4⟩, h5⟩
theorem arr_obj {s : State} {C : String} (h : va_AO C s) : ∃ cA : ClassId, ArrOfT s cA (.object C) ∧ va_RA s cA (.object C) := by
  obtain ⟨comp, c, k, h1, h2, h3, h4, h5⟩ := Cond.arrayOver_spec h
  exact ⟨c, fun n z => ⟨fun k h => (by cases h), k, h3, comp, h4⟩, k, comp, h3, h4, h1, h5⟩
theorem vk_S_cg {N : Nat} {len : List Nat} {byt : List (List Int32)} {adK adV adK' adV' : Nat → Nat} {A : Nat → Prop} {U : State} {H : Heap} (e : ∀ i, i < N → adK' i = adK i ∧ adV' i = adV i) (h : vk_S N len byt adK adV A U H) : vk_S N len byt adK' adV' A U H :=
  ⟨fun i hi => by rw [(e i hi).1, (e i hi).2]; exact h.1 i hi, fun i j hi hj q => h.2 i j hi hj (by rw [← (e i hi).1, ← (e j hj).1]; exact q)⟩
theorem lw_ao1 : Cond.arrayOver (FieldType.array FieldType.int) ∈ lw_tbl := by decide +kernel
theorem lw_ao2 : Cond.arrayOver (FieldType.object RX2) ∈ lw_tbl := by decide +kernel
theorem lw_ao3 : Cond.arrayOver (FieldType.object RX4) ∈ lw_tbl := by decide +kernel
theorem lw_ns : ∀ q ∈ nests, Cond.methodLinkNest q.1 q.2.1 q.2.2.1 q.2.2.2 ∈ lw_tbl := by decide +kernel
theorem lw_sr : ∀ i : Nat, i < 6 → Cond.stringRef RX7 (strK.getD i 0) (strT.getD i "") ∈ lw_tbl := by decide +kernel
theorem lw_z1 : Cond.laysStatic "java/lang/String" "COMPACT_STRINGS" "Z" ∈ lw_tbl := by decide +kernel
theorem lw_z2 : Cond.initialized "java/lang/String" ∈ lw_tbl := by decide +kernel
theorem lw_z3 : Cond.laysStatic "jdk/internal/util/Preconditions" "SIOOBE_FORMATTER" "Ljava/util/function/BiFunction;" ∈ lw_tbl := by decide +kernel
theorem lw_z4 : Cond.initialized "jdk/internal/util/Preconditions" ∈ lw_tbl := by decide +kernel
abbrev lw_gn : Jvm.Cond := Jvm.Cond.and given_1 narrow_1
theorem lw_g1 : ∀ i : Nat, i < 6 → Cond.exactly (.string RX7 (strK.getD i 0)) "java/lang/String" ∈ flatC lw_gn := by decide +kernel
theorem lw_g2 : ∀ i : Nat, i < 6 → Cond.eq (.field (.string RX7 (strK.getD i 0)) "java/lang/String" "coder" "B") (.int 0) ∈ flatC lw_gn := by decide +kernel
theorem lw_g3 : ∀ i : Nat, i < 6 → Cond.arrayOf (.field (.string RX7 (strK.getD i 0)) "java/lang/String" "value" "[B") .byte ∈ flatC lw_gn := by decide +kernel
theorem lw_g4 : ∀ i : Nat, i < 6 → Cond.eq (.length (.field (.string RX7 (strK.getD i 0)) "java/lang/String" "value" "[B")) (.int (Int32.ofNat (strL.getD i 0))) ∈ flatC lw_gn := by decide +kernel
theorem lw_g5 : ∀ i : Nat, i < 6 → ∀ j : Nat, j < strL.getD i 0 → Cond.eq (.elem (.field (.string RX7 (strK.getD i 0)) "java/lang/String" "value" "[B") (.int (Int32.ofNat j))) (.int ((strB.getD i []).getD j 0)) ∈ flatC lw_gn := by decide +kernel
theorem lw_g6 : ∀ i : Nat, i < 6 → ∀ j : Nat, j < 6 → i ≠ j → Cond.not (Cond.eq (.string RX7 (strK.getD i 0)) (.string RX7 (strK.getD j 0))) ∈ flatC lw_gn ∨ Cond.not (Cond.eq (.string RX7 (strK.getD j 0)) (.string RX7 (strK.getD i 0))) ∈ flatC lw_gn := by decide +kernel
theorem lw_g7 : Cond.eq (.static "java/lang/String" "COMPACT_STRINGS" "Z") (.int 1) ∈ flatC lw_gn := by decide +kernel
theorem lw_g8 : Cond.isRef (.static "jdk/internal/util/Preconditions" "SIOOBE_FORMATTER" "Ljava/util/function/BiFunction;") ∈ flatC lw_gn := by decide +kernel
theorem lw_ctx {args : Array Value} {s : State} (hts : ∀ w ∈ lw_tbl, w.before args s = true) (hgv : lw_gn.before args s = true) : ∃ S : ST, va_K S.1 vwCl (tyl S) s ∧ FX S (fun q => s.heap.size ≤ q) s s.heap := by
  have htg : ∀ w ∈ Tg, w.before args s = true := fun w hw => hts w (List.mem_filter.mp hw).1
  have hg := flat_of_before _ hgv
  have hA : ∀ a : Nat, a < s.heap.size → ¬ (fun q : Nat => s.heap.size ≤ q) a := fun a h q => by
    have q : s.heap.size ≤ a := q
    omega
  obtain ⟨D, hD⟩ := lw_known htg
  have ao1 : va_AOA .int s := hts _ lw_ao1
  have ao2 : va_AO RX2 s := va_AO.of (hts _ lw_ao2)
  have ao3 : va_AO RX4 s := va_AO.of (hts _ lw_ao3)
  obtain ⟨c0, a0⟩ := arr_int (htg _ qY_int)
  obtain ⟨c1, a1⟩ := arr_long (htg _ qY_long)
  obtain ⟨c2, a2⟩ := arr_byte (htg _ qY_byte)
  obtain ⟨c3, a3⟩ := arr_arr ao1
  obtain ⟨c4, a4⟩ := arr_obj ao2
  obtain ⟨c5, a5⟩ := arr_obj ao3
  obtain ⟨adK, adV, hS, he⟩ := vk_Sof (args := args) (s := s) (N := 6) (tm := fun i => .string RX7 (strK.getD i 0)) (len := strL) (byt := strB) (A := fun q => s.heap.size ≤ q) (by decide) (fun i hi => hg _ (lw_g1 i hi)) (fun i hi => hg _ (lw_g2 i hi)) (fun i hi => hg _ (lw_g3 i hi)) (fun i hi => hg _ (lw_g4 i hi)) (fun i hi j hj => hg _ (lw_g5 i hi j hj)) (fun i j hi hj hne => (lw_g6 i hi j hj hne).imp (fun h => hg _ h) (fun h => hg _ h)) hA
  refine ⟨(D, fun k => if k < 10 then [c0, c1, c2, c3, c4, c5].getD k 0 else if k < 20 then adK (k - 10) else adV (k - 20)), ⟨hD, fun k q hq => ?_⟩, ⟨⟨ao1, ao2, ao3, fun q hq => ?_⟩, fun i hi => ?_⟩, ?_, ?_, ?_⟩
  · match k, hq with
    | 0, hq => cases hq; exact a0
    | 1, hq => cases hq; exact a1
    | 2, hq => cases hq; exact a2
    | 3, hq => cases hq; exact a3
    | 4, hq => cases hq; exact a4
    | 5, hq => cases hq; exact a5
    | k + 6, hq =>
      have h9 : k + 6 < 6 := (List.getElem?_eq_some_iff.mp hq).1
      omega
  · exact va_tabs (c := .methodLinkNest q.1 q.2.1 q.2.2.1 q.2.2.2) rfl rfl (hts _ (lw_ns q hq))
  · refine vk_R.of (hts _ (lw_sr i hi)) ?_
    show _ = some (Value.ref (if 10 + i < 10 then _ else if 10 + i < 20 then adK (10 + i - 10) else adV (10 + i - 20)))
    rw [if_neg (by omega), if_pos (by omega), show 10 + i - 10 = i by omega]
    exact he i hi
  · refine vk_S_cg (fun i hi => ⟨?_, ?_⟩) hS
    · show (if 10 + i < 10 then _ else if 10 + i < 20 then adK (10 + i - 10) else adV (10 + i - 20)) = _
      rw [if_neg (by omega), if_pos (by omega), show 10 + i - 10 = i by omega]
    · show (if 20 + i < 10 then _ else if 20 + i < 20 then adK (20 + i - 10) else adV (20 + i - 20)) = _
      rw [if_neg (by omega), if_neg (by omega), show 20 + i - 20 = i by omega]
  · exact va_Zof (hts _ lw_z1) (hts _ lw_z2) (va_eqt (hg _ lw_g7)) hA
  · exact va_Zqof (hts _ lw_z3) (hts _ lw_z4) (hg _ lw_g8) hA
theorem BC.gr {S : ST} {F : Nat → Nat} {k k1 : Nat} {g : Nat → va_E} {K : KV} (c : BC S (F, k) g K) (h : k ≤ k1) : BC S (F, k1) g K := by
  obtain ⟨o, s1, s2, ⟨⟨v, p⟩, w1, w2⟩, ⟨f, wy⟩, ⟨p1, p2, p3, p4⟩, ⟨⟨q, i1⟩, i2, i3, i4⟩, ⟨u1, u2, u3⟩, t1, t2⟩ := c
  exact ⟨Ce.gr o h, s1.gr h, s2.gr h, ⟨⟨v, p.gr h⟩, w1.gr h, w2.gr h⟩, ⟨f, wy.gr h⟩, ⟨p1.gr h, p2.gr h, p3, p4⟩, ⟨⟨q, i1.gr h⟩, i2.gr h, i3, i4⟩, ⟨u1.gr h, u2.gr h, u3⟩, t1.gr h, fun j hj => ⟨(t2 j hj).1.gr h, (t2 j hj).2.1.gr h, (t2 j hj).2.2.1, (t2 j hj).2.2.2⟩⟩
