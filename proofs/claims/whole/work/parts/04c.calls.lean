/-! contracts, calls, returns -/
/-- what a method may touch: the row's cells and new ones -/
def Af (E : ET) (sz : Nat) : Nat → Prop := fun q => (∃ i : Nat, i < E.2 ∧ q = E.1 i) ∨ sz ≤ q
def Pw (S : ST) (E : ET) (g : Nat → va_E) (sz : Nat) (U : State) : Prop := U.heap.size = sz ∧ HP S E g U.heap ∧ HD (fun _ => True) E ∧ va_K S.1 vwCl (tyl S) U ∧ FX S (Af E sz) U U.heap
def Qw (S : ST) (E : ET) (A : Nat → Prop) (post : Option Value → (Nat → va_E) → Prop) : Array Value → State → Outcome → State → Prop := fun _ st oc t => (∃ (v : Option Value) (g' : Nat → va_E), oc = .returned v ∧ post v g' ∧ HP S E g' t.heap) ∧ va_F A st t
/-- a contract: over the role-heap g with the arguments av, y returns v and leaves g' with post v g' -/
def Ct (S : ST) (E : ET) (y : MethodName) (bytes : ByteArray) (maxL : Nat) (ret : Option FieldType) (rm : Room) (av : List Value) (g : Nat → va_E) (post : Option Value → (Nat → va_E) → Prop) : Prop :=
  ∀ (l : Launch) (sz : Nat), Met l y (.code y bytes maxL ret :: Tg) rm (va_Pc av (Pw S E g sz)) (Qw S E (Af E sz) post) 0 0 (Af E sz)
def CtV (S : ST) (E : ET) (y : MethodName) (bytes : ByteArray) (maxL : Nat) (ret : Option FieldType) (rm : Room) (av : List Value) (g : Nat → va_E) (post : (Nat → va_E) → Prop) : Prop := Ct S E y bytes maxL ret rm av g (fun v g' => v = none ∧ post g')
def CtI (S : ST) (E : ET) (y : MethodName) (bytes : ByteArray) (maxL : Nat) (ret : Option FieldType) (rm : Room) (av : List Value) (g : Nat → va_E) (post : Int32 → (Nat → va_E) → Prop) : Prop := Ct S E y bytes maxL ret rm av g (fun v g' => ∃ r : Int32, v = some (.int r) ∧ post r g')
def CtL (S : ST) (E : ET) (y : MethodName) (bytes : ByteArray) (maxL : Nat) (ret : Option FieldType) (rm : Room) (av : List Value) (g : Nat → va_E) (post : Int64 → (Nat → va_E) → Prop) : Prop := Ct S E y bytes maxL ret rm av g (fun v g' => ∃ r : Int64, v = some (.long r) ∧ post r g')
/-- the end that a method's body comes to -/
def Rt : MT → ST → ET → (Option Value → (Nat → va_E) → Prop) → Prop
  | (p, l, e, R, s, m, args, below, meth, c, A, Q), S, E, post => Q = MQ below (Qw S E A post) args s 0 0 A
def RtV (M : MT) (S : ST) (E : ET) (post : (Nat → va_E) → Prop) : Prop := Rt M S E (fun v g' => v = none ∧ post g')
def RtI (M : MT) (S : ST) (E : ET) (post : Int32 → (Nat → va_E) → Prop) : Prop := Rt M S E (fun v g' => ∃ r : Int32, v = some (.int r) ∧ post r g')
def RtL (M : MT) (S : ST) (E : ET) (post : Int64 → (Nat → va_E) → Prop) : Prop := Rt M S E (fun v g' => ∃ r : Int64, v = some (.long r) ∧ post r g')
theorem Ct.of {S : ST} {E : ET} {y : MethodName} {bytes : ByteArray} {maxL : Nat} {ret : Option FieldType} {rm : Room} {av : List Value} {g : Nat → va_E} {post : Option Value → (Nat → va_E) → Prop} (own : String) (hy : plainName y.cls = true) (hown : y.cls = own) (hlen : (lg_sl av).length ≤ maxL)
    (body : ∀ M : MT, Cx M S bytes maxL own ret rm → Rt M S E post → G M S E (0, 0) g 0 (ent maxL av) []) : Ct S E y bytes maxL ret rm av g post := by
  intro l sz
  refine Met.ofW (cc := bytes) (maxL := maxL) (ret := ret) hy rfl ?_
  intro p e s m args below meth c s₁ B hml hv
  obtain ⟨rfl, hsz, hP, hD0, hK, hF⟩ := hv
  have hts := atoms_spec (ws := .code y bytes maxL ret :: Tg) B.pre
  have hown' : s.vm.findClass y.cls = some m.cls := findClass_of_methodNamed B.named
  subst hsz
  have hb := body (p, l, e, rm, s, m, av.toArray, below, meth, c, Af E s.heap.size, MQ below (Qw S E (Af E s.heap.size) post) av.toArray s 0 0 (Af E s.heap.size))
    ⟨B.exec, B.bytes, hml, by rw [← hown]; exact hown', fun w hw => hts w (List.mem_cons_of_mem _ hw), B.returns, B.notSynchronized, hK, hF, fun q h => Or.inr h, rfl⟩ rfl
  rw [lg_entry_eq]
  have hl := ent_lh (av := av) hlen
  rw [← hml] at hl ⊢
  exact hb _ _ _ hP ⟨hD0.1, fun i hi => Or.inl ⟨i, hi, rfl⟩⟩ va_S.rf (by rw [hml] at hl ⊢; exact hl)
section GC
variable {M : MT} {S : ST} {E : ET} {g : Nat → va_E} {pc : Nat} {vs : List (Option Value)} {cc : ByteArray} {nL : Nat} {own : String} {ret : Option FieldType} {rm : Room}
theorem Cx.blind {S : ST} {E : ET} {g : Nat → va_E} {sz : Nat} {av : List Value} : FrameBlind (va_Pc av (Pw S E g sz)) := fun a U fr mk q => by
  obtain ⟨q0, q1, q2, q3, q4, q5⟩ := q
  exact ⟨q0, q1, q2, q3, va_K.moved (u := U) (U := U.calling fr mk a) (Vm.Alike.refl U.vm) q4, FX.same (u := U) (U := U.calling fr mk a) rfl rfl q5⟩
/-- returns -/
theorem r_iret {post : Int32 → (Nat → va_E) → Prop} {v : Int32} {ty : FieldType} (C : Cx M S cc nL own (some ty) rm) (Z : RtI M S E post) (d : decode cc pc = .ok (.ireturn, 1)) (hn : narrow ty (.int v) = .int v) (h : post v g) : G M S E (0, 0) g pc vs [.int v] := by
  obtain ⟨p, l, e, R, s, m, args, below, meth, c, A, Q⟩ := M
  obtain ⟨hx, hb, hml, hown, hts, hr, hlk, hK, hF, hA, hR⟩ := C
  intro H locs ls hP hD hS hl
  have hQ : Q = _ := Z
  rw [hQ]
  exact W.zret hx hb hr hn (fun t ht hW => ⟨⟨some (.int v), g, rfl, ⟨v, rfl, h⟩, by rw [ht]; exact hP⟩, hS.F ht⟩) hS.2.2 d hlk
theorem r_lret {post : Int64 → (Nat → va_E) → Prop} {v : Int64} (C : Cx M S cc nL own (some .long) rm) (Z : RtL M S E post) (d : decode cc pc = .ok (.lreturn, 1)) (h : post v g) : G M S E (0, 0) g pc vs [.long v] := by
  obtain ⟨p, l, e, R, s, m, args, below, meth, c, A, Q⟩ := M
  obtain ⟨hx, hb, hml, hown, hts, hr, hlk, hK, hF, hA, hR⟩ := C
  intro H locs ls hP hD hS hl
  have hQ : Q = _ := Z
  rw [hQ]
  exact W.lret hx hb hr (fun t ht hW => ⟨⟨some (.long v), g, rfl, ⟨v, rfl, h⟩, by rw [ht]; exact hP⟩, hS.F ht⟩) hS.2.2 d hlk
theorem r_vret {post : (Nat → va_E) → Prop} (C : Cx M S cc nL own none rm) (Z : RtV M S E post) (d : decode cc pc = .ok (.return_, 1)) (h : post g) : G M S E (0, 0) g pc vs [] := by
  obtain ⟨p, l, e, R, s, m, args, below, meth, c, A, Q⟩ := M
  obtain ⟨hx, hb, hml, hown, hts, hr, hlk, hK, hF, hA, hR⟩ := C
  intro H locs ls hP hD hS hl
  have hQ : Q = _ := Z
  rw [hQ]
  exact W.vret hx hb hr (fun t ht hW => ⟨⟨none, g, rfl, ⟨rfl, h⟩, by rw [ht]; exact hP⟩, hS.F ht⟩) hS.2.2 d hlk
theorem af_sub {E : ET} {A : Nat → Prop} {s : State} {H : Heap} {locs : List Loc} (hA : ∀ q, s.heap.size ≤ q → A q) (hD : HD A E) (hS : va_S A s.heap H locs) : ∀ q, Af E H.size q → A q := fun q h => by
  rcases h with ⟨i, hi, rfl⟩ | h
  · exact hD.2 i hi
  · exact hA q (Nat.le_trans hS.1 h)
/-- behind any call -/
theorem g_run {p : Program} {l : Launch} {e : Env} {R : Room} {s : State} {m : MethodId} {args : Array Value} {below : List Frame} {meth : Method} {c : Code} {A : Nat → Prop} {Q : State → Prop} {n : Nat × Nat} {st rest : List Value} {post : Option Value → (Nat → va_E) → Prop} {a : Array Value} {H : Heap} {locs : List Loc} {ls : Array Slot}
    (hrun : va_Run p l e R s m args below meth c H locs n.1 n.2 0 0 (F0 m pc ls st) rest (Qw S E (Af E H.size) post a) (Af E H.size))
    (kk : ∀ (v : Option Value) (g' : Nat → va_E), post v g' → G (p, l, e, R, s, m, args, below, meth, c, A, Q) S E n g' (pc + 3) vs (v.toList ++ rest))
    (hA : ∀ q, s.heap.size ≤ q → A q) (hD : HD A E) (hS : va_S A s.heap H locs) (hl : lh ls c.maxLocals vs) : W p l e R s m args below meth c H locs n.1 n.2 Q (F0 m pc ls st) := by
  have hf : ∀ q, Af E H.size q → A q := fun q h => by
    rcases h with ⟨i, hi, rfl⟩ | h
    · exact hD.2 i hi
    · exact hA q (Nat.le_trans hS.1 h)
  intro T hT X
  obtain ⟨v, st₀, t, T', L, h0, X', hL, e1, e2, ⟨⟨v', g', hv, hp, hP'⟩, hz, hk⟩, stp⟩ := hrun T hT X
  cases hv
  rw [h0] at hz hk
  obtain ⟨t2, a1, b1⟩ := kk v g' hp T'.heap (locs ++ L) ls (by rw [e1]; exact hP') hD
    ⟨Nat.le_trans hS.1 (by rw [e1]; exact hz), fun q h1 h2 => by rw [e1, hk q (Nat.lt_of_lt_of_le h1 hS.1) (fun z => h2 (hf q z))]; exact hS.2.1 q h1 h2, fun q hq => by
      rcases List.mem_append.mp hq with h | h
      · exact hS.2.2 q h
      · exact hf _ (hL q h)⟩ hl T' rfl X'
  exact ⟨t2, stp t2 a1, b1⟩
/-- a virtual call's words -/
def CV (own : String) (idx : Nat) (y : MethodName) (bytes : ByteArray) (maxL : Nat) (ret : Option FieldType) (ci np : Nat) : Prop := (vwCl[ci]?).map (fun q => q.1) = some y.cls ∧ GoodIn Tg (wsV own idx y.cls y (.code y bytes maxL ret :: Tg)) ∧ (y.cls ≠ "java/lang/invoke/MethodHandle" ∧ y.cls ≠ "java/lang/invoke/VarHandle") ∧ (parseMethodDescriptor y.desc).map (fun d => d.parameters.length) = some np
theorem CV.mk' {own : String} {idx : Nat} {y : MethodName} {bytes : ByteArray} {maxL : Nat} {ret : Option FieldType} {ci np : Nat} (h0 : (vwCl[ci]?).map (fun q => q.1) = some y.cls) (h1 : Cond.methodLink own idx y ∈ Tg) (h2 : Cond.instanceMethod y ∈ Tg) (h3 : Cond.selects y.cls y y ∈ Tg) (h4 : Cond.initialized y.cls ∈ Tg) (h5 : Cond.code y bytes maxL ret ∈ Tg) (h6 : y.cls ≠ "java/lang/invoke/MethodHandle" ∧ y.cls ≠ "java/lang/invoke/VarHandle") (h7 : (parseMethodDescriptor y.desc).map (fun d => d.parameters.length) = some np) : CV own idx y bytes maxL ret ci np := by
  refine ⟨h0, fun w hw => ?_, h6, h7⟩
  have hm : w ∈ Tg := by
    unfold wsV at hw
    rcases List.mem_append.mp hw with h | h
    · simp only [List.mem_cons, List.not_mem_nil, or_false] at h
      rcases h with rfl | rfl | rfl | rfl <;> assumption
    · rcases List.mem_cons.mp h with rfl | h
      · exact h5
      · exact h
  exact ⟨hm, Tg_good w hm⟩
def rmOk (rm' : Room) (maxL : Nat) (rm : Room) : Prop := rm'.cells = 0 ∧ rm'.slots = 0 ∧ rm'.frames + 1 ≤ rm.frames ∧ 8 + (maxL + 11) + rm'.locals ≤ rm.locals
theorem r_callV {n : Nat × Nat} {y : MethodName} {bytes : ByteArray} {maxL idx ci np i : Nat} {ret' : Option FieldType} {rm' : Room} {fs av rest st : List Value} {post : Option Value → (Nat → va_E) → Prop} (C : Cx M S cc nL own ret rm) (d : decode cc pc = .ok (.invokevirtual idx, 3)) (cv : CV own idx y bytes maxL ret' ci np) (hM : Ct S E y bytes maxL ret' rm' (.ref (E.1 i) :: av) g post) (hR' : rmOk rm' maxL rm) (hg : Ce E g i (.inr (ci, fs))) (hnp : av.length = np) (hst : st = av.reverse ++ .ref (E.1 i) :: rest) (hw : (rest.map fun v => v.category).sum ≤ 8) (hn : n.1 ≤ rm.cells ∧ n.2 ≤ rm.slots)
    (kk : ∀ (v : Option Value) (g' : Nat → va_E), post v g' → G M S E n g' (pc + 3) vs (v.toList ++ rest)) : G M S E n g pc vs st := by
  obtain ⟨p, l, e, R, s, m, args, below, meth, c, A, Q⟩ := M
  obtain ⟨hx, hb, hml, hown, hts, hr, hlk, hK, hF, hA, hR⟩ := C
  intro H locs ls hP hD hS hl
  obtain ⟨c0, c1, c2, c3⟩ := cv
  subst hR
  obtain ⟨q, hq, hqe⟩ := Option.map_eq_some_iff.mp c0
  refine g_run (st := st) (rest := rest) (va_runV (As := av) (rest := rest) (C := y.cls) ⟨hx, hb, rfl, hown, hts⟩ (hM l H.size) (cwV np hts c1 rfl hR'.1 hR'.2.1 ⟨rfl, c2.1, c2.2, c3⟩ ⟨hR'.2.2.1, hR'.2.2.2⟩) ⟨Cx.blind, ?_, fun U hU hW => ⟨rfl, by rw [hU], by rw [hU]; exact hP, ⟨hD.1, fun _ _ => trivial⟩, va_K.moved hW.alike hK, FX.call hW hU hS (af_sub hA hD hS) hF⟩⟩ rfl hnp hl.1 hst (lv_room (m := m) (pc := pc) (ls := ls) (rest := st) hw) d hn) kk hA hD hS hl
  have := va_recv hK hP.P hq hg.at
  rw [hqe] at this
  exact this
/-- a static call's words -/
def CS (own : String) (idx : Nat) (y : MethodName) (bytes : ByteArray) (maxL : Nat) (ret : Option FieldType) (np : Nat) : Prop := GoodIn Tg (va_wsS own idx y (.code y bytes maxL ret :: Tg)) ∧ (y.cls ≠ "java/lang/invoke/MethodHandle" ∧ y.cls ≠ "java/lang/invoke/VarHandle") ∧ (parseMethodDescriptor y.desc).map (fun d => d.parameters.length) = some np
theorem CS.mk' {own : String} {idx : Nat} {y : MethodName} {bytes : ByteArray} {maxL : Nat} {ret : Option FieldType} {np : Nat} (h1 : Cond.methodLink own idx y ∈ Tg) (h2 : Cond.static y ∈ Tg) (h4 : Cond.initialized y.cls ∈ Tg) (h5 : Cond.code y bytes maxL ret ∈ Tg) (h6 : y.cls ≠ "java/lang/invoke/MethodHandle" ∧ y.cls ≠ "java/lang/invoke/VarHandle") (h7 : (parseMethodDescriptor y.desc).map (fun d => d.parameters.length) = some np) : CS own idx y bytes maxL ret np := by
  refine ⟨fun w hw => ?_, h6, h7⟩
  have hm : w ∈ Tg := by
    unfold va_wsS at hw
    rcases List.mem_append.mp hw with h | h
    · simp only [List.mem_cons, List.not_mem_nil, or_false] at h
      rcases h with rfl | rfl | rfl <;> assumption
    · rcases List.mem_cons.mp h with rfl | h
      · exact h5
      · exact h
  exact ⟨hm, Tg_good w hm⟩
theorem r_callS {n : Nat × Nat} {y : MethodName} {bytes : ByteArray} {maxL idx np : Nat} {ret' : Option FieldType} {rm' : Room} {av rest st : List Value} {post : Option Value → (Nat → va_E) → Prop} (C : Cx M S cc nL own ret rm) (d : decode cc pc = .ok (.invokestatic idx, 3)) (cv : CS own idx y bytes maxL ret' np) (hM : Ct S E y bytes maxL ret' rm' av g post) (hR' : rmOk rm' maxL rm) (hnp : av.length = np) (hst : st = av.reverse ++ rest) (hw : (rest.map fun v => v.category).sum ≤ 8) (hn : n.1 ≤ rm.cells ∧ n.2 ≤ rm.slots)
    (kk : ∀ (v : Option Value) (g' : Nat → va_E), post v g' → G M S E n g' (pc + 3) vs (v.toList ++ rest)) : G M S E n g pc vs st := by
  obtain ⟨p, l, e, R, s, m, args, below, meth, c, A, Q⟩ := M
  obtain ⟨hx, hb, hml, hown, hts, hr, hlk, hK, hF, hA, hR⟩ := C
  intro H locs ls hP hD hS hl
  obtain ⟨c1, c2, c3⟩ := cv
  subst hR
  exact g_run (st := st) (rest := rest) (va_runS (As := av) (rest := rest) ⟨hx, hb, rfl, hown, hts⟩ (hM l H.size) (va_cwS np hts c1 rfl hR'.1 hR'.2.1 ⟨c2.1, c2.2, c3⟩ ⟨hR'.2.2.1, hR'.2.2.2⟩) ⟨Cx.blind, fun U hU hW => ⟨rfl, by rw [hU], by rw [hU]; exact hP, ⟨hD.1, fun _ _ => trivial⟩, va_K.moved hW.alike hK, FX.call hW hU hS (af_sub hA hD hS) hF⟩⟩ rfl hnp hl.1 hst (lv_room (m := m) (pc := pc) (ls := ls) (rest := st) hw) d hn) kk hA hD hS hl
/-- a static call over a nest -/
def CN (own : String) (idx : Nat) (y : MethodName) (bytes : ByteArray) (maxL : Nat) (ret : Option FieldType) (np : Nat) : Prop := (own, idx, y, RX7) ∈ nests ∧ Cond.static y ∈ Tg ∧ Cond.initialized y.cls ∈ Tg ∧ Cond.code y bytes maxL ret ∈ Tg ∧ (y.cls ≠ "java/lang/invoke/MethodHandle" ∧ y.cls ≠ "java/lang/invoke/VarHandle") ∧ (parseMethodDescriptor y.desc).map (fun d => d.parameters.length) = some np
theorem r_callN {n : Nat × Nat} {y : MethodName} {bytes : ByteArray} {maxL idx np : Nat} {ret' : Option FieldType} {rm' : Room} {av rest st : List Value} {post : Option Value → (Nat → va_E) → Prop} (C : Cx M S cc nL own ret rm) (d : decode cc pc = .ok (.invokestatic idx, 3)) (cv : CN own idx y bytes maxL ret' np) (hM : Ct S E y bytes maxL ret' rm' av g post) (hR' : rmOk rm' maxL rm) (hnp : av.length = np) (hst : st = av.reverse ++ rest) (hw : (rest.map fun v => v.category).sum ≤ 8) (hn : n.1 ≤ rm.cells ∧ n.2 ≤ rm.slots)
    (kk : ∀ (v : Option Value) (g' : Nat → va_E), post v g' → G M S E n g' (pc + 3) vs (v.toList ++ rest)) : G M S E n g pc vs st := by
  obtain ⟨p, l, e, R, s, m, args, below, meth, c, A, Q⟩ := M
  obtain ⟨hx, hb, hml, hown, hts, hr, hlk, hK, hF, hA, hR⟩ := C
  intro H locs ls hP hD hS hl
  obtain ⟨c1, c2, c3, c4, c5, c6⟩ := cv
  subst hR
  have hG : GoodIn Tg (.code y bytes maxL ret' :: Tg) := fun w hw => by
    have hm : w ∈ Tg := by
      rcases List.mem_cons.mp hw with rfl | h
      · exact c4
      · exact h
    exact ⟨hm, Tg_good w hm⟩
  exact g_run (st := st) (rest := rest) (va_runSN (As := av) (rest := rest) ⟨hx, hb, rfl, hown, hts⟩ (hM l H.size) ⟨va_cnB np hts hG rfl hR'.1 hR'.2.1 (hF.1.1.2.2.2 _ c1) (hts _ c3) ⟨c5.1, c5.2, c6⟩ ⟨hR'.2.2.1, hR'.2.2.2⟩, hts _ c2, trivial⟩ ⟨Cx.blind, fun U hU hW => ⟨rfl, by rw [hU], by rw [hU]; exact hP, ⟨hD.1, fun _ _ => trivial⟩, va_K.moved hW.alike hK, FX.call hW hU hS (af_sub hA hD hS) hF⟩⟩ rfl hnp hl.1 hst (lv_room (m := m) (pc := pc) (ls := ls) (rest := st) hw) d hn) kk hA hD hS hl
end GC
