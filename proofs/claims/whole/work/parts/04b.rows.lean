/-- the judgement: from role-heap g at pc with slots vs and stack st the machine comes to its end -/
def G : MT → ST → ET → Nat × Nat → (Nat → va_E) → Nat → List (Option Value) → List Value → Prop
  | (p, l, e, R, s, m, args, below, meth, c, A, Q), S, E, n, g, pc, vs, st => ∀ (H : Heap) (locs : List Loc) (ls : Array Slot), HP S E g H → HD A E → va_S A s.heap H locs → lh ls c.maxLocals vs → W p l e R s m args below meth c H locs n.1 n.2 Q (F0 m pc ls st)
/-- what stands through a whole method -/
def Cx : MT → ST → ByteArray → Nat → String → Option FieldType → Room → Prop
  | (p, l, e, R, s, m, args, below, meth, c, A, Q), S, cc, nL, own, ret, rm => p.tables.exec = Jvm.exec ∧ c.code = cc ∧ c.maxLocals = nL ∧ s.vm.findClass own = some m.cls ∧ (∀ w ∈ Tg, w.before args s = true) ∧ meth.sig.returnType = ret ∧ meth.locks = false ∧ va_K S.1 vwCl (tyl S) s ∧ FX S A s s.heap ∧ (∀ q, s.heap.size ≤ q → A q) ∧ R = rm
section GR
variable {M : MT} {S : ST} {E : ET} {n : Nat × Nat} {g : Nat → va_E} {pc : Nat} {vs : List (Option Value)} {rest : List Value} {cc : ByteArray} {nL : Nat} {own : String} {ret : Option FieldType} {rm : Room}
theorem G.eq {vs' : List (Option Value)} {st st' : List Value} {pc' : Nat} (k : G M S E n g pc' vs' st') (h1 : pc = pc' := by rfl) (h2 : vs = vs' := by rfl) (h3 : st = st' := by rfl) : G M S E n g pc vs st := by subst h1 h2 h3; exact k
theorem G.heap {g' : Nat → va_E} {st : List Value} (h : g = g') (k : G M S E n g' pc vs st) : G M S E n g pc vs st := by subst h; exact k

theorem r_iconst {k : Int} {v : Int32} (C : Cx M S cc nL own ret rm) (d : decode cc pc = .ok (.iconst k, 1)) (hv : Int32.ofInt k = v) (kk : G M S E n g (pc + 1) vs (.int v :: rest)) : G M S E n g pc vs (rest) := by
  obtain ⟨p, l, e, R, s, m, args, below, meth, c, A, Q⟩ := M
  obtain ⟨hx, hb, hml, hown, hts, hr, hlk, hK, hF, hA, hR⟩ := C
  intro H locs ls hP hD hS hl
  exact lv_iconst hx hb d hv (kk H locs ls hP hD hS hl)
theorem r_bipush {k : Int} {v : Int32} (C : Cx M S cc nL own ret rm) (d : decode cc pc = .ok (.bipush k, 2)) (hv : (Int8.ofInt k).toInt32 = v) (kk : G M S E n g (pc + 2) vs (.int v :: rest)) : G M S E n g pc vs (rest) := by
  obtain ⟨p, l, e, R, s, m, args, below, meth, c, A, Q⟩ := M
  obtain ⟨hx, hb, hml, hown, hts, hr, hlk, hK, hF, hA, hR⟩ := C
  intro H locs ls hP hD hS hl
  exact lv_bipush hx hb d hv (kk H locs ls hP hD hS hl)
theorem r_sipush {k : Int} {v : Int32} (C : Cx M S cc nL own ret rm) (d : decode cc pc = .ok (.sipush k, 3)) (hv : (Int16.ofInt k).toInt32 = v) (kk : G M S E n g (pc + 3) vs (.int v :: rest)) : G M S E n g pc vs (rest) := by
  obtain ⟨p, l, e, R, s, m, args, below, meth, c, A, Q⟩ := M
  obtain ⟨hx, hb, hml, hown, hts, hr, hlk, hK, hF, hA, hR⟩ := C
  intro H locs ls hP hD hS hl
  exact lv_sipush hx hb d hv (kk H locs ls hP hD hS hl)
theorem r_lconst {k : Fin 2} {v : Int64} (C : Cx M S cc nL own ret rm) (d : decode cc pc = .ok (.lconst k, 1)) (hv : Int64.ofNat (k : Nat) = v) (kk : G M S E n g (pc + 1) vs (.long v :: rest)) : G M S E n g pc vs (rest) := by
  obtain ⟨p, l, e, R, s, m, args, below, meth, c, A, Q⟩ := M
  obtain ⟨hx, hb, hml, hown, hts, hr, hlk, hK, hF, hA, hR⟩ := C
  intro H locs ls hP hD hS hl
  exact lv_lconst hx hb d hv (kk H locs ls hP hD hS hl)
theorem r_iload_n {k : Fin 4} {x : Int32} (C : Cx M S cc nL own ret rm) (d : decode cc pc = .ok (.iload_n k, 1)) (h : vs[(k : Nat)]? = some (some (.int x))) (kk : G M S E n g (pc + 1) vs (.int x :: rest)) : G M S E n g pc vs (rest) := by
  obtain ⟨p, l, e, R, s, m, args, below, meth, c, A, Q⟩ := M
  obtain ⟨hx, hb, hml, hown, hts, hr, hlk, hK, hF, hA, hR⟩ := C
  intro H locs ls hP hD hS hl
  exact lv_iload_n hx hb d rfl (hl.2.2 _ _ h) (kk H locs ls hP hD hS hl)
theorem r_iload {k : Nat} {x : Int32} (C : Cx M S cc nL own ret rm) (d : decode cc pc = .ok (.iload k, 2)) (h : vs[k]? = some (some (.int x))) (kk : G M S E n g (pc + 2) vs (.int x :: rest)) : G M S E n g pc vs (rest) := by
  obtain ⟨p, l, e, R, s, m, args, below, meth, c, A, Q⟩ := M
  obtain ⟨hx, hb, hml, hown, hts, hr, hlk, hK, hF, hA, hR⟩ := C
  intro H locs ls hP hD hS hl
  exact lv_iload hx hb d (hl.2.2 _ _ h) (kk H locs ls hP hD hS hl)
theorem r_istore_n {k : Fin 4} {x : Int32} (C : Cx M S cc nL own ret rm) (d : decode cc pc = .ok (.istore_n k, 1)) (hn : (k : Nat) < nL) (kk : G M S E n g (pc + 1) (sv1 vs (k : Nat) (.int x)) rest) : G M S E n g pc vs (.int x :: rest) := by
  obtain ⟨p, l, e, R, s, m, args, below, meth, c, A, Q⟩ := M
  obtain ⟨hx, hb, hml, hown, hts, hr, hlk, hK, hF, hA, hR⟩ := C
  intro H locs ls hP hD hS hl
  exact lv_istore_n hx hb d rfl hl.has (by rw [hml]; exact hn) rfl (fun ls' h' => kk H locs ls' hP hD hS (lh.st1 (ls := ls) h'))
theorem r_istore {k : Nat} {x : Int32} (C : Cx M S cc nL own ret rm) (d : decode cc pc = .ok (.istore k, 2)) (hn : k < nL) (kk : G M S E n g (pc + 2) (sv1 vs k (.int x)) rest) : G M S E n g pc vs (.int x :: rest) := by
  obtain ⟨p, l, e, R, s, m, args, below, meth, c, A, Q⟩ := M
  obtain ⟨hx, hb, hml, hown, hts, hr, hlk, hK, hF, hA, hR⟩ := C
  intro H locs ls hP hD hS hl
  exact lv_istore hx hb d hl.has (by rw [hml]; exact hn) rfl (fun ls' h' => kk H locs ls' hP hD hS (lh.st1 (ls := ls) h'))
theorem r_lload_n {k : Fin 4} {x : Int64} (C : Cx M S cc nL own ret rm) (d : decode cc pc = .ok (.lload_n k, 1)) (h : vs[(k : Nat)]? = some (some (.long x))) (kk : G M S E n g (pc + 1) vs (.long x :: rest)) : G M S E n g pc vs (rest) := by
  obtain ⟨p, l, e, R, s, m, args, below, meth, c, A, Q⟩ := M
  obtain ⟨hx, hb, hml, hown, hts, hr, hlk, hK, hF, hA, hR⟩ := C
  intro H locs ls hP hD hS hl
  exact lv_lload_n hx hb d rfl (hl.2.2 _ _ h) (kk H locs ls hP hD hS hl)
theorem r_lload {k : Nat} {x : Int64} (C : Cx M S cc nL own ret rm) (d : decode cc pc = .ok (.lload k, 2)) (h : vs[k]? = some (some (.long x))) (kk : G M S E n g (pc + 2) vs (.long x :: rest)) : G M S E n g pc vs (rest) := by
  obtain ⟨p, l, e, R, s, m, args, below, meth, c, A, Q⟩ := M
  obtain ⟨hx, hb, hml, hown, hts, hr, hlk, hK, hF, hA, hR⟩ := C
  intro H locs ls hP hD hS hl
  exact lv_lload hx hb d (hl.2.2 _ _ h) (kk H locs ls hP hD hS hl)
theorem r_lstore_n {k : Fin 4} {x : Int64} (C : Cx M S cc nL own ret rm) (d : decode cc pc = .ok (.lstore_n k, 1)) (hn : (k : Nat) + 1 < nL) (kk : G M S E n g (pc + 1) (sv2 vs (k : Nat) (.long x)) rest) : G M S E n g pc vs (.long x :: rest) := by
  obtain ⟨p, l, e, R, s, m, args, below, meth, c, A, Q⟩ := M
  obtain ⟨hx, hb, hml, hown, hts, hr, hlk, hK, hF, hA, hR⟩ := C
  intro H locs ls hP hD hS hl
  exact lv_lstore_n hx hb d rfl hl.has (by rw [hml]; exact hn) rfl (fun ls' h' => kk H locs ls' hP hD hS (lh.st2 (ls := ls) h'))
theorem r_lstore {k : Nat} {x : Int64} (C : Cx M S cc nL own ret rm) (d : decode cc pc = .ok (.lstore k, 2)) (hn : k + 1 < nL) (kk : G M S E n g (pc + 2) (sv2 vs k (.long x)) rest) : G M S E n g pc vs (.long x :: rest) := by
  obtain ⟨p, l, e, R, s, m, args, below, meth, c, A, Q⟩ := M
  obtain ⟨hx, hb, hml, hown, hts, hr, hlk, hK, hF, hA, hR⟩ := C
  intro H locs ls hP hD hS hl
  exact lv_lstore hx hb d hl.has (by rw [hml]; exact hn) rfl (fun ls' h' => kk H locs ls' hP hD hS (lh.st2 (ls := ls) h'))
theorem r_aload_n {k : Fin 4} {x : Nat} (C : Cx M S cc nL own ret rm) (d : decode cc pc = .ok (.aload_n k, 1)) (h : vs[(k : Nat)]? = some (some (.ref x))) (kk : G M S E n g (pc + 1) vs (.ref x :: rest)) : G M S E n g pc vs (rest) := by
  obtain ⟨p, l, e, R, s, m, args, below, meth, c, A, Q⟩ := M
  obtain ⟨hx, hb, hml, hown, hts, hr, hlk, hK, hF, hA, hR⟩ := C
  intro H locs ls hP hD hS hl
  exact lv_aload_n hx hb d rfl (hl.2.2 _ _ h) (kk H locs ls hP hD hS hl)
theorem r_aload {k : Nat} {x : Nat} (C : Cx M S cc nL own ret rm) (d : decode cc pc = .ok (.aload k, 2)) (h : vs[k]? = some (some (.ref x))) (kk : G M S E n g (pc + 2) vs (.ref x :: rest)) : G M S E n g pc vs (rest) := by
  obtain ⟨p, l, e, R, s, m, args, below, meth, c, A, Q⟩ := M
  obtain ⟨hx, hb, hml, hown, hts, hr, hlk, hK, hF, hA, hR⟩ := C
  intro H locs ls hP hD hS hl
  exact lv_aload hx hb d (hl.2.2 _ _ h) (kk H locs ls hP hD hS hl)
theorem r_astore_n {k : Fin 4} {x : Nat} (C : Cx M S cc nL own ret rm) (d : decode cc pc = .ok (.astore_n k, 1)) (hn : (k : Nat) < nL) (kk : G M S E n g (pc + 1) (sv1 vs (k : Nat) (.ref x)) rest) : G M S E n g pc vs (.ref x :: rest) := by
  obtain ⟨p, l, e, R, s, m, args, below, meth, c, A, Q⟩ := M
  obtain ⟨hx, hb, hml, hown, hts, hr, hlk, hK, hF, hA, hR⟩ := C
  intro H locs ls hP hD hS hl
  exact lv_astore_n hx hb d rfl hl.has (by rw [hml]; exact hn) rfl (fun ls' h' => kk H locs ls' hP hD hS (lh.st1 (ls := ls) h'))
theorem r_astore {k : Nat} {x : Nat} (C : Cx M S cc nL own ret rm) (d : decode cc pc = .ok (.astore k, 2)) (hn : k < nL) (kk : G M S E n g (pc + 2) (sv1 vs k (.ref x)) rest) : G M S E n g pc vs (.ref x :: rest) := by
  obtain ⟨p, l, e, R, s, m, args, below, meth, c, A, Q⟩ := M
  obtain ⟨hx, hb, hml, hown, hts, hr, hlk, hK, hF, hA, hR⟩ := C
  intro H locs ls hP hD hS hl
  exact lv_astore hx hb d hl.has (by rw [hml]; exact hn) rfl (fun ls' h' => kk H locs ls' hP hD hS (lh.st1 (ls := ls) h'))
theorem r_iinc {i : Nat} {k : Int} {x v : Int32} (C : Cx M S cc nL own ret rm) (d : decode cc pc = .ok (.iinc i k, 3)) (h : vs[i]? = some (some (.int x))) (hv : x + Int32.ofInt k = v) (hn : i < nL) (kk : G M S E n g (pc + 3) (sv1 vs i (.int v)) rest) : G M S E n g pc vs rest := by
  obtain ⟨p, l, e, R, s, m, args, below, meth, c, A, Q⟩ := M
  obtain ⟨hx, hb, hml, hown, hts, hr, hlk, hK, hF, hA, hR⟩ := C
  intro H locs ls hP hD hS hl
  obtain ⟨q, hq⟩ := List.getElem?_of_mem ((vl_mem vs 0 (i, .int x)).mpr ⟨Nat.zero_le _, h⟩)
  exact lv_iinc hx hb d hl.has hq hv (by rw [hml]; exact hn) rfl (fun ls' h' => kk H locs ls' hP hD hS (lh.st1 (ls := ls) h'))
theorem r_iadd {x y : Int32} (C : Cx M S cc nL own ret rm) (d : decode cc pc = .ok (.iadd, 1))  (kk : G M S E n g (pc + 1) vs (.int (x + y) :: rest)) : G M S E n g pc vs (.int y :: .int x :: rest) := by
  obtain ⟨p, l, e, R, s, m, args, below, meth, c, A, Q⟩ := M
  obtain ⟨hx, hb, hml, hown, hts, hr, hlk, hK, hF, hA, hR⟩ := C
  intro H locs ls hP hD hS hl
  exact lv_iadd hx hb d (kk H locs ls hP hD hS hl)
theorem r_isub {x y : Int32} (C : Cx M S cc nL own ret rm) (d : decode cc pc = .ok (.isub, 1))  (kk : G M S E n g (pc + 1) vs (.int (x - y) :: rest)) : G M S E n g pc vs (.int y :: .int x :: rest) := by
  obtain ⟨p, l, e, R, s, m, args, below, meth, c, A, Q⟩ := M
  obtain ⟨hx, hb, hml, hown, hts, hr, hlk, hK, hF, hA, hR⟩ := C
  intro H locs ls hP hD hS hl
  exact lv_isub hx hb d (kk H locs ls hP hD hS hl)
theorem r_imul {x y : Int32} (C : Cx M S cc nL own ret rm) (d : decode cc pc = .ok (.imul, 1))  (kk : G M S E n g (pc + 1) vs (.int (x * y) :: rest)) : G M S E n g pc vs (.int y :: .int x :: rest) := by
  obtain ⟨p, l, e, R, s, m, args, below, meth, c, A, Q⟩ := M
  obtain ⟨hx, hb, hml, hown, hts, hr, hlk, hK, hF, hA, hR⟩ := C
  intro H locs ls hP hD hS hl
  exact lv_imul hx hb d (kk H locs ls hP hD hS hl)
theorem r_iand {x y : Int32} (C : Cx M S cc nL own ret rm) (d : decode cc pc = .ok (.iand, 1))  (kk : G M S E n g (pc + 1) vs (.int (x &&& y) :: rest)) : G M S E n g pc vs (.int y :: .int x :: rest) := by
  obtain ⟨p, l, e, R, s, m, args, below, meth, c, A, Q⟩ := M
  obtain ⟨hx, hb, hml, hown, hts, hr, hlk, hK, hF, hA, hR⟩ := C
  intro H locs ls hP hD hS hl
  exact lv_iand hx hb d (kk H locs ls hP hD hS hl)
theorem r_ior {x y : Int32} (C : Cx M S cc nL own ret rm) (d : decode cc pc = .ok (.ior, 1))  (kk : G M S E n g (pc + 1) vs (.int (x ||| y) :: rest)) : G M S E n g pc vs (.int y :: .int x :: rest) := by
  obtain ⟨p, l, e, R, s, m, args, below, meth, c, A, Q⟩ := M
  obtain ⟨hx, hb, hml, hown, hts, hr, hlk, hK, hF, hA, hR⟩ := C
  intro H locs ls hP hD hS hl
  exact lv_ior hx hb d (kk H locs ls hP hD hS hl)
theorem r_ixor {x y : Int32} (C : Cx M S cc nL own ret rm) (d : decode cc pc = .ok (.ixor, 1))  (kk : G M S E n g (pc + 1) vs (.int (x ^^^ y) :: rest)) : G M S E n g pc vs (.int y :: .int x :: rest) := by
  obtain ⟨p, l, e, R, s, m, args, below, meth, c, A, Q⟩ := M
  obtain ⟨hx, hb, hml, hown, hts, hr, hlk, hK, hF, hA, hR⟩ := C
  intro H locs ls hP hD hS hl
  exact lv_ixor hx hb d (kk H locs ls hP hD hS hl)
theorem r_ladd {x y : Int64} (C : Cx M S cc nL own ret rm) (d : decode cc pc = .ok (.ladd, 1))  (kk : G M S E n g (pc + 1) vs (.long (x + y) :: rest)) : G M S E n g pc vs (.long y :: .long x :: rest) := by
  obtain ⟨p, l, e, R, s, m, args, below, meth, c, A, Q⟩ := M
  obtain ⟨hx, hb, hml, hown, hts, hr, hlk, hK, hF, hA, hR⟩ := C
  intro H locs ls hP hD hS hl
  exact lv_ladd hx hb d (kk H locs ls hP hD hS hl)
theorem r_lsub {x y : Int64} (C : Cx M S cc nL own ret rm) (d : decode cc pc = .ok (.lsub, 1))  (kk : G M S E n g (pc + 1) vs (.long (x - y) :: rest)) : G M S E n g pc vs (.long y :: .long x :: rest) := by
  obtain ⟨p, l, e, R, s, m, args, below, meth, c, A, Q⟩ := M
  obtain ⟨hx, hb, hml, hown, hts, hr, hlk, hK, hF, hA, hR⟩ := C
  intro H locs ls hP hD hS hl
  exact lv_lsub hx hb d (kk H locs ls hP hD hS hl)
theorem r_lmul {x y : Int64} (C : Cx M S cc nL own ret rm) (d : decode cc pc = .ok (.lmul, 1))  (kk : G M S E n g (pc + 1) vs (.long (x * y) :: rest)) : G M S E n g pc vs (.long y :: .long x :: rest) := by
  obtain ⟨p, l, e, R, s, m, args, below, meth, c, A, Q⟩ := M
  obtain ⟨hx, hb, hml, hown, hts, hr, hlk, hK, hF, hA, hR⟩ := C
  intro H locs ls hP hD hS hl
  exact lv_lmul hx hb d (kk H locs ls hP hD hS hl)
theorem r_land {x y : Int64} (C : Cx M S cc nL own ret rm) (d : decode cc pc = .ok (.land, 1))  (kk : G M S E n g (pc + 1) vs (.long (x &&& y) :: rest)) : G M S E n g pc vs (.long y :: .long x :: rest) := by
  obtain ⟨p, l, e, R, s, m, args, below, meth, c, A, Q⟩ := M
  obtain ⟨hx, hb, hml, hown, hts, hr, hlk, hK, hF, hA, hR⟩ := C
  intro H locs ls hP hD hS hl
  exact lv_land hx hb d (kk H locs ls hP hD hS hl)
theorem r_lor {x y : Int64} (C : Cx M S cc nL own ret rm) (d : decode cc pc = .ok (.lor, 1))  (kk : G M S E n g (pc + 1) vs (.long (x ||| y) :: rest)) : G M S E n g pc vs (.long y :: .long x :: rest) := by
  obtain ⟨p, l, e, R, s, m, args, below, meth, c, A, Q⟩ := M
  obtain ⟨hx, hb, hml, hown, hts, hr, hlk, hK, hF, hA, hR⟩ := C
  intro H locs ls hP hD hS hl
  exact lv_lor hx hb d (kk H locs ls hP hD hS hl)
theorem r_lxor {x y : Int64} (C : Cx M S cc nL own ret rm) (d : decode cc pc = .ok (.lxor, 1))  (kk : G M S E n g (pc + 1) vs (.long (x ^^^ y) :: rest)) : G M S E n g pc vs (.long y :: .long x :: rest) := by
  obtain ⟨p, l, e, R, s, m, args, below, meth, c, A, Q⟩ := M
  obtain ⟨hx, hb, hml, hown, hts, hr, hlk, hK, hF, hA, hR⟩ := C
  intro H locs ls hP hD hS hl
  exact lv_lxor hx hb d (kk H locs ls hP hD hS hl)
theorem r_idiv {x y : Int32} (C : Cx M S cc nL own ret rm) (d : decode cc pc = .ok (.idiv, 1)) (hne : ¬ y = 0) (kk : G M S E n g (pc + 1) vs (.int (x / y) :: rest)) : G M S E n g pc vs (.int y :: .int x :: rest) := by
  obtain ⟨p, l, e, R, s, m, args, below, meth, c, A, Q⟩ := M
  obtain ⟨hx, hb, hml, hown, hts, hr, hlk, hK, hF, hA, hR⟩ := C
  intro H locs ls hP hD hS hl
  exact lv_idiv hx hb d hne (kk H locs ls hP hD hS hl)
theorem r_irem {x y : Int32} (C : Cx M S cc nL own ret rm) (d : decode cc pc = .ok (.irem, 1)) (hne : ¬ y = 0) (kk : G M S E n g (pc + 1) vs (.int (x - x / y * y) :: rest)) : G M S E n g pc vs (.int y :: .int x :: rest) := by
  obtain ⟨p, l, e, R, s, m, args, below, meth, c, A, Q⟩ := M
  obtain ⟨hx, hb, hml, hown, hts, hr, hlk, hK, hF, hA, hR⟩ := C
  intro H locs ls hP hD hS hl
  exact lv_irem hx hb d hne (kk H locs ls hP hD hS hl)
theorem r_ldiv {x y : Int64} (C : Cx M S cc nL own ret rm) (d : decode cc pc = .ok (.ldiv, 1)) (hne : ¬ y = 0) (kk : G M S E n g (pc + 1) vs (.long (x / y) :: rest)) : G M S E n g pc vs (.long y :: .long x :: rest) := by
  obtain ⟨p, l, e, R, s, m, args, below, meth, c, A, Q⟩ := M
  obtain ⟨hx, hb, hml, hown, hts, hr, hlk, hK, hF, hA, hR⟩ := C
  intro H locs ls hP hD hS hl
  exact lv_ldiv hx hb d hne (kk H locs ls hP hD hS hl)
theorem r_lrem {x y : Int64} (C : Cx M S cc nL own ret rm) (d : decode cc pc = .ok (.lrem, 1)) (hne : ¬ y = 0) (kk : G M S E n g (pc + 1) vs (.long (x - x / y * y) :: rest)) : G M S E n g pc vs (.long y :: .long x :: rest) := by
  obtain ⟨p, l, e, R, s, m, args, below, meth, c, A, Q⟩ := M
  obtain ⟨hx, hb, hml, hown, hts, hr, hlk, hK, hF, hA, hR⟩ := C
  intro H locs ls hP hD hS hl
  exact lv_lrem hx hb d hne (kk H locs ls hP hD hS hl)
theorem r_ineg {x : Int32} (C : Cx M S cc nL own ret rm) (d : decode cc pc = .ok (.ineg, 1))  (kk : G M S E n g (pc + 1) vs (.int (-x) :: rest)) : G M S E n g pc vs (.int x :: rest) := by
  obtain ⟨p, l, e, R, s, m, args, below, meth, c, A, Q⟩ := M
  obtain ⟨hx, hb, hml, hown, hts, hr, hlk, hK, hF, hA, hR⟩ := C
  intro H locs ls hP hD hS hl
  exact lv_ineg hx hb d (kk H locs ls hP hD hS hl)
theorem r_lneg {x : Int64} (C : Cx M S cc nL own ret rm) (d : decode cc pc = .ok (.lneg, 1))  (kk : G M S E n g (pc + 1) vs (.long (-x) :: rest)) : G M S E n g pc vs (.long x :: rest) := by
  obtain ⟨p, l, e, R, s, m, args, below, meth, c, A, Q⟩ := M
  obtain ⟨hx, hb, hml, hown, hts, hr, hlk, hK, hF, hA, hR⟩ := C
  intro H locs ls hP hD hS hl
  exact lv_lneg hx hb d (kk H locs ls hP hD hS hl)
theorem r_ishl {x y : Int32} (C : Cx M S cc nL own ret rm) (d : decode cc pc = .ok (.ishl, 1))  (kk : G M S E n g (pc + 1) vs (.int (x <<< (y &&& 31)) :: rest)) : G M S E n g pc vs (.int y :: .int x :: rest) := by
  obtain ⟨p, l, e, R, s, m, args, below, meth, c, A, Q⟩ := M
  obtain ⟨hx, hb, hml, hown, hts, hr, hlk, hK, hF, hA, hR⟩ := C
  intro H locs ls hP hD hS hl
  exact lv_ishl hx hb d (kk H locs ls hP hD hS hl)
theorem r_ishr {x y : Int32} (C : Cx M S cc nL own ret rm) (d : decode cc pc = .ok (.ishr, 1))  (kk : G M S E n g (pc + 1) vs (.int (x >>> (y &&& 31)) :: rest)) : G M S E n g pc vs (.int y :: .int x :: rest) := by
  obtain ⟨p, l, e, R, s, m, args, below, meth, c, A, Q⟩ := M
  obtain ⟨hx, hb, hml, hown, hts, hr, hlk, hK, hF, hA, hR⟩ := C
  intro H locs ls hP hD hS hl
  exact lv_ishr hx hb d (kk H locs ls hP hD hS hl)
theorem r_i2l {x : Int32} (C : Cx M S cc nL own ret rm) (d : decode cc pc = .ok (.i2l, 1))  (kk : G M S E n g (pc + 1) vs (.long x.toInt64 :: rest)) : G M S E n g pc vs (.int x :: rest) := by
  obtain ⟨p, l, e, R, s, m, args, below, meth, c, A, Q⟩ := M
  obtain ⟨hx, hb, hml, hown, hts, hr, hlk, hK, hF, hA, hR⟩ := C
  intro H locs ls hP hD hS hl
  exact lv_i2l hx hb d rfl (kk H locs ls hP hD hS hl)
theorem r_l2i {x : Int64} (C : Cx M S cc nL own ret rm) (d : decode cc pc = .ok (.l2i, 1))  (kk : G M S E n g (pc + 1) vs (.int x.toInt32 :: rest)) : G M S E n g pc vs (.long x :: rest) := by
  obtain ⟨p, l, e, R, s, m, args, below, meth, c, A, Q⟩ := M
  obtain ⟨hx, hb, hml, hown, hts, hr, hlk, hK, hF, hA, hR⟩ := C
  intro H locs ls hP hD hS hl
  exact lv_l2i hx hb d rfl (kk H locs ls hP hD hS hl)
theorem r_i2b {x : Int32} (C : Cx M S cc nL own ret rm) (d : decode cc pc = .ok (.i2b, 1))  (kk : G M S E n g (pc + 1) vs (.int x.toInt8.toInt32 :: rest)) : G M S E n g pc vs (.int x :: rest) := by
  obtain ⟨p, l, e, R, s, m, args, below, meth, c, A, Q⟩ := M
  obtain ⟨hx, hb, hml, hown, hts, hr, hlk, hK, hF, hA, hR⟩ := C
  intro H locs ls hP hD hS hl
  exact lv_i2b hx hb d rfl (kk H locs ls hP hD hS hl)
theorem r_i2s {x : Int32} (C : Cx M S cc nL own ret rm) (d : decode cc pc = .ok (.i2s, 1))  (kk : G M S E n g (pc + 1) vs (.int x.toInt16.toInt32 :: rest)) : G M S E n g pc vs (.int x :: rest) := by
  obtain ⟨p, l, e, R, s, m, args, below, meth, c, A, Q⟩ := M
  obtain ⟨hx, hb, hml, hown, hts, hr, hlk, hK, hF, hA, hR⟩ := C
  intro H locs ls hP hD hS hl
  exact lv_i2s hx hb d rfl (kk H locs ls hP hD hS hl)
theorem r_lshl {x : Int64} {y : Int32} (C : Cx M S cc nL own ret rm) (d : decode cc pc = .ok (.lshl, 1))  (kk : G M S E n g (pc + 1) vs (.long (x <<< (y.toInt64 &&& 63)) :: rest)) : G M S E n g pc vs (.int y :: .long x :: rest) := by
  obtain ⟨p, l, e, R, s, m, args, below, meth, c, A, Q⟩ := M
  obtain ⟨hx, hb, hml, hown, hts, hr, hlk, hK, hF, hA, hR⟩ := C
  intro H locs ls hP hD hS hl
  exact lv_lshl hx hb d rfl (kk H locs ls hP hD hS hl)
theorem r_lcmp {x y : Int64} (C : Cx M S cc nL own ret rm) (d : decode cc pc = .ok (.lcmp, 1))  (kk : G M S E n g (pc + 1) vs (.int (lg_cmp x y) :: rest)) : G M S E n g pc vs (.long y :: .long x :: rest) := by
  obtain ⟨p, l, e, R, s, m, args, below, meth, c, A, Q⟩ := M
  obtain ⟨hx, hb, hml, hown, hts, hr, hlk, hK, hF, hA, hR⟩ := C
  intro H locs ls hP hD hS hl
  exact W.lcmp hx hb d (kk H locs ls hP hD hS hl)
theorem r_dup {v : Value} (C : Cx M S cc nL own ret rm) (d : decode cc pc = .ok (.dup, 1)) (hc : v.category = 1) (kk : G M S E n g (pc + 1) vs (v :: v :: rest)) : G M S E n g pc vs (v :: rest) := by
  obtain ⟨p, l, e, R, s, m, args, below, meth, c, A, Q⟩ := M
  obtain ⟨hx, hb, hml, hown, hts, hr, hlk, hK, hF, hA, hR⟩ := C
  intro H locs ls hP hD hS hl
  exact lv_dup hx hb d hc (kk H locs ls hP hD hS hl)
theorem r_pop {v : Value} (C : Cx M S cc nL own ret rm) (d : decode cc pc = .ok (.pop, 1)) (hc : v.category = 1) (kk : G M S E n g (pc + 1) vs (rest)) : G M S E n g pc vs (v :: rest) := by
  obtain ⟨p, l, e, R, s, m, args, below, meth, c, A, Q⟩ := M
  obtain ⟨hx, hb, hml, hown, hts, hr, hlk, hK, hF, hA, hR⟩ := C
  intro H locs ls hP hD hS hl
  exact lv_pop hx hb d hc (kk H locs ls hP hD hS hl)
theorem r_dup2 {v w : Value} (C : Cx M S cc nL own ret rm) (d : decode cc pc = .ok (.dup2, 1)) (hc : v.category = 1) (hc2 : w.category = 1) (kk : G M S E n g (pc + 1) vs (v :: w :: v :: w :: rest)) : G M S E n g pc vs (v :: w :: rest) := by
  obtain ⟨p, l, e, R, s, m, args, below, meth, c, A, Q⟩ := M
  obtain ⟨hx, hb, hml, hown, hts, hr, hlk, hK, hF, hA, hR⟩ := C
  intro H locs ls hP hD hS hl
  exact lv_dup2_11 hx hb d hc hc2 (kk H locs ls hP hD hS hl)
theorem r_dup2l {v : Value} (C : Cx M S cc nL own ret rm) (d : decode cc pc = .ok (.dup2, 1)) (hc : v.category = 2) (kk : G M S E n g (pc + 1) vs (v :: v :: rest)) : G M S E n g pc vs (v :: rest) := by
  obtain ⟨p, l, e, R, s, m, args, below, meth, c, A, Q⟩ := M
  obtain ⟨hx, hb, hml, hown, hts, hr, hlk, hK, hF, hA, hR⟩ := C
  intro H locs ls hP hD hS hl
  exact lv_dup2_2 hx hb d hc (kk H locs ls hP hD hS hl)
theorem r_goto {off : Int} {tgt : Nat} (C : Cx M S cc nL own ret rm) (d : decode cc pc = .ok (.goto off, 3)) (ht : (pc : Int) + off = (tgt : Int)) (kk : G M S E n g tgt vs (rest)) : G M S E n g pc vs (rest) := by
  obtain ⟨p, l, e, R, s, m, args, below, meth, c, A, Q⟩ := M
  obtain ⟨hx, hb, hml, hown, hts, hr, hlk, hK, hF, hA, hR⟩ := C
  intro H locs ls hP hD hS hl
  exact lv_goto hx hb d ht (kk H locs ls hP hD hS hl)
theorem r_ldc {k : Nat} {v : Int32} (C : Cx M S cc nL own ret rm) (d : decode cc pc = .ok (.ldc k, 2)) (h : Cond.constant own k v ∈ Tg) (kk : G M S E n g (pc + 2) vs (.int v :: rest)) : G M S E n g pc vs (rest) := by
  obtain ⟨p, l, e, R, s, m, args, below, meth, c, A, Q⟩ := M
  obtain ⟨hx, hb, hml, hown, hts, hr, hlk, hK, hF, hA, hR⟩ := C
  intro H locs ls hP hD hS hl
  exact lv_ldc hx hb hown (hts _ h) d (kk H locs ls hP hD hS hl)
theorem r_ldc2 {k : Nat} {v : Int64} (C : Cx M S cc nL own ret rm) (d : decode cc pc = .ok (.ldc2_w k, 3)) (h : Cond.constantLong own k v ∈ Tg) (kk : G M S E n g (pc + 3) vs (.long v :: rest)) : G M S E n g pc vs (rest) := by
  obtain ⟨p, l, e, R, s, m, args, below, meth, c, A, Q⟩ := M
  obtain ⟨hx, hb, hml, hown, hts, hr, hlk, hK, hF, hA, hR⟩ := C
  intro H locs ls hP hD hS hl
  exact lv_ldc2 hx hb hown (hts _ h) d (kk H locs ls hP hD hS hl)
theorem r_if_eq {x : Int32} {off : Int} {tgt : Nat} (C : Cx M S cc nL own ret rm) (d : decode cc pc = .ok (.ifCond .eq off, 3)) (ht : (pc : Int) + off = (tgt : Int)) (kt : x = 0 → G M S E n g tgt vs rest) (kf : ¬ x = 0 → G M S E n g (pc + 3) vs rest) : G M S E n g pc vs (.int x :: rest) := by
  obtain ⟨p, l, e, R, s, m, args, below, meth, c, A, Q⟩ := M
  obtain ⟨hx, hb, hml, hown, hts, hr, hlk, hK, hF, hA, hR⟩ := C
  intro H locs ls hP hD hS hl
  exact lv_if_eq hx hb d ht (fun h => kt h H locs ls hP hD hS hl) (fun h => kf h H locs ls hP hD hS hl)
theorem r_icmp_eq {x y : Int32} {off : Int} {tgt : Nat} (C : Cx M S cc nL own ret rm) (d : decode cc pc = .ok (.if_icmp .eq off, 3)) (ht : (pc : Int) + off = (tgt : Int)) (kt : x = y → G M S E n g tgt vs rest) (kf : ¬ x = y → G M S E n g (pc + 3) vs rest) : G M S E n g pc vs (.int y :: .int x :: rest) := by
  obtain ⟨p, l, e, R, s, m, args, below, meth, c, A, Q⟩ := M
  obtain ⟨hx, hb, hml, hown, hts, hr, hlk, hK, hF, hA, hR⟩ := C
  intro H locs ls hP hD hS hl
  exact lv_icmp_eq hx hb d ht (fun h => kt h H locs ls hP hD hS hl) (fun h => kf h H locs ls hP hD hS hl)
theorem r_if_ne {x : Int32} {off : Int} {tgt : Nat} (C : Cx M S cc nL own ret rm) (d : decode cc pc = .ok (.ifCond .ne off, 3)) (ht : (pc : Int) + off = (tgt : Int)) (kt : ¬ x = 0 → G M S E n g tgt vs rest) (kf : x = 0 → G M S E n g (pc + 3) vs rest) : G M S E n g pc vs (.int x :: rest) := by
  obtain ⟨p, l, e, R, s, m, args, below, meth, c, A, Q⟩ := M
  obtain ⟨hx, hb, hml, hown, hts, hr, hlk, hK, hF, hA, hR⟩ := C
  intro H locs ls hP hD hS hl
  exact lv_if_ne hx hb d ht (fun h => kt h H locs ls hP hD hS hl) (fun h => kf h H locs ls hP hD hS hl)
theorem r_icmp_ne {x y : Int32} {off : Int} {tgt : Nat} (C : Cx M S cc nL own ret rm) (d : decode cc pc = .ok (.if_icmp .ne off, 3)) (ht : (pc : Int) + off = (tgt : Int)) (kt : ¬ x = y → G M S E n g tgt vs rest) (kf : x = y → G M S E n g (pc + 3) vs rest) : G M S E n g pc vs (.int y :: .int x :: rest) := by
  obtain ⟨p, l, e, R, s, m, args, below, meth, c, A, Q⟩ := M
  obtain ⟨hx, hb, hml, hown, hts, hr, hlk, hK, hF, hA, hR⟩ := C
  intro H locs ls hP hD hS hl
  exact lv_icmp_ne hx hb d ht (fun h => kt h H locs ls hP hD hS hl) (fun h => kf h H locs ls hP hD hS hl)
theorem r_if_lt {x : Int32} {off : Int} {tgt : Nat} (C : Cx M S cc nL own ret rm) (d : decode cc pc = .ok (.ifCond .lt off, 3)) (ht : (pc : Int) + off = (tgt : Int)) (kt : x < 0 → G M S E n g tgt vs rest) (kf : ¬ x < 0 → G M S E n g (pc + 3) vs rest) : G M S E n g pc vs (.int x :: rest) := by
  obtain ⟨p, l, e, R, s, m, args, below, meth, c, A, Q⟩ := M
  obtain ⟨hx, hb, hml, hown, hts, hr, hlk, hK, hF, hA, hR⟩ := C
  intro H locs ls hP hD hS hl
  exact lv_if_lt hx hb d ht (fun h => kt h H locs ls hP hD hS hl) (fun h => kf h H locs ls hP hD hS hl)
theorem r_icmp_lt {x y : Int32} {off : Int} {tgt : Nat} (C : Cx M S cc nL own ret rm) (d : decode cc pc = .ok (.if_icmp .lt off, 3)) (ht : (pc : Int) + off = (tgt : Int)) (kt : x < y → G M S E n g tgt vs rest) (kf : ¬ x < y → G M S E n g (pc + 3) vs rest) : G M S E n g pc vs (.int y :: .int x :: rest) := by
  obtain ⟨p, l, e, R, s, m, args, below, meth, c, A, Q⟩ := M
  obtain ⟨hx, hb, hml, hown, hts, hr, hlk, hK, hF, hA, hR⟩ := C
  intro H locs ls hP hD hS hl
  exact lv_icmp_lt hx hb d ht (fun h => kt h H locs ls hP hD hS hl) (fun h => kf h H locs ls hP hD hS hl)
theorem r_if_ge {x : Int32} {off : Int} {tgt : Nat} (C : Cx M S cc nL own ret rm) (d : decode cc pc = .ok (.ifCond .ge off, 3)) (ht : (pc : Int) + off = (tgt : Int)) (kt : 0 ≤ x → G M S E n g tgt vs rest) (kf : ¬ 0 ≤ x → G M S E n g (pc + 3) vs rest) : G M S E n g pc vs (.int x :: rest) := by
  obtain ⟨p, l, e, R, s, m, args, below, meth, c, A, Q⟩ := M
  obtain ⟨hx, hb, hml, hown, hts, hr, hlk, hK, hF, hA, hR⟩ := C
  intro H locs ls hP hD hS hl
  exact lv_if_ge hx hb d ht (fun h => kt h H locs ls hP hD hS hl) (fun h => kf h H locs ls hP hD hS hl)
theorem r_icmp_ge {x y : Int32} {off : Int} {tgt : Nat} (C : Cx M S cc nL own ret rm) (d : decode cc pc = .ok (.if_icmp .ge off, 3)) (ht : (pc : Int) + off = (tgt : Int)) (kt : y ≤ x → G M S E n g tgt vs rest) (kf : ¬ y ≤ x → G M S E n g (pc + 3) vs rest) : G M S E n g pc vs (.int y :: .int x :: rest) := by
  obtain ⟨p, l, e, R, s, m, args, below, meth, c, A, Q⟩ := M
  obtain ⟨hx, hb, hml, hown, hts, hr, hlk, hK, hF, hA, hR⟩ := C
  intro H locs ls hP hD hS hl
  exact lv_icmp_ge hx hb d ht (fun h => kt h H locs ls hP hD hS hl) (fun h => kf h H locs ls hP hD hS hl)
theorem r_if_gt {x : Int32} {off : Int} {tgt : Nat} (C : Cx M S cc nL own ret rm) (d : decode cc pc = .ok (.ifCond .gt off, 3)) (ht : (pc : Int) + off = (tgt : Int)) (kt : 0 < x → G M S E n g tgt vs rest) (kf : ¬ 0 < x → G M S E n g (pc + 3) vs rest) : G M S E n g pc vs (.int x :: rest) := by
  obtain ⟨p, l, e, R, s, m, args, below, meth, c, A, Q⟩ := M
  obtain ⟨hx, hb, hml, hown, hts, hr, hlk, hK, hF, hA, hR⟩ := C
  intro H locs ls hP hD hS hl
  exact lv_if_gt hx hb d ht (fun h => kt h H locs ls hP hD hS hl) (fun h => kf h H locs ls hP hD hS hl)
theorem r_icmp_gt {x y : Int32} {off : Int} {tgt : Nat} (C : Cx M S cc nL own ret rm) (d : decode cc pc = .ok (.if_icmp .gt off, 3)) (ht : (pc : Int) + off = (tgt : Int)) (kt : y < x → G M S E n g tgt vs rest) (kf : ¬ y < x → G M S E n g (pc + 3) vs rest) : G M S E n g pc vs (.int y :: .int x :: rest) := by
  obtain ⟨p, l, e, R, s, m, args, below, meth, c, A, Q⟩ := M
  obtain ⟨hx, hb, hml, hown, hts, hr, hlk, hK, hF, hA, hR⟩ := C
  intro H locs ls hP hD hS hl
  exact lv_icmp_gt hx hb d ht (fun h => kt h H locs ls hP hD hS hl) (fun h => kf h H locs ls hP hD hS hl)
theorem r_if_le {x : Int32} {off : Int} {tgt : Nat} (C : Cx M S cc nL own ret rm) (d : decode cc pc = .ok (.ifCond .le off, 3)) (ht : (pc : Int) + off = (tgt : Int)) (kt : x ≤ 0 → G M S E n g tgt vs rest) (kf : ¬ x ≤ 0 → G M S E n g (pc + 3) vs rest) : G M S E n g pc vs (.int x :: rest) := by
  obtain ⟨p, l, e, R, s, m, args, below, meth, c, A, Q⟩ := M
  obtain ⟨hx, hb, hml, hown, hts, hr, hlk, hK, hF, hA, hR⟩ := C
  intro H locs ls hP hD hS hl
  exact lv_if_le hx hb d ht (fun h => kt h H locs ls hP hD hS hl) (fun h => kf h H locs ls hP hD hS hl)
theorem r_icmp_le {x y : Int32} {off : Int} {tgt : Nat} (C : Cx M S cc nL own ret rm) (d : decode cc pc = .ok (.if_icmp .le off, 3)) (ht : (pc : Int) + off = (tgt : Int)) (kt : x ≤ y → G M S E n g tgt vs rest) (kf : ¬ x ≤ y → G M S E n g (pc + 3) vs rest) : G M S E n g pc vs (.int y :: .int x :: rest) := by
  obtain ⟨p, l, e, R, s, m, args, below, meth, c, A, Q⟩ := M
  obtain ⟨hx, hb, hml, hown, hts, hr, hlk, hK, hF, hA, hR⟩ := C
  intro H locs ls hP hD hS hl
  exact lv_icmp_le hx hb d ht (fun h => kt h H locs ls hP hD hS hl) (fun h => kf h H locs ls hP hD hS hl)
theorem r_tableIn {dflt lo hi : Int} {offs : Array Int} {len : Nat} {x : Int32} {off : Int} {tgt : Nat} (C : Cx M S cc nL own ret rm) (d : decode cc pc = .ok (.tableswitch dflt lo hi offs, len)) (h1 : ¬ x.toInt < lo) (h2 : ¬ hi < x.toInt) (ho : offs[(x.toInt - lo).toNat]? = some off) (ht : (pc : Int) + off = (tgt : Int)) (kk : G M S E n g tgt vs rest) : G M S E n g pc vs (.int x :: rest) := by
  obtain ⟨p, l, e, R, s, m, args, below, meth, c, A, Q⟩ := M
  obtain ⟨hx, hb, hml, hown, hts, hr, hlk, hK, hF, hA, hR⟩ := C
  intro H locs ls hP hD hS hl
  exact lv_tableIn hx hb d h1 h2 ho ht (kk H locs ls hP hD hS hl)
theorem r_tableOut {dflt lo hi : Int} {offs : Array Int} {len : Nat} {x : Int32} {tgt : Nat} (C : Cx M S cc nL own ret rm) (d : decode cc pc = .ok (.tableswitch dflt lo hi offs, len)) (h : x.toInt < lo ∨ hi < x.toInt) (ht : (pc : Int) + dflt = (tgt : Int)) (kk : G M S E n g tgt vs rest) : G M S E n g pc vs (.int x :: rest) := by
  obtain ⟨p, l, e, R, s, m, args, below, meth, c, A, Q⟩ := M
  obtain ⟨hx, hb, hml, hown, hts, hr, hlk, hK, hF, hA, hR⟩ := C
  intro H locs ls hP hD hS hl
  exact lv_tableOut hx hb d h ht (kk H locs ls hP hD hS hl)
/-- the top of the stack by another name -/
theorem r_ti {x : Int32} (y : Int32) (h : x = y) (kk : G M S E n g pc vs (.int y :: rest)) : G M S E n g pc vs (.int x :: rest) := by rw [h]; exact kk
theorem r_tl {x : Int64} (y : Int64) (h : x = y) (kk : G M S E n g pc vs (.long y :: rest)) : G M S E n g pc vs (.long x :: rest) := by rw [h]; exact kk
/-- a field by its link -/
def FL (own : String) (index ci k : Nat) : Prop := ∃ (Cn : String) (T : u_T) (N : Nat), vwCl[ci]? = some (Cn, T, N) ∧ k < N ∧ Cond.fieldLink own index (T k).1 (T k).2.1 (T k).2.2.1 ∈ Tg ∧ ∀ w ∈ u_ws Cn T N, w ∈ Tg
def FP (own : String) (index ci k : Nat) (ty : FieldType) : Prop := ∃ (Cn : String) (T : u_T) (N : Nat) (tyf : Nat → FieldType), vwCl[ci]? = some (Cn, T, N) ∧ k < N ∧ Cond.fieldLink own index (T k).1 (T k).2.1 (T k).2.2.1 ∈ Tg ∧ (∀ w ∈ u_ws Cn T N, w ∈ Tg) ∧ (∀ k, k < N → parseFieldDescriptor (T k).2.2.1 = some (tyf k)) ∧ (∀ a, a < N → ∀ b, b < N → a ≠ b → (T a).2.1 ≠ (T b).2.1) ∧ (T k).2.2.2 = false ∧ parseFieldDescriptor (T k).2.2.1 = some ty
theorem r_getf {index ci k i : Nat} {fs : List Value} {v : Value} (C : Cx M S cc nL own ret rm) (d : decode cc pc = .ok (.getfield index, 3)) (f : FL own index ci k) (hg : Ce E g i (.inr (ci, fs))) (hv : fs[k]? = some v) (kk : G M S E n g (pc + 3) vs (v :: rest)) : G M S E n g pc vs (.ref (E.1 i) :: rest) := by
  obtain ⟨p, l, e, R, s, m, args, below, meth, c, A, Q⟩ := M
  obtain ⟨hx, hb, hml, hown, hts, hr, hlk, hK, hF, hA, hR⟩ := C
  intro H locs ls hP hD hS hl
  obtain ⟨Cn, T, N, h1, h2, h3, h4⟩ := f
  exact va_get hx hb hts h4 hown hK hP.P i hg.at h1 k h2 (hts _ h3) (fun _ h => h) hv d (kk H locs ls hP hD hS hl)
theorem r_putf {index ci k i : Nat} {ty : FieldType} {fs : List Value} {v : Value} (C : Cx M S cc nL own ret rm) (d : decode cc pc = .ok (.putfield index, 3)) (f : FP own index ci k ty) (hg : Ce E g i (.inr (ci, fs))) (hn : narrow ty v = v) (hfit : fits ty v = true) (hlen : k < fs.length) (kk : G M S E n (va_up g i (.inr (ci, fs.set k v))) (pc + 3) vs rest) : G M S E n g pc vs (v :: .ref (E.1 i) :: rest) := by
  obtain ⟨p, l, e, R, s, m, args, below, meth, c, A, Q⟩ := M
  obtain ⟨hx, hb, hml, hown, hts, hr, hlk, hK, hF, hA, hR⟩ := C
  intro H locs ls hP hD hS hl
  obtain ⟨Cn, T, N, tyf, h1, h2, h3, h4, h5, h6, h7, h8⟩ := f
  exact va_put hx hb hts h4 tyf h5 h6 hown hK hP.P (hD.D g) hS i hg.at h1 k h2 (hts _ h3) (fun _ h => h) h7 h8 hn hfit hlen d (fun H1 locs1 hP1 _ hS1 => kk H1 locs1 ls (HP.set hg.1 hP1) hD hS1 hl)
theorem r_iald {i N j : Nat} {f : Nat → Int32} {x : Int32} (C : Cx M S cc nL own ret rm) (d : decode cc pc = .ok (.iaload, 1)) (hg : Ce E g i (xI S N f)) (hx' : x = nI j) (hj : j < N) (hN : N < 2 ^ 31) (kk : G M S E n g (pc + 1) vs (.int (f j) :: rest)) : G M S E n g pc vs (.int x :: .ref (E.1 i) :: rest) := by
  obtain ⟨p, l, e, R, s, m, args, below, meth, c, A, Q⟩ := M
  obtain ⟨hx, hb, hml, hown, hts, hr, hlk, hK, hF, hA, hR⟩ := C
  intro H locs ls hP hD hS hl
  subst hx'
  refine va_iald hx hb hK hP.P i 0 hg.at rfl (vp_in_nI hj hN) d ?_
  rw [nI_clamp (Nat.lt_trans hj hN)]
  exact kk H locs ls hP hD hS hl
theorem r_bald {i N j : Nat} {f : Nat → Int32} {x : Int32} (C : Cx M S cc nL own ret rm) (d : decode cc pc = .ok (.baload, 1)) (hg : Ce E g i (xB S N f)) (hx' : x = nI j) (hj : j < N) (hN : N < 2 ^ 31) (kk : G M S E n g (pc + 1) vs (.int (f j) :: rest)) : G M S E n g pc vs (.int x :: .ref (E.1 i) :: rest) := by
  obtain ⟨p, l, e, R, s, m, args, below, meth, c, A, Q⟩ := M
  obtain ⟨hx, hb, hml, hown, hts, hr, hlk, hK, hF, hA, hR⟩ := C
  intro H locs ls hP hD hS hl
  subst hx'
  refine va_bald hx hb hK hP.P i 2 hg.at rfl (vp_in_nI hj hN) d ?_
  rw [nI_clamp (Nat.lt_trans hj hN)]
  exact kk H locs ls hP hD hS hl
theorem r_lald {i N j : Nat} {f : Nat → Int64} {x : Int32} (C : Cx M S cc nL own ret rm) (d : decode cc pc = .ok (.laload, 1)) (hg : Ce E g i (xJ S N f)) (hx' : x = nI j) (hj : j < N) (hN : N < 2 ^ 31) (kk : G M S E n g (pc + 1) vs (.long (f j) :: rest)) : G M S E n g pc vs (.int x :: .ref (E.1 i) :: rest) := by
  obtain ⟨p, l, e, R, s, m, args, below, meth, c, A, Q⟩ := M
  obtain ⟨hx, hb, hml, hown, hts, hr, hlk, hK, hF, hA, hR⟩ := C
  intro H locs ls hP hD hS hl
  subst hx'
  refine va_lald hx hb hK hP.P i 1 hg.at rfl (vp_in_nI hj hN) d ?_
  rw [nI_clamp (Nat.lt_trans hj hN)]
  exact kk H locs ls hP hD hS hl
theorem r_iast {i N j : Nat} {f : Nat → Int32} {x : Int32} {z : Int32} (C : Cx M S cc nL own ret rm) (d : decode cc pc = .ok (.iastore, 1)) (hg : Ce E g i (xI S N f)) (hx' : x = nI j) (hj : j < N) (hN : N < 2 ^ 31) (kk : G M S E n (va_up g i (xI S N (upd f j z))) (pc + 1) vs rest) : G M S E n g pc vs (.int z :: .int x :: .ref (E.1 i) :: rest) := by
  obtain ⟨p, l, e, R, s, m, args, below, meth, c, A, Q⟩ := M
  obtain ⟨hx, hb, hml, hown, hts, hr, hlk, hK, hF, hA, hR⟩ := C
  intro H locs ls hP hD hS hl
  subst hx'
  refine va_iast hx hb hK hP.P (hD.D g) hS i 0 hg.at rfl (vp_in_nI hj hN) d (fun H1 locs1 hP1 _ hS1 => ?_)
  rw [nI_clamp (Nat.lt_trans hj hN)] at hP1
  exact kk H1 locs1 ls (HP.set hg.1 hP1) hD hS1 hl
theorem r_last {i N j : Nat} {f : Nat → Int64} {x : Int32} {z : Int64} (C : Cx M S cc nL own ret rm) (d : decode cc pc = .ok (.lastore, 1)) (hg : Ce E g i (xJ S N f)) (hx' : x = nI j) (hj : j < N) (hN : N < 2 ^ 31) (kk : G M S E n (va_up g i (xJ S N (vp_updL f j z))) (pc + 1) vs rest) : G M S E n g pc vs (.long z :: .int x :: .ref (E.1 i) :: rest) := by
  obtain ⟨p, l, e, R, s, m, args, below, meth, c, A, Q⟩ := M
  obtain ⟨hx, hb, hml, hown, hts, hr, hlk, hK, hF, hA, hR⟩ := C
  intro H locs ls hP hD hS hl
  subst hx'
  refine va_last hx hb hK hP.P (hD.D g) hS i 1 hg.at rfl (vp_in_nI hj hN) d (fun H1 locs1 hP1 _ hS1 => ?_)
  rw [nI_clamp (Nat.lt_trans hj hN)] at hP1
  exact kk H1 locs1 ls (HP.set hg.1 hP1) hD hS1 hl
theorem r_bast {i N j : Nat} {f : Nat → Int32} {x : Int32} {z : Int32} (C : Cx M S cc nL own ret rm) (d : decode cc pc = .ok (.bastore, 1)) (hg : Ce E g i (xB S N f)) (hx' : x = nI j) (hj : j < N) (hN : N < 2 ^ 31) (kk : G M S E n (va_up g i (xB S N (upd f j (vp_nar .byte z)))) (pc + 1) vs rest) : G M S E n g pc vs (.int z :: .int x :: .ref (E.1 i) :: rest) := by
  obtain ⟨p, l, e, R, s, m, args, below, meth, c, A, Q⟩ := M
  obtain ⟨hx, hb, hml, hown, hts, hr, hlk, hK, hF, hA, hR⟩ := C
  intro H locs ls hP hD hS hl
  subst hx'
  refine va_bast hx hb hK hP.P (hD.D g) hS i 2 hg.at rfl (vp_in_nI hj hN) d (fun H1 locs1 hP1 _ hS1 => ?_)
  rw [nI_clamp (Nat.lt_trans hj hN)] at hP1
  exact kk H1 locs1 ls (HP.set hg.1 hP1) hD hS1 hl
theorem r_alen {i N : Nat} {t0 : Nat} {cA : ClassId} {z : vp_A} (C : Cx M S cc nL own ret rm) (d : decode cc pc = .ok (.arraylength, 1)) {ty : FieldType} (hg : Ce E g i (.inl (cA, z))) (ht : (tyl S)[t0]? = some (cA, ty)) (hN : z.1 = N) (kk : G M S E n g (pc + 1) vs (.int (nI N) :: rest)) : G M S E n g pc vs (.ref (E.1 i) :: rest) := by
  obtain ⟨p, l, e, R, s, m, args, below, meth, c, A, Q⟩ := M
  obtain ⟨hx, hb, hml, hown, hts, hr, hlk, hK, hF, hA, hR⟩ := C
  intro H locs ls hP hD hS hl
  subst hN
  exact va_alen hx hb hK hP.P i t0 hg.at ht rfl d (kk H locs ls hP hD hS hl)
/-- a reference out of an array of references -/
theorem r_aald {i N j r t : Nat} {f : Nat → Option Nat} {x : Int32} {ty : FieldType} (C : Cx M S cc nL own ret rm) (d : decode cc pc = .ok (.aaload, 1)) (hg : Ce E g i (xR S t N f)) (ht : (tyl S)[t]? = some (S.2 t, ty)) (hty : refKind ty = true) (hx' : x = nI j) (hj : j < N) (hN : N < 2 ^ 31) (hf : f j = some r) (kk : G M S E n g (pc + 1) vs (.ref r :: rest)) : G M S E n g pc vs (.int x :: .ref (E.1 i) :: rest) := by
  obtain ⟨p, l, e, R, s, m, args, below, meth, c, A, Q⟩ := M
  obtain ⟨hx, hb, hml, hown, hts, hr, hlk, hK, hF, hA, hR⟩ := C
  intro H locs ls hP hD hS hl
  subst hx'
  have hin := vp_in_nI hj hN
  have hlt : (nI j).toNatClampNeg < N := Nat.not_le.mp fun q => hin (Or.inr q)
  refine W.aald (v := .ref r) (ty := ty) hx hb (hP.P i _ hg.at) ((hK.2 t _ ht).1 N (fun j => va_rf (f j))) hty (fun q => by cases q) (by show ¬ (nI j < 0 ∨ (arrV _ _ _).slots.size ≤ _); rw [arrV_size]; exact hin) (by show (arrV _ _ _).slots[_]? = _; rw [arrV_read _ _ hlt, nI_clamp (Nat.lt_trans hj hN), hf]; rfl) rfl rfl d ?_
  exact kk H locs ls hP hD hS hl
end GR
