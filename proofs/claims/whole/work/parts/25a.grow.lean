/-! worlds that grow: what a constructor's contract says, and its rows -/
def Ex (E E1 : ET) : Prop := E.2 ≤ E1.2 ∧ ∀ i : Nat, i < E.2 → E1.1 i = E.1 i
theorem Ex.rf {E : ET} : Ex E E := ⟨Nat.le_refl _, fun _ _ => rfl⟩
theorem Ex.tr {E E1 E2 : ET} (a : Ex E E1) (b : Ex E1 E2) : Ex E E2 := ⟨Nat.le_trans a.1 b.1, fun i hi => (b.2 i (Nat.lt_of_lt_of_le hi a.1)).trans (a.2 i hi)⟩
/-- the cells of the old world stay -/
def Kp (E : ET) (g g1 : Nat → va_E) : Prop := ∀ i : Nat, i < E.2 → g1 i = g i
theorem Kp.rf {E : ET} {g : Nat → va_E} : Kp E g g := fun _ _ => rfl
theorem Ce.kp {E E1 : ET} {g g1 : Nat → va_E} {i : Nat} {e : va_E} (c : Ce E g i e) (x : Ex E E1) (k : Kp E g g1) : Ce E1 g1 i e := ⟨Nat.lt_of_lt_of_le c.1 x.1, (k i c.1).trans c.2⟩
def Qn (S : ST) (E : ET) (A : Nat → Prop) (post : ET → (Nat → va_E) → Prop) : Array Value → State → Outcome → State → Prop := fun _ st oc t => (∃ (E1 : ET) (g1 : Nat → va_E), oc = .returned none ∧ Ex E E1 ∧ HD A E1 ∧ post E1 g1 ∧ HP S E1 g1 t.heap) ∧ va_F A st t
def Cn (S : ST) (E : ET) (y : MethodName) (bytes : ByteArray) (maxL : Nat) (rm : Room) (av : List Value) (g : Nat → va_E) (mc ms : Nat) (post : ET → (Nat → va_E) → Prop) : Prop :=
  ∀ (l : Launch) (sz : Nat), Met l y (.code y bytes maxL none :: Tg) rm (va_Pc av (Pw S E g sz)) (Qn S E (Af E sz) post) mc ms (Af E sz)
def RtN : MT → ST → ET → (ET → (Nat → va_E) → Prop) → Nat → Nat → Prop
  | (p, l, e, R, s, m, args, below, meth, c, A, Q), S, E, post, mc, ms => Q = MQ below (Qn S E A post) args s mc ms A ∧ meth.name = "<init>"
theorem Cn.of {S : ST} {E : ET} {y : MethodName} {bytes : ByteArray} {maxL : Nat} {rm : Room} {av : List Value} {g : Nat → va_E} {mc ms : Nat} {post : ET → (Nat → va_E) → Prop} (own : String) (hy : plainName y.cls = true) (hown : y.cls = own) (hin : y.name = "<init>") (hlen : (lg_sl av).length ≤ maxL)
    (body : ∀ M : MT, Cx M S bytes maxL own none rm → RtN M S E post mc ms → G M S E (0, 0) g 0 (ent maxL av) []) : Cn S E y bytes maxL rm av g mc ms post := by
  intro l sz
  refine Met.ofW (cc := bytes) (maxL := maxL) (ret := none) hy rfl ?_
  intro p e s m args below meth c s₁ B hml hv
  obtain ⟨rfl, hsz, hP, hD0, hK, hF⟩ := hv
  have hts := atoms_spec (ws := .code y bytes maxL none :: Tg) B.pre
  have hown' : s.vm.findClass y.cls = some m.cls := findClass_of_methodNamed B.named
  have hnm : meth.name = y.name := (name_of_methodNamed B.named B.method).1
  subst hsz
  have hb := body (p, l, e, rm, s, m, av.toArray, below, meth, c, Af E s.heap.size, MQ below (Qn S E (Af E s.heap.size) post) av.toArray s mc ms (Af E s.heap.size))
    ⟨B.exec, B.bytes, hml, by rw [← hown]; exact hown', fun w hw => hts w (List.mem_cons_of_mem _ hw), B.returns, B.notSynchronized, hK, hF, fun q h => Or.inr h, rfl⟩ ⟨rfl, by rw [hnm]; exact hin⟩
  rw [lg_entry_eq]
  have hl := ent_lh (av := av) hlen
  rw [← hml] at hl ⊢
  exact hb _ _ _ hP ⟨hD0.1, fun i hi => Or.inl ⟨i, hi, rfl⟩⟩ va_S.rf (by rw [hml] at hl ⊢; exact hl)
theorem rwl_snoc (E : ET) (g : Nat → va_E) (q : Nat) (e : va_E) : rwl E g ++ [(q, e)] = rwl (va_up E.1 E.2 q, E.2 + 1) (va_up g E.2 e) := by
  unfold rwl
  rw [List.range_succ, List.map_append]
  congr 1
  · apply List.map_congr_left
    intro i hi
    have := List.mem_range.mp hi
    show (E.1 i, g i) = (va_up E.1 E.2 q i, va_up g E.2 e i)
    rw [va_up_ne _ _ (by omega), va_up_ne _ _ (by omega)]
  · show [(q, e)] = [(va_up E.1 E.2 q E.2, va_up g E.2 e E.2)]
    rw [va_up_self, va_up_self]
theorem HD.ofD {A : Nat → Prop} {E : ET} {g : Nat → va_E} (h : va_D A (rwl E g)) : HD A E := ⟨fun i j hi hj e => h.1 i j _ _ (rwl_at hi) (rwl_at hj) e, fun i hi => h.2 i _ (rwl_at hi)⟩
/-- one cell is new -/
def Nx (E E1 : ET) (g g1 : Nat → va_E) (e : va_E) : Prop := E1.2 = E.2 + 1 ∧ (∀ i : Nat, i < E.2 → E1.1 i = E.1 i) ∧ Kp E g g1 ∧ g1 E.2 = e
theorem Nx.ex {E E1 : ET} {g g1 : Nat → va_E} {e : va_E} (h : Nx E E1 g g1 e) : Ex E E1 := ⟨by rw [h.1]; omega, h.2.1⟩
theorem Nx.ce {E E1 : ET} {g g1 : Nat → va_E} {e : va_E} (h : Nx E E1 g g1 e) : Ce E1 g1 E.2 e := ⟨by rw [h.1]; omega, h.2.2.2⟩
theorem Nx.of (E : ET) (g : Nat → va_E) (q : Nat) (e : va_E) : Nx E (va_up E.1 E.2 q, E.2 + 1) g (va_up g E.2 e) e := ⟨rfl, fun i hi => va_up_ne _ _ (by omega), fun i hi => va_up_ne _ _ (by omega), va_up_self _ _ _⟩
def NW (own : String) (index ci N : Nat) (fs : List Value) : Prop := ∃ (Cn : String) (T : u_T) (ty : Nat → FieldType), vwCl[ci]? = some (Cn, T, N) ∧ (∀ w ∈ u_ws Cn T N, w ∈ Tg) ∧ (∀ k, k < N → parseFieldDescriptor (T k).2.2.1 = some (ty k)) ∧ Cond.classLink own index Cn ∈ Tg ∧ Cond.instantiable Cn N ∈ Tg ∧ Cond.initialized Cn ∈ Tg ∧ ∀ j, j < N → defaultValue (ty j) = vp_V fs j
def FF (own : String) (index ci k : Nat) (ty : FieldType) : Prop := ∃ (Cn : String) (T : u_T) (N : Nat) (tyf : Nat → FieldType), vwCl[ci]? = some (Cn, T, N) ∧ k < N ∧ Cond.fieldLink own index (T k).1 (T k).2.1 (T k).2.2.1 ∈ Tg ∧ (∀ w ∈ u_ws Cn T N, w ∈ Tg) ∧ (∀ k, k < N → parseFieldDescriptor (T k).2.2.1 = some (tyf k)) ∧ (∀ a, a < N → ∀ b, b < N → a ≠ b → (T a).2.1 ≠ (T b).2.1) ∧ (T k).2.2.2 = true ∧ (T k).1 = own ∧ parseFieldDescriptor (T k).2.2.1 = some ty
section GN
variable {M : MT} {S : ST} {E E0 : ET} {n : Nat × Nat} {g : Nat → va_E} {pc : Nat} {vs : List (Option Value)} {rest : List Value} {cc : ByteArray} {nL mc ms : Nat} {own : String} {ret : Option FieldType} {rm : Room} {post : ET → (Nat → va_E) → Prop}
theorem r_vretN (C : Cx M S cc nL own none rm) (Z : RtN M S E0 post mc ms) (d : decode cc pc = .ok (.return_, 1)) (hE : Ex E0 E) (h : post E g) : G M S E (mc, ms) g pc vs [] := by
  obtain ⟨p, l, e, R, s, m, args, below, meth, c, A, Q⟩ := M
  obtain ⟨hx, hb, hml, hown, hts, hr, hlk, hK, hF, hA, hR⟩ := C
  intro H locs ls hP hD hS hl
  have hQ : Q = _ := Z.1
  rw [hQ]
  exact W.vret hx hb hr (fun t ht hW => ⟨⟨E, g, rfl, hE, hD, h, by rw [ht]; exact hP⟩, hS.F ht⟩) hS.2.2 d hlk
theorem r_putF {index ci k i : Nat} {ty : FieldType} {fs : List Value} {v : Value} (C : Cx M S cc nL own ret rm) (Z : RtN M S E0 post mc ms) (d : decode cc pc = .ok (.putfield index, 3)) (f : FF own index ci k ty) (hg : Ce E g i (.inr (ci, fs))) (hn : narrow ty v = v) (hfit : fits ty v = true) (hlen : k < fs.length) (kk : G M S E n (va_up g i (.inr (ci, fs.set k v))) (pc + 3) vs rest) : G M S E n g pc vs (v :: .ref (E.1 i) :: rest) := by
  obtain ⟨p, l, e, R, s, m, args, below, meth, c, A, Q⟩ := M
  obtain ⟨hx, hb, hml, hown, hts, hr, hlk, hK, hF, hA, hR⟩ := C
  intro H locs ls hP hD hS hl
  obtain ⟨Cn, T, N, tyf, h1, h2, h3, h4, h5, h6, h7, h8, h9⟩ := f
  exact va_putF hx hb hts h4 tyf h5 h6 hown hK hP.P (hD.D g) hS i hg.at h1 k h2 (hts _ h3) (fun _ h => h) h7 Z.2 h8 h9 hn hfit hlen d (fun H1 locs1 hP1 _ hS1 => kk H1 locs1 ls (HP.set hg.1 hP1) hD hS1 hl)
theorem r_objI {idx a : Nat} (C : Cx M S cc nL own ret rm) (d : decode cc pc = .ok (.invokespecial idx, 3)) (ho : Cond.methodLink own idx objectInit ∈ Tg) (hf : 1 ≤ rm.frames) (hlo : (rest.map fun v => v.category).sum + 12 ≤ rm.locals) (kk : G M S E n g (pc + 3) vs rest) : G M S E n g pc vs (.ref a :: rest) := by
  obtain ⟨p, l, e, R, s, m, args, below, meth, c, A, Q⟩ := M
  obtain ⟨hx, hb, hml, hown, hts, hr, hlk, hK, hF, hA, hR⟩ := C
  intro H locs ls hP hD hS hl
  subst hR
  exact W.objInit hx hb hown (hts _ ho) (hts _ qI_obj) (hts _ qC_obj) (g := F0 m pc ls (.ref a :: rest)) rfl hl.1 rfl d hf (by show 2 * 0 + _ + 12 ≤ _; omega) (kk H locs ls hP hD hS hl)
theorem r_new {index ci N : Nat} {fs : List Value} (C : Cx M S cc nL own ret rm) (d : decode cc pc = .ok (.new index, 3)) (w : NW own index ci N fs) (hc : n.1 + 1 ≤ rm.cells) (hs : n.2 + N ≤ rm.slots) (kk : ∀ (E1 : ET) (g1 : Nat → va_E) (a : Nat), Nx E E1 g g1 (.inr (ci, fs)) → a = E1.1 E.2 → G M S E1 (n.1 + 1, n.2 + N) g1 (pc + 3) vs (.ref a :: rest)) : G M S E n g pc vs rest := by
  obtain ⟨p, l, e, R, s, m, args, below, meth, c, A, Q⟩ := M
  obtain ⟨hx, hb, hml, hown, hts, hr, hlk, hK, hF, hA, hR⟩ := C
  intro H locs ls hP hD hS hl
  obtain ⟨Cn, T, ty, h1, h2, h3, h4, h5, h6, h7⟩ := w
  subst hR
  refine va_new (cc := cc) hx hb hts h2 ty h3 hown (hts _ h4) (hts _ h5) (hts _ h6) hK hP.P (hD.D g) hS hA h1 h7 hc hs d (fun q H1 hP1 hD1 hS1 => ?_)
  rw [rwl_snoc] at hP1 hD1
  exact kk _ _ q (Nx.of E g q _) (va_up_self _ _ _).symm H1 locs ls (HP.of hP1) (HD.ofD hD1) hS1 hl
theorem r_newI {N : Nat} {x : Int32} (C : Cx M S cc nL own ret rm) (d : decode cc pc = .ok (.newarray .int, 2)) (hx' : x = nI N) (hN : N < 2 ^ 20) (hc : n.1 + 1 ≤ rm.cells) (hs : n.2 + N ≤ rm.slots) (kk : ∀ (E1 : ET) (g1 : Nat → va_E) (a : Nat), Nx E E1 g g1 (xI S N (fun _ => 0)) → a = E1.1 E.2 → G M S E1 (n.1 + 1, n.2 + N) g1 (pc + 2) vs (.ref a :: rest)) : G M S E n g pc vs (.int x :: rest) := by
  obtain ⟨p, l, e, R, s, m, args, below, meth, c, A, Q⟩ := M
  obtain ⟨hx, hb, hml, hown, hts, hr, hlk, hK, hF, hA, hR⟩ := C
  intro H locs ls hP hD hS hl
  subst hR hx'
  refine va_newa (atype := .int) (ty := .int) (a0 := (N, .inl (fun _ => 0))) hx hb (hts _ qY_int) rfl hK hP.P (hD.D g) hS hA (fun cA => rfl) (nI_pos (by omega)) (nI_clamp (by omega)) (by show N * 4 ≤ _; omega) hc hs d (fun q cA H1 hK1 hP1 hD1 hS1 => ?_)
  have e1 : s.vm.findClass _ = some cA := (hK1.2 6 _ rfl).2
  have e2 : s.vm.findClass _ = some (S.2 0) := (hK.2 0 _ rfl).2
  have e3 : cA = S.2 0 := Option.some.inj (e1.symm.trans e2)
  subst e3
  rw [rwl_snoc] at hP1 hD1
  exact kk _ _ q (Nx.of E g q _) (va_up_self _ _ _).symm H1 locs ls (HP.of hP1) (HD.ofD hD1) hS1 hl
theorem r_newJ {N : Nat} {x : Int32} (C : Cx M S cc nL own ret rm) (d : decode cc pc = .ok (.newarray .long, 2)) (hx' : x = nI N) (hN : N < 2 ^ 20) (hc : n.1 + 1 ≤ rm.cells) (hs : n.2 + N ≤ rm.slots) (kk : ∀ (E1 : ET) (g1 : Nat → va_E) (a : Nat), Nx E E1 g g1 (xJ S N (fun _ => 0)) → a = E1.1 E.2 → G M S E1 (n.1 + 1, n.2 + N) g1 (pc + 2) vs (.ref a :: rest)) : G M S E n g pc vs (.int x :: rest) := by
  obtain ⟨p, l, e, R, s, m, args, below, meth, c, A, Q⟩ := M
  obtain ⟨hx, hb, hml, hown, hts, hr, hlk, hK, hF, hA, hR⟩ := C
  intro H locs ls hP hD hS hl
  subst hR hx'
  refine va_newa (atype := .long) (ty := .long) (a0 := (N, .inr (.inl (fun _ => 0)))) hx hb (hts _ qY_long) rfl hK hP.P (hD.D g) hS hA (fun cA => rfl) (nI_pos (by omega)) (nI_clamp (by omega)) (by show N * 8 ≤ _; omega) hc hs d (fun q cA H1 hK1 hP1 hD1 hS1 => ?_)
  have e1 : s.vm.findClass _ = some cA := (hK1.2 6 _ rfl).2
  have e2 : s.vm.findClass _ = some (S.2 1) := (hK.2 1 _ rfl).2
  have e3 : cA = S.2 1 := Option.some.inj (e1.symm.trans e2)
  subst e3
  rw [rwl_snoc] at hP1 hD1
  exact kk _ _ q (Nx.of E g q _) (va_up_self _ _ _).symm H1 locs ls (HP.of hP1) (HD.ofD hD1) hS1 hl
theorem r_newB {N : Nat} {x : Int32} (C : Cx M S cc nL own ret rm) (d : decode cc pc = .ok (.newarray .byte, 2)) (hx' : x = nI N) (hN : N < 2 ^ 20) (hc : n.1 + 1 ≤ rm.cells) (hs : n.2 + N ≤ rm.slots) (kk : ∀ (E1 : ET) (g1 : Nat → va_E) (a : Nat), Nx E E1 g g1 (xB S N (fun _ => 0)) → a = E1.1 E.2 → G M S E1 (n.1 + 1, n.2 + N) g1 (pc + 2) vs (.ref a :: rest)) : G M S E n g pc vs (.int x :: rest) := by
  obtain ⟨p, l, e, R, s, m, args, below, meth, c, A, Q⟩ := M
  obtain ⟨hx, hb, hml, hown, hts, hr, hlk, hK, hF, hA, hR⟩ := C
  intro H locs ls hP hD hS hl
  subst hR hx'
  refine va_newa (atype := .byte) (ty := .byte) (a0 := (N, .inl (fun _ => 0))) hx hb (hts _ qY_byte) rfl hK hP.P (hD.D g) hS hA (fun cA => rfl) (nI_pos (by omega)) (nI_clamp (by omega)) (by show N * 1 ≤ _; omega) hc hs d (fun q cA H1 hK1 hP1 hD1 hS1 => ?_)
  have e1 : s.vm.findClass _ = some cA := (hK1.2 6 _ rfl).2
  have e2 : s.vm.findClass _ = some (S.2 2) := (hK.2 2 _ rfl).2
  have e3 : cA = S.2 2 := Option.some.inj (e1.symm.trans e2)
  subst e3
  rw [rwl_snoc] at hP1 hD1
  exact kk _ _ q (Nx.of E g q _) (va_up_self _ _ _).symm H1 locs ls (HP.of hP1) (HD.ofD hD1) hS1 hl
theorem r_newR {t N index : Nat} {x : Int32} {Cc : String} (C : Cx M S cc nL own ret rm) (d : decode cc pc = .ok (.anewarray index, 3)) (hl0 : Cond.classLink own index Cc ∈ Tg) (ht : (t = 4 ∧ Cc = RX2) ∨ (t = 5 ∧ Cc = RX4)) (hx' : x = nI N) (hN : N < 2 ^ 20) (hc : n.1 + 1 ≤ rm.cells) (hs : n.2 + N ≤ rm.slots) (kk : ∀ (E1 : ET) (g1 : Nat → va_E) (a : Nat), Nx E E1 g g1 (xR S t N (fun _ => none)) → a = E1.1 E.2 → G M S E1 (n.1 + 1, n.2 + N) g1 (pc + 3) vs (.ref a :: rest)) : G M S E n g pc vs (.int x :: rest) := by
  obtain ⟨p, l, e, R, s, m, args, below, meth, c, A, Q⟩ := M
  obtain ⟨hx, hb, hml, hown, hts, hr, hlk, hK, hF, hA, hR⟩ := C
  intro H locs ls hP hD hS hl
  subst hR hx'
  have hov : va_AO Cc s := by
    rcases ht with ⟨_, rfl⟩ | ⟨_, rfl⟩
    · exact hF.1.1.2.1
    · exact hF.1.1.2.2.1
  refine va_newq hx hb hown (hts _ hl0) hov hK hP.P (hD.D g) hS hA (nI_pos (by omega)) (nI_clamp (by omega)) (by omega) hc hs d (fun q cA H1 hK1 hP1 hD1 hS1 => ?_)
  have e3 : cA = S.2 t := by
    obtain ⟨kA, comp, _, _, _, e1⟩ := (hK1.2 6 _ rfl).2
    rcases ht with ⟨rfl, rfl⟩ | ⟨rfl, rfl⟩
    · obtain ⟨kA2, comp2, _, _, _, e2⟩ := (hK.2 4 _ rfl).2
      exact Option.some.inj (e1.symm.trans e2)
    · obtain ⟨kA2, comp2, _, _, _, e2⟩ := (hK.2 5 _ rfl).2
      exact Option.some.inj (e1.symm.trans e2)
  subst e3
  rw [rwl_snoc] at hP1 hD1
  exact kk _ _ q (Nx.of E g q _) (va_up_self _ _ _).symm H1 locs ls (HP.of hP1) (HD.ofD hD1) hS1 hl
/-- an array of arrays of ints is new -/
def Mx (S : ST) (E E1 : ET) (g g1 : Nat → va_E) (N K : Nat) : Prop := E1.2 = E.2 + 1 + N ∧ (∀ i : Nat, i < E.2 → E1.1 i = E.1 i) ∧ Kp E g g1 ∧ g1 E.2 = xR S 3 N (fun j => some (E1.1 (E.2 + 1 + j))) ∧ ∀ j : Nat, j < N → g1 (E.2 + 1 + j) = xI S K (fun _ => 0)
theorem r_mna {index N K : Nat} {x y : Int32} (C : Cx M S cc nL own ret rm) (d : decode cc pc = .ok (.multianewarray index 2, 4)) (hl0 : Cond.classLink own index "[[I" ∈ Tg) (hx' : x = nI N) (hy' : y = nI K) (hN : N < 2 ^ 10) (hK' : K < 2 ^ 10) (hc : n.1 + (1 + N) ≤ rm.cells) (hs : n.2 + (N + N * K) ≤ rm.slots) (kk : ∀ (E1 : ET) (g1 : Nat → va_E) (a : Nat), Mx S E E1 g g1 N K → a = E1.1 E.2 → G M S E1 (n.1 + 1 + N, n.2 + N + N * K) g1 (pc + 4) vs (.ref a :: rest)) : G M S E n g pc vs (.int y :: .int x :: rest) := by
  obtain ⟨p, l, e, R, s, m, args, below, meth, c, A, Q⟩ := M
  obtain ⟨hx, hb, hml, hown, hts, hr, hlk, hK, hF, hA, hR⟩ := C
  intro H locs ls hP hD hS hl
  subst hR hx' hy'
  have e2 : s.vm.findClass _ = some (S.2 0) := (hK.2 0 _ rfl).2
  refine va_mna (X := rwl E g) (L := []) (f := fun _ => .inl (S.2 0, K, .inl (fun _ => 0))) (ty := .int) (cy := S.2 0) (z := (K, .inl (fun _ => 0))) hx hb hown (hts _ hl0) hF.1.1.1 (hts _ qY_int) e2 hK (by rw [show va_pl [] (fun _ => (.inl (S.2 0, K, .inl (fun _ => 0)) : va_E)) = [] from rfl, List.append_nil]; exact hP.P) (by rw [show va_pl [] (fun _ => (.inl (S.2 0, K, .inl (fun _ => 0)) : va_E)) = [] from rfl, List.append_nil]; exact hD.D g) hS hA (nI_pos (by omega)) (nI_pos (by omega)) (nI_clamp (by omega)) (nI_clamp (by omega)) (by omega) (by show K * 4 ≤ _; omega) (by omega) (by decide) (by decide) hc hs (fun c => ?_) d (fun q r cA H1 hr1 _ hK1 hP1 hD1 hS1 => ?_)
  · show ({ cls := c, slots := Array.replicate K (Value.int 0), vm := .none } : Cell) = arrV c K (fun _ => .int 0)
    rw [arrV_new]
  have e1 : s.vm.findClass _ = some cA := (hK1.2 6 _ rfl).2
  have e4 : s.vm.findClass _ = some (S.2 3) := (hK.2 3 _ rfl).2
  have e3 : cA = S.2 3 := Option.some.inj (e1.symm.trans e4)
  subst e3
  have hlen : (rwl E g).length = E.2 := by unfold rwl; rw [List.length_map, List.length_range]
  have at1 : ∀ i : Nat, i < E.2 → (rwl E g ++ [(q, (.inl (S.2 3, N, .inr (.inr (.inr (.inr (fun i => if i < N then some (r i) else none))))) : va_E))] ++ va_pl ([] ++ (List.range N).map r) (vr_up (fun _ => .inl (S.2 0, K, .inl (fun _ => 0))) ((List.range N).map r) (.inl (S.2 0, K, .inl (fun _ => 0)))))[i]? = some (E.1 i, g i) := fun i hi => by
    rw [List.append_assoc, List.getElem?_append_left (by rw [hlen]; exact hi), rwl_at hi]
  have at2 : (rwl E g ++ [(q, (.inl (S.2 3, N, .inr (.inr (.inr (.inr (fun i => if i < N then some (r i) else none))))) : va_E))] ++ va_pl ([] ++ (List.range N).map r) (vr_up (fun _ => .inl (S.2 0, K, .inl (fun _ => 0))) ((List.range N).map r) (.inl (S.2 0, K, .inl (fun _ => 0)))))[E.2]? = some (q, .inl (S.2 3, N, .inr (.inr (.inr (.inr (fun i => if i < N then some (r i) else none)))))) := by
    rw [List.append_assoc, List.getElem?_append_right (by rw [hlen]; exact Nat.le_refl _), hlen, Nat.sub_self]
    rfl
  have at3 : ∀ j : Nat, j < N → (rwl E g ++ [(q, (.inl (S.2 3, N, .inr (.inr (.inr (.inr (fun i => if i < N then some (r i) else none))))) : va_E))] ++ va_pl ([] ++ (List.range N).map r) (vr_up (fun _ => .inl (S.2 0, K, .inl (fun _ => 0))) ((List.range N).map r) (.inl (S.2 0, K, .inl (fun _ => 0)))))[E.2 + 1 + j]? = some (r j, .inl (S.2 0, K, .inl (fun _ => 0))) := fun j hj => by
    rw [List.getElem?_append_right (by rw [List.length_append, hlen]; show E.2 + 1 ≤ _; omega), List.length_append, hlen, show E.2 + 1 + j - (E.2 + [(q, (.inl (S.2 3, N, .inr (.inr (.inr (.inr (fun i => if i < N then some (r i) else none))))) : va_E))].length) = j by show E.2 + 1 + j - (E.2 + 1) = j; omega]
    unfold va_pl
    rw [List.nil_append, List.getElem?_map, List.getElem?_map, List.getElem?_range hj]
    show some (r j, _) = _
    rw [vr_up_in (List.mem_map.mpr ⟨j, List.mem_range.mpr hj, rfl⟩)]
  have hE1 : ∀ (i : Nat), i < E.2 + 1 + N → i < E.2 ∨ i = E.2 ∨ ∃ j : Nat, j < N ∧ i = E.2 + 1 + j := fun i hi => by
    by_cases h1 : i < E.2
    · exact Or.inl h1
    · by_cases h2 : i = E.2
      · exact Or.inr (Or.inl h2)
      · exact Or.inr (Or.inr ⟨i - (E.2 + 1), by omega, by omega⟩)
  have f1 : ∀ i : Nat, i < E.2 → (fun i => if i < E.2 then E.1 i else if i = E.2 then q else r (i - (E.2 + 1))) i = E.1 i := fun i hi => if_pos hi
  have f2 : (fun i => if i < E.2 then E.1 i else if i = E.2 then q else r (i - (E.2 + 1))) E.2 = q := by show (if E.2 < E.2 then _ else _) = q; rw [if_neg (Nat.lt_irrefl _), if_pos rfl]
  have f3 : ∀ j : Nat, (fun i => if i < E.2 then E.1 i else if i = E.2 then q else r (i - (E.2 + 1))) (E.2 + 1 + j) = r j := fun j => by
    show (if E.2 + 1 + j < E.2 then _ else _) = _
    rw [if_neg (by omega), if_neg (by omega), show E.2 + 1 + j - (E.2 + 1) = j by omega]
  obtain ⟨E1, hE⟩ : ∃ E1 : ET, E1 = (fun i => if i < E.2 then E.1 i else if i = E.2 then q else r (i - (E.2 + 1)), E.2 + 1 + N) := ⟨_, rfl⟩
  have k2 : E1.2 = E.2 + 1 + N := by rw [hE]
  have k1 : ∀ i : Nat, i < E.2 → E1.1 i = E.1 i := fun i hi => by rw [hE]; exact f1 i hi
  have k3 : E1.1 E.2 = q := by rw [hE]; exact f2
  have k4 : ∀ j : Nat, E1.1 (E.2 + 1 + j) = r j := fun j => by rw [hE]; exact f3 j
  have look : ∀ i : Nat, i < E1.2 → ∃ ee : va_E, (rwl E g ++ [(q, (.inl (S.2 3, N, .inr (.inr (.inr (.inr (fun i => if i < N then some (r i) else none))))) : va_E))] ++ va_pl ([] ++ (List.range N).map r) (vr_up (fun _ => .inl (S.2 0, K, .inl (fun _ => 0))) ((List.range N).map r) (.inl (S.2 0, K, .inl (fun _ => 0)))))[i]? = some (E1.1 i, ee) := fun i hi => by
    rw [k2] at hi
    rcases hE1 i hi with h | rfl | ⟨j, hj, rfl⟩
    · exact ⟨_, by rw [k1 i h]; exact at1 i h⟩
    · exact ⟨_, by rw [k3]; exact at2⟩
    · exact ⟨_, by rw [k4]; exact at3 j hj⟩
  obtain ⟨g1, hg⟩ : ∃ g1 : Nat → va_E, g1 = fun i => if i < E.2 then g i else if i = E.2 then xR S 3 N (fun j => some (E1.1 (E.2 + 1 + j))) else xI S K (fun _ => 0) := ⟨_, rfl⟩
  have j1 : ∀ i : Nat, i < E.2 → g1 i = g i := fun i hi => by rw [hg]; exact if_pos hi
  have j2 : g1 E.2 = xR S 3 N (fun j => some (E1.1 (E.2 + 1 + j))) := by
    rw [hg]
    show (if E.2 < E.2 then _ else _) = _
    rw [if_neg (Nat.lt_irrefl _), if_pos rfl]
  have j3 : ∀ j : Nat, g1 (E.2 + 1 + j) = xI S K (fun _ => 0) := fun j => by
    rw [hg]
    show (if E.2 + 1 + j < E.2 then _ else _) = _
    rw [if_neg (by omega), if_neg (by omega)]
  refine kk E1 g1 q ⟨k2, k1, j1, j2, fun j _ => j3 j⟩ k3.symm H1 locs ls (fun i hi => ?_) ⟨fun i j hi hj he => ?_, fun i hi => ?_⟩ hS1 hl
  · rw [k2] at hi
    rcases hE1 i hi with h | rfl | ⟨j, hj, rfl⟩
    · rw [j1 i h, k1 i h]
      exact hP1 _ _ (at1 i h)
    · rw [j2, k3]
      have h := hP1 _ _ at2
      have hc2 : vp_cell (S.2 3) (N, .inr (.inr (.inr (.inr (fun i => if i < N then some (r i) else none))))) = vp_cell (S.2 3) (N, .inr (.inr (.inr (.inr (fun j => some (E1.1 (E.2 + 1 + j))))))) := arrV_cong (f := fun j => va_rf (if j < N then some (r j) else none)) (f' := fun j => va_rf (some (E1.1 (E.2 + 1 + j)))) (fun j hj => by rw [if_pos hj, k4])
      show H1[q]? = some (vp_cell (S.2 3) (N, .inr (.inr (.inr (.inr (fun j => some (E1.1 (E.2 + 1 + j))))))))
      rw [← hc2]
      exact h
    · rw [j3, k4]
      exact hP1 _ _ (at3 j hj)
  · obtain ⟨ea, ha⟩ := look i hi
    obtain ⟨eb, hb2⟩ := look j hj
    exact hD1.1 i j _ _ ha hb2 he
  · obtain ⟨ea, ha⟩ := look i hi
    exact hD1.2 i _ ha
/-- behind a call of a constructor -/
theorem g_runN {p : Program} {l : Launch} {e : Env} {R : Room} {s : State} {m : MethodId} {args : Array Value} {below : List Frame} {meth : Method} {c : Code} {A : Nat → Prop} {Q : State → Prop} {mc' ms' : Nat} {st : List Value} {post' : ET → (Nat → va_E) → Prop} {a : Array Value} {H : Heap} {locs : List Loc} {ls : Array Slot}
    (hrun : va_Run p l e R s m args below meth c H locs n.1 n.2 mc' ms' (F0 m pc ls st) rest (Qn S E (Af E H.size) post' a) (Af E H.size))
    (kk : ∀ (E1 : ET) (g1 : Nat → va_E), Ex E E1 → post' E1 g1 → G (p, l, e, R, s, m, args, below, meth, c, A, Q) S E1 (n.1 + mc', n.2 + ms') g1 (pc + 3) vs rest)
    (hA : ∀ q, s.heap.size ≤ q → A q) (hD : HD A E) (hS : va_S A s.heap H locs) (hl : lh ls c.maxLocals vs) : W p l e R s m args below meth c H locs n.1 n.2 Q (F0 m pc ls st) := by
  have hf : ∀ q, Af E H.size q → A q := af_sub hA hD hS
  intro T hT X
  obtain ⟨v, st₀, t, T', L, h0, X', hL, e1, e2, ⟨⟨E1, g1, hv, hE, hD1, hp, hP'⟩, hz, hk⟩, stp⟩ := hrun T hT X
  cases hv
  rw [h0] at hz hk
  obtain ⟨t2, a1, b1⟩ := kk E1 g1 hE hp T'.heap (locs ++ L) ls (by rw [e1]; exact hP') ⟨hD1.1, fun i hi => hf _ (hD1.2 i hi)⟩
    ⟨Nat.le_trans hS.1 (by rw [e1]; exact hz), fun q h1 h2 => by rw [e1, hk q (Nat.lt_of_lt_of_le h1 hS.1) (fun z => h2 (hf q z))]; exact hS.2.1 q h1 h2, fun q hq => by
      rcases List.mem_append.mp hq with h | h
      · exact hS.2.2 q h
      · exact hf _ (hL q h)⟩ hl T' rfl X'
  exact ⟨t2, stp t2 a1, b1⟩
theorem gdI {y : MethodName} {bytes : ByteArray} {maxL : Nat} {ret : Option FieldType} (h : Cond.code y bytes maxL ret ∈ Tg) : GoodIn Tg (.code y bytes maxL ret :: Tg) := fun w hw => by
  have hm : w ∈ Tg := by
    rcases List.mem_cons.mp hw with rfl | h2
    · exact h
    · exact h2
  exact ⟨hm, Tg_good w hm⟩
def rmC (rm' : Room) (mc ms maxL : Nat) (rm : Room) : Prop := rm'.cells = mc ∧ rm'.slots = ms ∧ rm'.frames + 1 ≤ rm.frames ∧ 8 + (maxL + 11) + rm'.locals ≤ rm.locals
theorem r_callI {y : MethodName} {bytes : ByteArray} {maxL idx mc' ms' i : Nat} {rm' : Room} {post' : ET → (Nat → va_E) → Prop} (C : Cx M S cc nL own ret rm) (d : decode cc pc = .ok (.invokespecial idx, 3)) (hl0 : Cond.methodLink own idx y ∈ Tg) (hi0 : Cond.instanceMethod y ∈ Tg) (hn0 : Cond.initialized y.cls ∈ Tg) (hc0 : Cond.code y bytes maxL none ∈ Tg) (hnm : y.name = "<init>") (h6 : y.cls ≠ "java/lang/invoke/MethodHandle" ∧ y.cls ≠ "java/lang/invoke/VarHandle" ∧ (parseMethodDescriptor y.desc).map (fun d => d.parameters.length) = some 0) (hM : Cn S E y bytes maxL rm' [.ref (E.1 i)] g mc' ms' post') (hR' : rmC rm' mc' ms' maxL rm) (hw : (rest.map fun v => v.category).sum ≤ 8) (hn : n.1 + mc' ≤ rm.cells ∧ n.2 + ms' ≤ rm.slots)
    (kk : ∀ (E1 : ET) (g1 : Nat → va_E), Ex E E1 → post' E1 g1 → G M S E1 (n.1 + mc', n.2 + ms') g1 (pc + 3) vs rest) : G M S E n g pc vs (.ref (E.1 i) :: rest) := by
  obtain ⟨p, l, e, R, s, m, args, below, meth, c, A, Q⟩ := M
  obtain ⟨hx, hb, hml, hown, hts, hr, hlk, hK, hF, hA, hR⟩ := C
  intro H locs ls hP hD hS hl
  subst hR
  exact g_runN (rest := rest) (va_runI (As := []) (rest := rest) ⟨hx, hb, rfl, hown, hts⟩ (hM l H.size) ⟨callB_of 0 hts (gdI hc0) rfl hR'.1 hR'.2.1 (hts _ hn0) (hts _ hl0) h6 ⟨hR'.2.2.1, hR'.2.2.2⟩, hnm, hts _ hi0⟩ ⟨Cx.blind, fun U hU hW => ⟨rfl, by rw [hU], by rw [hU]; exact hP, ⟨hD.1, fun _ _ => trivial⟩, va_K.moved hW.alike hK, FX.call hW hU hS (af_sub hA hD hS) hF⟩⟩ rfl rfl hl.1 rfl (lv_room (m := m) (pc := pc) (ls := ls) (rest := .ref (E.1 i) :: rest) hw) d hn) kk hA hD hS hl
theorem r_callIN {y : MethodName} {bytes : ByteArray} {maxL idx mc' ms' i : Nat} {rm' : Room} {post' : ET → (Nat → va_E) → Prop} (C : Cx M S cc nL own ret rm) (d : decode cc pc = .ok (.invokespecial idx, 3)) (hl0 : (own, idx, y, RX7) ∈ nests) (hi0 : Cond.instanceMethod y ∈ Tg) (hn0 : Cond.initialized y.cls ∈ Tg) (hc0 : Cond.code y bytes maxL none ∈ Tg) (hnm : y.name = "<init>") (h6 : y.cls ≠ "java/lang/invoke/MethodHandle" ∧ y.cls ≠ "java/lang/invoke/VarHandle" ∧ (parseMethodDescriptor y.desc).map (fun d => d.parameters.length) = some 0) (hM : Cn S E y bytes maxL rm' [.ref (E.1 i)] g mc' ms' post') (hR' : rmC rm' mc' ms' maxL rm) (hw : (rest.map fun v => v.category).sum ≤ 8) (hn : n.1 + mc' ≤ rm.cells ∧ n.2 + ms' ≤ rm.slots)
    (kk : ∀ (E1 : ET) (g1 : Nat → va_E), Ex E E1 → post' E1 g1 → G M S E1 (n.1 + mc', n.2 + ms') g1 (pc + 3) vs rest) : G M S E n g pc vs (.ref (E.1 i) :: rest) := by
  obtain ⟨p, l, e, R, s, m, args, below, meth, c, A, Q⟩ := M
  obtain ⟨hx, hb, hml, hown, hts, hr, hlk, hK, hF, hA, hR⟩ := C
  intro H locs ls hP hD hS hl
  subst hR
  exact g_runN (rest := rest) (va_runIN (As := []) (rest := rest) ⟨hx, hb, rfl, hown, hts⟩ (hM l H.size) ⟨va_cnB 0 hts (gdI hc0) rfl hR'.1 hR'.2.1 (hF.1.1.2.2.2 _ hl0) (hts _ hn0) h6 ⟨hR'.2.2.1, hR'.2.2.2⟩, hnm, hts _ hi0⟩ ⟨Cx.blind, fun U hU hW => ⟨rfl, by rw [hU], by rw [hU]; exact hP, ⟨hD.1, fun _ _ => trivial⟩, va_K.moved hW.alike hK, FX.call hW hU hS (af_sub hA hD hS) hF⟩⟩ rfl rfl hl.1 rfl (lv_room (m := m) (pc := pc) (ls := ls) (rest := .ref (E.1 i) :: rest) hw) d hn) kk hA hD hS hl
end GN
