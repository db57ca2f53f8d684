/-! worlds that grow: the roles' addresses are b + i, fixed; a constructor makes more roles -/
def Bs : MT → Nat → Nat → Prop
  | (p, l, e, R, s, m, args, below, meth, c, A, Q), b, k0 => s.heap.size = b + k0 ∧ ∀ q : Nat, A q ↔ b ≤ q
def Qn (S : ST) (E1 : ET) (A : Nat → Prop) (post : (Nat → va_E) → Prop) : Array Value → State → Outcome → State → Prop := fun _ st oc t => (∃ g1 : Nat → va_E, oc = .returned none ∧ post g1 ∧ HP S E1 g1 t.heap) ∧ va_F A st t
/-- a constructor's contract: from k roles to k1 -/
def Cn (S : ST) (b k k1 : Nat) (y : MethodName) (bytes : ByteArray) (maxL : Nat) (rm : Room) (av : List Value) (g : Nat → va_E) (ms : Nat) (post : (Nat → va_E) → Prop) : Prop :=
  ∀ (l : Launch), Met l y (.code y bytes maxL none :: Tg) rm (va_Pc av (Pw S (fun i => b + i, k) g (b + k))) (Qn S (fun i => b + i, k1) (Af (fun i => b + i, k) (b + k)) post) (k1 - k) ms (Af (fun i => b + i, k) (b + k))
def RtC : MT → ST → ET → ((Nat → va_E) → Prop) → Nat → Nat → Prop
  | (p, l, e, R, s, m, args, below, meth, c, A, Q), S, E1, post, mc, ms => Q = MQ below (Qn S E1 A post) args s mc ms A ∧ meth.name = "<init>"
theorem Cn.of {S : ST} {b k k1 : Nat} {y : MethodName} {bytes : ByteArray} {maxL : Nat} {rm : Room} {av : List Value} {g : Nat → va_E} {ms : Nat} {post : (Nat → va_E) → Prop} (own : String) (hy : plainName y.cls = true) (hown : y.cls = own) (hin : y.name = "<init>") (hlen : (lg_sl av).length ≤ maxL)
    (body : ∀ M : MT, Cx M S bytes maxL own none rm → RtC M S (fun i => b + i, k1) post (k1 - k) ms → Bs M b k → G M S (fun i => b + i, k) (0, 0) g 0 (ent maxL av) []) : Cn S b k k1 y bytes maxL rm av g ms post := by
  intro l
  refine Met.ofW (cc := bytes) (maxL := maxL) (ret := none) hy rfl ?_
  intro p e s m args below meth c s₁ B hml hv
  obtain ⟨rfl, hsz, hP, hD0, hK, hF⟩ := hv
  have hts := atoms_spec (ws := .code y bytes maxL none :: Tg) B.pre
  have hown' : s.vm.findClass y.cls = some m.cls := findClass_of_methodNamed B.named
  have hnm : meth.name = y.name := (name_of_methodNamed B.named B.method).1
  have hAf : ∀ q : Nat, Af (fun i => b + i, k) (b + k) q ↔ b ≤ q := fun q => by
    unfold Af
    constructor
    · rintro (⟨i, hi, rfl⟩ | h)
      · show b ≤ b + i; omega
      · omega
    · intro h
      by_cases h2 : b + k ≤ q
      · exact Or.inr h2
      · exact Or.inl ⟨q - b, by show q - b < k; omega, by show q = b + (q - b); omega⟩
  have hb := body (p, l, e, rm, s, m, av.toArray, below, meth, c, Af (fun i => b + i, k) (b + k), MQ below (Qn S (fun i => b + i, k1) (Af (fun i => b + i, k) (b + k)) post) av.toArray s (k1 - k) ms (Af (fun i => b + i, k) (b + k)))
    ⟨B.exec, B.bytes, hml, by rw [← hown]; exact hown', fun w hw => hts w (List.mem_cons_of_mem _ hw), B.returns, B.notSynchronized, hK, by rw [hsz] at *; exact hF, fun q h => Or.inr (by omega), rfl⟩ ⟨rfl, by rw [hnm]; exact hin⟩ ⟨hsz, hAf⟩
  rw [lg_entry_eq]
  have hl := ent_lh (av := av) hlen
  rw [← hml] at hl ⊢
  exact hb _ _ _ hP ⟨hD0.1, fun i hi => Or.inl ⟨i, hi, rfl⟩⟩ va_S.rf (by rw [hml] at hl ⊢; exact hl)
theorem rwl_snoc (F : Nat → Nat) (k : Nat) (g : Nat → va_E) (e : va_E) : rwl (F, k) g ++ [(F k, e)] = rwl (F, k + 1) (va_up g k e) := by
  unfold rwl
  rw [List.range_succ, List.map_append]
  congr 1
  · apply List.map_congr_left
    intro i hi
    have := List.mem_range.mp hi
    show (F i, g i) = (F i, va_up g k e i)
    rw [va_up_ne _ _ (by show i ≠ k; exact Nat.ne_of_lt this)]
  · show [(F k, e)] = [(F k, va_up g k e k)]
    rw [va_up_self]
/-- where a new cell lies -/
theorem nw_q {S : ST} {A : Nat → Prop} {b k q : Nat} {g : Nat → va_E} {H1 : Heap} {e : va_E} (hP1 : va_P S.1 vwCl (rwl (fun i => b + i, k) g ++ [(q, e)]) H1) (hD1 : va_D A (rwl (fun i => b + i, k) g ++ [(q, e)])) (hAb : ∀ q : Nat, A q ↔ b ≤ q) (hs : H1.size ≤ b + k + 1) : q = b + k := by
  have hlen : (rwl (fun i => b + i, k) g).length = k := by unfold rwl; rw [List.length_map, List.length_range]
  have hat : (rwl (fun i => b + i, k) g ++ [(q, e)])[k]? = some (q, e) := by
    rw [List.getElem?_append_right (by rw [hlen]; exact Nat.le_refl _), hlen, Nat.sub_self]
    rfl
  have h1 : q < H1.size := (hP1 k _ hat).lt
  have h2 : b ≤ q := (hAb q).mp (hD1.2 k _ hat)
  by_cases h3 : q < b + k
  · have hat2 : (rwl (fun i => b + i, k) g ++ [(q, e)])[q - b]? = some (b + (q - b), g (q - b)) := by
      rw [List.getElem?_append_left (by rw [hlen]; omega)]
      exact rwl_at (E := (fun i => b + i, k)) (by show q - b < k; omega)
    have := hD1.1 k (q - b) _ _ hat hat2 (by show q = b + (q - b); omega)
    omega
  · omega
theorem HD.bs {A : Nat → Prop} {b k : Nat} (hAb : ∀ q : Nat, A q ↔ b ≤ q) : HD A (fun i => b + i, k) := ⟨fun i j _ _ e => by have e : b + i = b + j := e; omega, fun i _ => (hAb _).mpr (by show b ≤ b + i; omega)⟩
def NW (own : String) (index ci N : Nat) (fs : List Value) : Prop := ∃ (Cn : String) (T : u_T) (ty : Nat → FieldType), vwCl[ci]? = some (Cn, T, N) ∧ (∀ w ∈ u_ws Cn T N, w ∈ Tg) ∧ (∀ k, k < N → parseFieldDescriptor (T k).2.2.1 = some (ty k)) ∧ Cond.classLink own index Cn ∈ Tg ∧ Cond.instantiable Cn N ∈ Tg ∧ Cond.initialized Cn ∈ Tg ∧ ∀ j, j < N → defaultValue (ty j) = vp_V fs j
def FF (own : String) (index ci k : Nat) (ty : FieldType) : Prop := ∃ (Cn : String) (T : u_T) (N : Nat) (tyf : Nat → FieldType), vwCl[ci]? = some (Cn, T, N) ∧ k < N ∧ Cond.fieldLink own index (T k).1 (T k).2.1 (T k).2.2.1 ∈ Tg ∧ (∀ w ∈ u_ws Cn T N, w ∈ Tg) ∧ (∀ k, k < N → parseFieldDescriptor (T k).2.2.1 = some (tyf k)) ∧ (∀ a, a < N → ∀ b, b < N → a ≠ b → (T a).2.1 ≠ (T b).2.1) ∧ (T k).2.2.2 = true ∧ (T k).1 = own ∧ parseFieldDescriptor (T k).2.2.1 = some ty
theorem gdI {y : MethodName} {bytes : ByteArray} {maxL : Nat} {ret : Option FieldType} (h : Cond.code y bytes maxL ret ∈ Tg) : GoodIn Tg (.code y bytes maxL ret :: Tg) := fun w hw => by
  have hm : w ∈ Tg := by
    rcases List.mem_cons.mp hw with rfl | h2
    · exact h
    · exact h2
  exact ⟨hm, Tg_good w hm⟩
def rmC (rm' : Room) (mc ms maxL : Nat) (rm : Room) : Prop := rm'.cells = mc ∧ rm'.slots = ms ∧ rm'.frames + 1 ≤ rm.frames ∧ 8 + (maxL + 11) + rm'.locals ≤ rm.locals
section GN
variable {M : MT} {S : ST} {E E0 : ET} {b k k0 : Nat} {n : Nat × Nat} {g : Nat → va_E} {pc : Nat} {vs : List (Option Value)} {rest : List Value} {cc : ByteArray} {nL mc ms : Nat} {own : String} {ret : Option FieldType} {rm : Room} {post : (Nat → va_E) → Prop}
theorem r_vretC (C : Cx M S cc nL own none rm) (Z : RtC M S E post mc ms) (d : decode cc pc = .ok (.return_, 1)) (h : post g) (hn : n = (mc, ms)) : G M S E n g pc vs [] := by
  subst hn
  obtain ⟨p, l, e, R, s, m, args, below, meth, c, A, Q⟩ := M
  obtain ⟨hx, hb, hml, hown, hts, hr, hlk, hK, hF, hA, hR⟩ := C
  intro H locs ls hP hD hS hl
  have hQ : Q = _ := Z.1
  rw [hQ]
  exact W.vret hx hb hr (fun t ht hW => ⟨⟨g, rfl, h, by rw [ht]; exact hP⟩, hS.F ht⟩) hS.2.2 d hlk
theorem r_putF {index ci k i : Nat} {ty : FieldType} {fs : List Value} {v : Value} (C : Cx M S cc nL own ret rm) (Z : RtC M S E0 post mc ms) (d : decode cc pc = .ok (.putfield index, 3)) (f : FF own index ci k ty) (hg : Ce E g i (.inr (ci, fs))) (hn : narrow ty v = v) (hfit : fits ty v = true) (hlen : k < fs.length) (kk : G M S E n (va_up g i (.inr (ci, fs.set k v))) (pc + 3) vs rest) : G M S E n g pc vs (v :: .ref (E.1 i) :: rest) := by
  obtain ⟨p, l, e, R, s, m, args, below, meth, c, A, Q⟩ := M
  obtain ⟨hx, hb, hml, hown, hts, hr, hlk, hK, hF, hA, hR⟩ := C
  intro H locs ls hP hD hS hl
  obtain ⟨Cn, T, N, tyf, h1, h2, h3, h4, h5, h6, h7, h8, h9⟩ := f
  exact va_putF hx hb hts h4 tyf h5 h6 hown hK hP.P (hD.D g) hS i hg.at h1 k h2 (hts _ h3) (fun _ h => h) h7 Z.2 h8 h9 hn hfit hlen d (fun H1 locs1 hP1 _ hS1 => kk H1 locs1 ls (HP.set hg.1 hP1) hD hS1 hl)
theorem r_objI {idx a : Nat} (C : Cx M S cc nL own ret rm) (d : decode cc pc = .ok (.invokespecial idx, 3)) (ho : Cond.methodLink own idx objectInit ∈ Tg) (hf : 1 ≤ rm.frames) (hlo : (rest.map fun v => v.category).sum + 12 ≤ rm.locals) (kk : G M S E n g (pc + 3) vs rest) : G M S E n g pc vs (.ref a :: rest) := by
  obtain ⟨p, l, e, R, s, m, args, below, meth, c, A, Q⟩ := M
  obtain ⟨hx, hb, hml, hown, hts, hr, hlk, hK, hF, hA, hR⟩ := C
  intro H locs ls hP hD hS hl
  subst hR
  exact W.objInit hx hb hown (hts _ ho) (hts _ qI_obj) (hts _ qC_obj) (g := F0 m pc ls (.ref a :: rest)) rfl hl.1 rfl d hf (by show 2 * 0 + _ + 12 ≤ _; omega) (kk H locs ls hP hD hS hl)
/-- the heap's size is known -/
theorem sz_eq {p : Program} {l : Launch} {e : Env} {R : Room} {s : State} {m : MethodId} {args : Array Value} {below : List Frame} {meth : Method} {c : Code} {T : State} {locs : List Loc} {cells slots : Nat} {A : Nat → Prop} {H : Heap} (X : Stand p l e R s m args below meth c T locs cells slots) (hT : T.heap = H) (hz0 : s.heap.size = b + k0) (hk : k = k0 + cells) (hP : HP S (fun i => b + i, k) g H) (hS : va_S A s.heap H locs) : H.size = b + k := by
  have h1 := X.heapSize
  rw [hT, hz0] at h1
  have h2 := hS.1
  rw [hz0] at h2
  by_cases h0 : k = 0
  · omega
  · have h3 : b + (k - 1) < H.size := (hP (k - 1) (by show k - 1 < k; omega)).lt
    omega
theorem r_new {index ci N : Nat} {fs : List Value} (C : Cx M S cc nL own ret rm) (B : Bs M b k0) (hk : k = k0 + n.1) (d : decode cc pc = .ok (.new index, 3)) (w : NW own index ci N fs) (hc : n.1 + 1 ≤ rm.cells) (hs : n.2 + N ≤ rm.slots) (kk : G M S (fun i => b + i, k + 1) (n.1 + 1, n.2 + N) (va_up g k (.inr (ci, fs))) (pc + 3) vs (.ref (b + k) :: rest)) : G M S (fun i => b + i, k) n g pc vs (rest) := by
  obtain ⟨p, l, e, R, s, m, args, below, meth, c, A, Q⟩ := M
  obtain ⟨hx, hb, hml, hown, hts, hr, hlk, hK, hF, hA, hR⟩ := C
  obtain ⟨hz0, hAb⟩ := B
  intro H locs ls hP hD hS hl
  subst hR
  obtain ⟨Cn, T, ty, h1, h2, h3, h4, h5, h6, h7⟩ := w
  refine va_new (cc := cc) hx hb hts h2 ty h3 hown (hts _ h4) (hts _ h5) (hts _ h6) hK hP.P (hD.D g) hS hA h1 h7 hc hs d (fun q H1 hP1 hD1 hS1 => ?_)
  intro T1 hT1 X1
  have u1 := X1.heapSize
  rw [hT1, hz0] at u1
  have hq := nw_q hP1 hD1 hAb (by omega)
  subst hq
  rw [rwl_snoc (fun i => b + i)] at hP1
  exact kk H1 locs ls (HP.of hP1) (HD.bs hAb) hS1 hl T1 hT1 X1
theorem r_newI {N : Nat} {x : Int32} (C : Cx M S cc nL own ret rm) (B : Bs M b k0) (hk : k = k0 + n.1) (d : decode cc pc = .ok (.newarray .int, 2)) (hx' : x = nI N) (hN : N < 2 ^ 20) (hc : n.1 + 1 ≤ rm.cells) (hs : n.2 + N ≤ rm.slots) (kk : G M S (fun i => b + i, k + 1) (n.1 + 1, n.2 + N) (va_up g k (xI S N (fun _ => 0))) (pc + 2) vs (.ref (b + k) :: rest)) : G M S (fun i => b + i, k) n g pc vs (.int x :: rest) := by
  obtain ⟨p, l, e, R, s, m, args, below, meth, c, A, Q⟩ := M
  obtain ⟨hx, hb, hml, hown, hts, hr, hlk, hK, hF, hA, hR⟩ := C
  obtain ⟨hz0, hAb⟩ := B
  intro H locs ls hP hD hS hl
  subst hR hx'
  refine va_newa (atype := .int) (ty := .int) (a0 := (N, .inl (fun _ => 0))) hx hb (hts _ qY_int) rfl hK hP.P (hD.D g) hS hA (fun cA => rfl) (nI_pos (by omega)) (nI_clamp (by omega)) (by show N * 4 ≤ _; omega) hc hs d (fun q cA H1 hK1 hP1 hD1 hS1 => ?_)
  have e1 : s.vm.findClass _ = some cA := (hK1.2 6 _ rfl).2
  have e2 : s.vm.findClass _ = some (S.2 0) := (hK.2 0 _ rfl).2
  have e3 : cA = S.2 0 := Option.some.inj (e1.symm.trans e2)
  subst e3
  intro T1 hT1 X1
  have u1 := X1.heapSize
  rw [hT1, hz0] at u1
  have hq := nw_q hP1 hD1 hAb (by omega)
  subst hq
  rw [rwl_snoc (fun i => b + i)] at hP1
  exact kk H1 locs ls (HP.of hP1) (HD.bs hAb) hS1 hl T1 hT1 X1
theorem r_newJ {N : Nat} {x : Int32} (C : Cx M S cc nL own ret rm) (B : Bs M b k0) (hk : k = k0 + n.1) (d : decode cc pc = .ok (.newarray .long, 2)) (hx' : x = nI N) (hN : N < 2 ^ 20) (hc : n.1 + 1 ≤ rm.cells) (hs : n.2 + N ≤ rm.slots) (kk : G M S (fun i => b + i, k + 1) (n.1 + 1, n.2 + N) (va_up g k (xJ S N (fun _ => 0))) (pc + 2) vs (.ref (b + k) :: rest)) : G M S (fun i => b + i, k) n g pc vs (.int x :: rest) := by
  obtain ⟨p, l, e, R, s, m, args, below, meth, c, A, Q⟩ := M
  obtain ⟨hx, hb, hml, hown, hts, hr, hlk, hK, hF, hA, hR⟩ := C
  obtain ⟨hz0, hAb⟩ := B
  intro H locs ls hP hD hS hl
  subst hR hx'
  refine va_newa (atype := .long) (ty := .long) (a0 := (N, .inr (.inl (fun _ => 0)))) hx hb (hts _ qY_long) rfl hK hP.P (hD.D g) hS hA (fun cA => rfl) (nI_pos (by omega)) (nI_clamp (by omega)) (by show N * 8 ≤ _; omega) hc hs d (fun q cA H1 hK1 hP1 hD1 hS1 => ?_)
  have e1 : s.vm.findClass _ = some cA := (hK1.2 6 _ rfl).2
  have e2 : s.vm.findClass _ = some (S.2 1) := (hK.2 1 _ rfl).2
  have e3 : cA = S.2 1 := Option.some.inj (e1.symm.trans e2)
  subst e3
  intro T1 hT1 X1
  have u1 := X1.heapSize
  rw [hT1, hz0] at u1
  have hq := nw_q hP1 hD1 hAb (by omega)
  subst hq
  rw [rwl_snoc (fun i => b + i)] at hP1
  exact kk H1 locs ls (HP.of hP1) (HD.bs hAb) hS1 hl T1 hT1 X1
theorem r_newB {N : Nat} {x : Int32} (C : Cx M S cc nL own ret rm) (B : Bs M b k0) (hk : k = k0 + n.1) (d : decode cc pc = .ok (.newarray .byte, 2)) (hx' : x = nI N) (hN : N < 2 ^ 20) (hc : n.1 + 1 ≤ rm.cells) (hs : n.2 + N ≤ rm.slots) (kk : G M S (fun i => b + i, k + 1) (n.1 + 1, n.2 + N) (va_up g k (xB S N (fun _ => 0))) (pc + 2) vs (.ref (b + k) :: rest)) : G M S (fun i => b + i, k) n g pc vs (.int x :: rest) := by
  obtain ⟨p, l, e, R, s, m, args, below, meth, c, A, Q⟩ := M
  obtain ⟨hx, hb, hml, hown, hts, hr, hlk, hK, hF, hA, hR⟩ := C
  obtain ⟨hz0, hAb⟩ := B
  intro H locs ls hP hD hS hl
  subst hR hx'
  refine va_newa (atype := .byte) (ty := .byte) (a0 := (N, .inl (fun _ => 0))) hx hb (hts _ qY_byte) rfl hK hP.P (hD.D g) hS hA (fun cA => rfl) (nI_pos (by omega)) (nI_clamp (by omega)) (by show N * 1 ≤ _; omega) hc hs d (fun q cA H1 hK1 hP1 hD1 hS1 => ?_)
  have e1 : s.vm.findClass _ = some cA := (hK1.2 6 _ rfl).2
  have e2 : s.vm.findClass _ = some (S.2 2) := (hK.2 2 _ rfl).2
  have e3 : cA = S.2 2 := Option.some.inj (e1.symm.trans e2)
  subst e3
  intro T1 hT1 X1
  have u1 := X1.heapSize
  rw [hT1, hz0] at u1
  have hq := nw_q hP1 hD1 hAb (by omega)
  subst hq
  rw [rwl_snoc (fun i => b + i)] at hP1
  exact kk H1 locs ls (HP.of hP1) (HD.bs hAb) hS1 hl T1 hT1 X1
theorem r_newR {t N index : Nat} {x : Int32} {Cc : String} (C : Cx M S cc nL own ret rm) (B : Bs M b k0) (hk : k = k0 + n.1) (d : decode cc pc = .ok (.anewarray index, 3)) (hl0 : Cond.classLink own index Cc ∈ Tg) (ht : (t = 4 ∧ Cc = RX2) ∨ (t = 5 ∧ Cc = RX4)) (hx' : x = nI N) (hN : N < 2 ^ 20) (hc : n.1 + 1 ≤ rm.cells) (hs : n.2 + N ≤ rm.slots) (kk : G M S (fun i => b + i, k + 1) (n.1 + 1, n.2 + N) (va_up g k (xR S t N (fun _ => none))) (pc + 3) vs (.ref (b + k) :: rest)) : G M S (fun i => b + i, k) n g pc vs (.int x :: rest) := by
  obtain ⟨p, l, e, R, s, m, args, below, meth, c, A, Q⟩ := M
  obtain ⟨hx, hb, hml, hown, hts, hr, hlk, hK, hF, hA, hR⟩ := C
  obtain ⟨hz0, hAb⟩ := B
  intro H locs ls hP hD hS hl
  subst hR hx'
  have hov : va_AO Cc s := by
    rcases ht with ⟨_, rfl⟩ | ⟨_, rfl⟩
    · exact hF.1.1.2.1
    · exact hF.1.1.2.2.1
  refine va_newq hx hb hown (hts _ hl0) hov hK hP.P (hD.D g) hS hA (nI_pos (by omega)) (nI_clamp (by omega)) (by omega) hc hs d (fun q cA H1 hK1 hP1 hD1 hS1 => ?_)
  have e3 : cA = S.2 t := by
    obtain ⟨kA, comp, _, _, _, e1⟩ := (hK1.2 6 _ rfl).2
    rcases ht with ⟨rfl, rfl⟩ | ⟨rfl, rfl⟩
    · obtain ⟨kA2, comp2, _, _, _, e2⟩ := (hK.2 4 _ rfl).2
      exact Option.some.inj (e1.symm.trans e2)
    · obtain ⟨kA2, comp2, _, _, _, e2⟩ := (hK.2 5 _ rfl).2
      exact Option.some.inj (e1.symm.trans e2)
  subst e3
  intro T1 hT1 X1
  have u1 := X1.heapSize
  rw [hT1, hz0] at u1
  have hq := nw_q hP1 hD1 hAb (by omega)
  subst hq
  rw [rwl_snoc (fun i => b + i)] at hP1
  exact kk H1 locs ls (HP.of hP1) (HD.bs hAb) hS1 hl T1 hT1 X1
/-- an array of arrays of ints: its cell, then its rows -/
def mnG (S : ST) (b k N K : Nat) (g : Nat → va_E) : Nat → va_E := fun i => if i < k ∨ k + 1 + N ≤ i then g i else if i = k then xR S 3 N (fun j => some (b + (k + 1 + j))) else xI S K (fun _ => 0)
theorem r_mna {index N K : Nat} {x y : Int32} (C : Cx M S cc nL own ret rm) (B : Bs M b k0) (hk : k = k0 + n.1) (d : decode cc pc = .ok (.multianewarray index 2, 4)) (hl0 : Cond.classLink own index "[[I" ∈ Tg) (hx' : x = nI N) (hy' : y = nI K) (hN : N < 2 ^ 10) (hK' : K < 2 ^ 10) (hc : n.1 + (1 + N) ≤ rm.cells) (hs : n.2 + (N + N * K) ≤ rm.slots) (kk : ∀ g1 : Nat → va_E, Ce (fun i => b + i, k + 1 + N) g1 k (xR S 3 N (fun j => some (b + (k + 1 + j)))) → (∀ j : Nat, j < N → Ce (fun i => b + i, k + 1 + N) g1 (k + 1 + j) (xI S K (fun _ => 0))) → Fr g g1 k (k + 1 + N) → G M S (fun i => b + i, k + 1 + N) (n.1 + 1 + N, n.2 + N + N * K) g1 (pc + 4) vs (.ref (b + k) :: rest)) : G M S (fun i => b + i, k) n g pc vs (.int y :: .int x :: rest) := by
  obtain ⟨p, l, e, R, s, m, args, below, meth, c, A, Q⟩ := M
  obtain ⟨hx, hb, hml, hown, hts, hr, hlk, hK, hF, hA, hR⟩ := C
  obtain ⟨hz0, hAb⟩ := B
  intro H locs ls hP hD hS hl
  subst hR hx' hy'
  intro T hT X
  have hH := sz_eq X hT hz0 hk hP hS
  have c1 : (nI N).toNatClampNeg = N := nI_clamp (by omega)
  have c2 : (nI K).toNatClampNeg = K := nI_clamp (by omega)
  obtain ⟨vm₁, cA, comp, -, fA, fC, hO, -, X', step⟩ := X.multianewarray2F (ty := .int) hx hown (hts _ hl0) (va_AOA.use hF.1.1.1) (hts _ qY_int) (g := F0 m pc ls (.int (nI K) :: .int (nI N) :: rest)) rfl (by rw [hb]; exact d) rfl (nI_pos (by omega)) (nI_pos (by omega)) (by rw [c1]; omega) (by rw [c2]; show K * 4 ≤ _; omega) (by rw [c2]; omega) (by decide) (by decide) (by rw [c1]; exact hc) (by rw [c1, c2]; exact hs)
  rw [c1, c2] at X' step
  have e1 : s.vm.findClass _ = some (S.2 0) := (hK.2 0 _ rfl).2
  have e2 : comp = S.2 0 := Option.some.inj (fC.symm.trans e1)
  have e3 : s.vm.findClass _ = some (S.2 3) := (hK.2 3 _ rfl).2
  have e4 : cA = S.2 3 := Option.some.inj (fA.symm.trans e3)
  subst e2 e4
  generalize hFl : Jvm.Free.Multi.fill (T.setVm vm₁) (S.2 3) (S.2 0) N K (defaultValue .int) N = F at X' step
  have hTh : (T.setVm vm₁).heap = H := hT
  obtain ⟨f1, f2, -, -⟩ := Jvm.Free.Multi.fill_facts (T.setVm vm₁) (S.2 3) (S.2 0) N K (defaultValue .int) N
  rw [hFl, hTh] at f1 f2
  have hold : ∀ x : Nat, x < H.size → F.heap[x]? = H[x]? := fun x hx => by
    have := Jvm.Free.Multi.fill_old (T.setVm vm₁) (S.2 3) (S.2 0) N K (defaultValue .int) (a := x) (by rw [hTh]; exact hx) N
    rw [hFl, hTh] at this
    exact this
  have hrow : ∀ j : Nat, j < N → F.heap[H.size + 1 + j]? = some (vp_cell (S.2 0) (K, .inl (fun _ => 0))) := fun j hj => by
    have := Jvm.Free.Multi.fill_inner (T.setVm vm₁) (S.2 3) (S.2 0) N K (defaultValue .int) N j hj
    rw [hFl, hTh] at this
    rw [this]
    show some ({ cls := S.2 0, slots := Array.replicate K (Value.int 0), vm := .none } : Cell) = some (arrV (S.2 0) K (fun _ => .int 0))
    rw [arrV_new]
  have hout : Jvm.Free.Multi.outerC (S.2 3) N H.size N = vp_cell (S.2 3) (N, .inr (.inr (.inr (.inr (fun j => some (b + (k + 1 + j))))))) := by
    rw [vr_outer (S.2 3) N H.size N]
    exact arrV_cong (f := fun j => va_rf (if j < N then some (H.size + 1 + j) else none)) (f' := fun j => va_rf (some (b + (k + 1 + j)))) (fun j hj => by rw [if_pos hj, hH, show b + k + 1 + j = b + (k + 1 + j) by omega])
  rw [hout] at f2
  have hP1 : HP S (fun i => b + i, k + 1 + N) (mnG S b k N K g) F.heap := fun i hi => by
    have hi : i < k + 1 + N := hi
    by_cases h1 : i < k
    · rw [show mnG S b k N K g i = g i from if_pos (Or.inl h1)]
      exact (hP i h1).kept (hold _ ((hP i h1).lt))
    · by_cases h2 : i = k
      · subst h2
        rw [show mnG S b i N K g i = xR S 3 N (fun j => some (b + (i + 1 + j))) by unfold mnG; rw [if_neg (by omega), if_pos rfl]]
        show F.heap[b + i]? = _
        rw [← hH]
        exact f2
      · rw [show mnG S b k N K g i = xI S K (fun _ => 0) by unfold mnG; rw [if_neg (by omega), if_neg h2]]
        show F.heap[b + i]? = _
        have := hrow (i - (k + 1)) (by omega)
        rw [hH, show b + k + 1 + (i - (k + 1)) = b + i by omega] at this
        exact this
  have hS1 : va_S A s.heap F.heap locs := ⟨Nat.le_trans hS.1 (by rw [f1]; omega), fun x h1 h2 => (hold x (Nat.lt_of_lt_of_le h1 hS.1)).trans (hS.2.1 x h1 h2), hS.2.2⟩
  obtain ⟨t, a1, b1⟩ := kk (mnG S b k N K g) ⟨by show k < k + 1 + N; omega, by unfold mnG; rw [if_neg (by omega), if_pos rfl]⟩ (fun j hj => ⟨by show k + 1 + j < k + 1 + N; omega, by unfold mnG; rw [if_neg (by omega), if_neg (by omega)]⟩) (fun q hq => if_pos hq) F.heap locs ls hP1 (HD.bs hAb) hS1 hl F rfl X'
  refine ⟨t, step t ?_, b1⟩
  rw [hT, hH]
  exact a1
theorem r_callI {y : MethodName} {bytes : ByteArray} {maxL idx ms' i k1 : Nat} {rm' : Room} {post' : (Nat → va_E) → Prop} (C : Cx M S cc nL own ret rm) (B : Bs M b k0) (hk : k = k0 + n.1) (d : decode cc pc = .ok (.invokespecial idx, 3)) (hl0 : Cond.methodLink own idx y ∈ Tg) (hi0 : Cond.instanceMethod y ∈ Tg) (hn0 : Cond.initialized y.cls ∈ Tg) (hc0 : Cond.code y bytes maxL none ∈ Tg) (hnm : y.name = "<init>") (h6 : y.cls ≠ "java/lang/invoke/MethodHandle" ∧ y.cls ≠ "java/lang/invoke/VarHandle" ∧ (parseMethodDescriptor y.desc).map (fun d => d.parameters.length) = some 0) (hM : Cn S b k k1 y bytes maxL rm' [.ref (b + i)] g ms' post') (hR' : rmC rm' (k1 - k) ms' maxL rm) (hw : (rest.map fun v => v.category).sum ≤ 8) (hn : n.1 + (k1 - k) ≤ rm.cells ∧ n.2 + ms' ≤ rm.slots)
    (kk : ∀ g1 : Nat → va_E, post' g1 → G M S (fun i => b + i, k1) (n.1 + (k1 - k), n.2 + ms') g1 (pc + 3) vs rest) : G M S (fun i => b + i, k) n g pc vs (.ref (b + i) :: rest) := by
  obtain ⟨p, l, e, R, s, m, args, below, meth, c, A, Q⟩ := M
  obtain ⟨hx, hb, hml, hown, hts, hr, hlk, hK, hF, hA, hR⟩ := C
  obtain ⟨hz0, hAb⟩ := B
  intro H locs ls hP hD hS hl
  subst hR
  intro T hT X
  have hH := sz_eq X hT hz0 hk hP hS
  have hf : ∀ q, Af (fun i => b + i, k) (b + k) q → A q := fun q h => by
    refine (hAb q).mpr ?_
    rcases h with ⟨i, hi, rfl⟩ | h
    · show b ≤ b + i; omega
    · omega
  have hAf : ∀ q, Af (fun i => b + i, k) H.size q → A q := fun q h => hf q (by rw [hH] at h; exact h)
  have hrun := va_runI (e := e) (meth := meth) (below := below) (As := []) (rest := rest) (locs := locs) (cells := n.1) (slots := n.2) (H := H) (g := F0 m pc ls (.ref (b + i) :: rest)) (b := b + i) ⟨hx, hb, rfl, hown, hts⟩ (hM l) ⟨callB_of 0 hts (gdI hc0) rfl hR'.1 hR'.2.1 (hts _ hn0) (hts _ hl0) h6 ⟨hR'.2.2.1, hR'.2.2.2⟩, hnm, hts _ hi0⟩ ⟨Cx.blind, fun U hU hW => ⟨rfl, by rw [hU]; exact hH, by rw [hU]; exact hP, ⟨hD.1, fun _ _ => trivial⟩, va_K.moved hW.alike hK, by have h9 := FX.call hW hU hS hAf hF; rw [hH] at h9; exact h9⟩⟩ rfl rfl hl.1 rfl (lv_room (m := m) (pc := pc) (ls := ls) (rest := .ref (b + i) :: rest) hw) d hn
  obtain ⟨v, st₀, t, T', L, h0, X', hL, e1, e2, ⟨⟨g1, hv, hp, hP'⟩, hz, hk9⟩, stp⟩ := hrun T hT X
  cases hv
  rw [h0] at hz hk9
  obtain ⟨t2, a1, b1⟩ := kk g1 hp T'.heap (locs ++ L) ls (by rw [e1]; exact hP') (HD.bs hAb)
    ⟨Nat.le_trans hS.1 (by rw [e1]; exact hz), fun q h1 h2 => by rw [e1, hk9 q (Nat.lt_of_lt_of_le h1 hS.1) (fun z => h2 (hf q z))]; exact hS.2.1 q h1 h2, fun q hq => by
      rcases List.mem_append.mp hq with h | h
      · exact hS.2.2 q h
      · exact hf _ (hL q h)⟩ hl T' rfl X'
  exact ⟨t2, stp t2 a1, b1⟩
theorem r_callIN {y : MethodName} {bytes : ByteArray} {maxL idx ms' i k1 : Nat} {rm' : Room} {post' : (Nat → va_E) → Prop} (C : Cx M S cc nL own ret rm) (B : Bs M b k0) (hk : k = k0 + n.1) (d : decode cc pc = .ok (.invokespecial idx, 3)) (hl0 : (own, idx, y, RX7) ∈ nests) (hi0 : Cond.instanceMethod y ∈ Tg) (hn0 : Cond.initialized y.cls ∈ Tg) (hc0 : Cond.code y bytes maxL none ∈ Tg) (hnm : y.name = "<init>") (h6 : y.cls ≠ "java/lang/invoke/MethodHandle" ∧ y.cls ≠ "java/lang/invoke/VarHandle" ∧ (parseMethodDescriptor y.desc).map (fun d => d.parameters.length) = some 0) (hM : Cn S b k k1 y bytes maxL rm' [.ref (b + i)] g ms' post') (hR' : rmC rm' (k1 - k) ms' maxL rm) (hw : (rest.map fun v => v.category).sum ≤ 8) (hn : n.1 + (k1 - k) ≤ rm.cells ∧ n.2 + ms' ≤ rm.slots)
    (kk : ∀ g1 : Nat → va_E, post' g1 → G M S (fun i => b + i, k1) (n.1 + (k1 - k), n.2 + ms') g1 (pc + 3) vs rest) : G M S (fun i => b + i, k) n g pc vs (.ref (b + i) :: rest) := by
  obtain ⟨p, l, e, R, s, m, args, below, meth, c, A, Q⟩ := M
  obtain ⟨hx, hb, hml, hown, hts, hr, hlk, hK, hF, hA, hR⟩ := C
  obtain ⟨hz0, hAb⟩ := B
  intro H locs ls hP hD hS hl
  subst hR
  intro T hT X
  have hH := sz_eq X hT hz0 hk hP hS
  have hf : ∀ q, Af (fun i => b + i, k) (b + k) q → A q := fun q h => by
    refine (hAb q).mpr ?_
    rcases h with ⟨i, hi, rfl⟩ | h
    · show b ≤ b + i; omega
    · omega
  have hAf : ∀ q, Af (fun i => b + i, k) H.size q → A q := fun q h => hf q (by rw [hH] at h; exact h)
  have hrun := va_runIN (e := e) (meth := meth) (below := below) (As := []) (rest := rest) (locs := locs) (cells := n.1) (slots := n.2) (H := H) (g := F0 m pc ls (.ref (b + i) :: rest)) (b := b + i) ⟨hx, hb, rfl, hown, hts⟩ (hM l) ⟨va_cnB 0 hts (gdI hc0) rfl hR'.1 hR'.2.1 (hF.1.1.2.2.2 _ hl0) (hts _ hn0) h6 ⟨hR'.2.2.1, hR'.2.2.2⟩, hnm, hts _ hi0⟩ ⟨Cx.blind, fun U hU hW => ⟨rfl, by rw [hU]; exact hH, by rw [hU]; exact hP, ⟨hD.1, fun _ _ => trivial⟩, va_K.moved hW.alike hK, by have h9 := FX.call hW hU hS hAf hF; rw [hH] at h9; exact h9⟩⟩ rfl rfl hl.1 rfl (lv_room (m := m) (pc := pc) (ls := ls) (rest := .ref (b + i) :: rest) hw) d hn
  obtain ⟨v, st₀, t, T', L, h0, X', hL, e1, e2, ⟨⟨g1, hv, hp, hP'⟩, hz, hk9⟩, stp⟩ := hrun T hT X
  cases hv
  rw [h0] at hz hk9
  obtain ⟨t2, a1, b1⟩ := kk g1 hp T'.heap (locs ++ L) ls (by rw [e1]; exact hP') (HD.bs hAb)
    ⟨Nat.le_trans hS.1 (by rw [e1]; exact hz), fun q h1 h2 => by rw [e1, hk9 q (Nat.lt_of_lt_of_le h1 hS.1) (fun z => h2 (hf q z))]; exact hS.2.1 q h1 h2, fun q hq => by
      rcases List.mem_append.mp hq with h | h
      · exact hS.2.2 q h
      · exact hf _ (hL q h)⟩ hl T' rfl X'
  exact ⟨t2, stp t2 a1, b1⟩
end GN
