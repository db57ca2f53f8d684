/-! THE LAYER OF ROLES: the world is a row of cells, role i at address E.1 i, holding g i; every method's contract speaks of the whole row and of which roles change. -/
abbrev MT : Type := Program × Launch × Env × Room × State × MethodId × Array Value × List Frame × Method × Code × (Nat → Prop) × (State → Prop)
abbrev ST : Type := va_G × (Nat → ClassId)
abbrev ET : Type := (Nat → Nat) × Nat
def tyl (S : ST) : List (ClassId × FieldType) := [(S.2 0, .int), (S.2 1, .long), (S.2 2, .byte), (S.2 3, .array .int), (S.2 4, .object RX2), (S.2 5, .object RX4)]
def HP (S : ST) (E : ET) (g : Nat → va_E) (H : Heap) : Prop := ∀ i : Nat, i < E.2 → va_at S.1 vwCl (E.1 i, g i) H
def HD (A : Nat → Prop) (E : ET) : Prop := (∀ i j : Nat, i < E.2 → j < E.2 → E.1 i = E.1 j → i = j) ∧ ∀ i : Nat, i < E.2 → A (E.1 i)
def rwl (E : ET) (g : Nat → va_E) : va_W := (List.range E.2).map (fun i => (E.1 i, g i))
theorem rwl_at {E : ET} {g : Nat → va_E} {i : Nat} (h : i < E.2) : (rwl E g)[i]? = some (E.1 i, g i) := by
  unfold rwl
  rw [List.getElem?_map, List.getElem?_range h]
  rfl
theorem rwl_of {E : ET} {g : Nat → va_E} {k : Nat} {q : Nat × va_E} (h : (rwl E g)[k]? = some q) : k < E.2 ∧ q = (E.1 k, g k) := by
  have hl : k < E.2 := by
    have h1 := (List.getElem?_eq_some_iff.mp h).1
    unfold rwl at h1
    rwa [List.length_map, List.length_range] at h1
  rw [rwl_at hl] at h
  exact ⟨hl, (Option.some.inj h).symm⟩
theorem HP.P {S : ST} {E : ET} {g : Nat → va_E} {H : Heap} (h : HP S E g H) : va_P S.1 vwCl (rwl E g) H := fun k q hk => by
  obtain ⟨h1, rfl⟩ := rwl_of hk
  exact h k h1
theorem HP.of {S : ST} {E : ET} {g : Nat → va_E} {H : Heap} (h : va_P S.1 vwCl (rwl E g) H) : HP S E g H := fun i hi => h i _ (rwl_at hi)
theorem HD.D {A : Nat → Prop} {E : ET} (g : Nat → va_E) (h : HD A E) : va_D A (rwl E g) := by
  refine ⟨fun i j p q hi hj e => ?_, fun k q hk => ?_⟩
  · obtain ⟨h1, rfl⟩ := rwl_of hi
    obtain ⟨h2, rfl⟩ := rwl_of hj
    exact h.1 i j h1 h2 e
  · obtain ⟨h1, rfl⟩ := rwl_of hk
    exact h.2 k h1
theorem rwl_set {E : ET} {g : Nat → va_E} {i : Nat} {e : va_E} (h : i < E.2) : (rwl E g).set i (E.1 i, e) = rwl E (va_up g i e) := by
  apply List.ext_getElem?
  intro j
  by_cases hj : j < E.2
  · rw [rwl_at hj]
    by_cases e1 : j = i
    · subst e1
      rw [List.getElem?_set_self (by unfold rwl; rw [List.length_map, List.length_range]; exact hj), va_up_self]
    · rw [List.getElem?_set_ne (Ne.symm e1), rwl_at hj, va_up_ne _ _ e1]
  · rw [List.getElem?_eq_none (by unfold rwl; rw [List.length_set, List.length_map, List.length_range]; omega), List.getElem?_eq_none (by unfold rwl; rw [List.length_map, List.length_range]; omega)]
theorem HP.set {S : ST} {E : ET} {g : Nat → va_E} {i : Nat} {e : va_E} {H : Heap} (hi : i < E.2) (h : va_P S.1 vwCl ((rwl E g).set i (E.1 i, e)) H) : HP S E (va_up g i e) H := by
  rw [rwl_set hi] at h
  exact HP.of h
/-- a role's cell -/
def Ce (E : ET) (g : Nat → va_E) (i : Nat) (e : va_E) : Prop := i < E.2 ∧ g i = e
theorem Ce.at {E : ET} {g : Nat → va_E} {i : Nat} {e : va_E} (h : Ce E g i e) : (rwl E g)[i]? = some (E.1 i, e) := by rw [rwl_at h.1, h.2]
theorem Ce.up {E : ET} {g : Nat → va_E} {i j : Nat} {e e' : va_E} (h : Ce E g i e) (hn : i ≠ j) : Ce E (va_up g j e') i e := ⟨h.1, by rw [va_up_ne _ _ hn]; exact h.2⟩
theorem Ce.new {E : ET} {g : Nat → va_E} {i : Nat} {e e' : va_E} (h : Ce E g i e) : Ce E (va_up g i e') i e' := ⟨h.1, va_up_self _ _ _⟩
def xI (S : ST) (n : Nat) (f : Nat → Int32) : va_E := .inl (S.2 0, n, .inl f)
def xJ (S : ST) (n : Nat) (f : Nat → Int64) : va_E := .inl (S.2 1, n, .inr (.inl f))
def xB (S : ST) (n : Nat) (f : Nat → Int32) : va_E := .inl (S.2 2, n, .inl f)
def xR (S : ST) (t n : Nat) (f : Nat → Option Nat) : va_E := .inl (S.2 t, n, .inr (.inr (.inr (.inr f))))
/-! facts of the tables that aren't words -/
def nests : List (String × Nat × MethodName × String) := [(RX5, 22, yX2_init, RX7), (RX7, 27, yX2_init, RX7), (RX7, 34, yX6_init, RX7), (RX7, 48, yX3_init, RX7), (RX7, 55, yX0_init, RX7), (RX7, 62, yX1_init, RX7), (RX7, 73, yX4_init, RX7), (RX2, 23, yX7_copyRow, RX7), (RX2, 69, yX7_stepPower, RX7), (RX5, 37, yX7_copyRow, RX7)]
def SF0 (U : State) : Prop := va_AOA .int U ∧ va_AO RX2 U ∧ va_AO RX4 U ∧ ∀ q ∈ nests, va_Nw (.methodLinkNest q.1 q.2.1 q.2.2.1 q.2.2.2) U
/-- the words of filterPartitions: places in the pool, lengths, bytes; S.2 (10 + i) is the i-th text's cell, S.2 (20 + i) its bytes' -/
def strK : List Nat := [354, 360, 362, 364, 366, 368]
def strT : List String := ["distinct", "odd", "gap", "noones", "even", "selfconjugate"]
def strL : List Nat := [8, 3, 3, 6, 4, 13]
def strB : List (List Int32) := [[100, 105, 115, 116, 105, 110, 99, 116], [111, 100, 100], [103, 97, 112], [110, 111, 111, 110, 101, 115], [101, 118, 101, 110], [115, 101, 108, 102, 99, 111, 110, 106, 117, 103, 97, 116, 101]]
def SF (S : ST) (U : State) : Prop := SF0 U ∧ ∀ i : Nat, i < 6 → vk_R RX7 (strK.getD i 0) (strT.getD i "") (S.2 (10 + i)) U
def XF (S : ST) (A : Nat → Prop) (U : State) (H : Heap) : Prop := vk_S 6 strL strB (fun i => S.2 (10 + i)) (fun i => S.2 (20 + i)) A U H ∧ va_Z "java/lang/String" "COMPACT_STRINGS" "Z" (.int 1) A U H ∧ va_Zq "jdk/internal/util/Preconditions" "SIOOBE_FORMATTER" "Ljava/util/function/BiFunction;" A U H
def FX (S : ST) (A : Nat → Prop) (U : State) (H : Heap) : Prop := SF S U ∧ XF S A U H
theorem aoA_spec {args : Array Value} {first s : State} {o : Option Outcome} {idx : List Nat} {t : FieldType} (h : (Cond.arrayOver (.array t)).holds args first o s idx = true) :
    ∃ comp c k, s.vm.findClass (FieldType.array t).toString = some comp ∧ (s.vm.classes.findIdx? fun x => match x.kind with | .array component _ => component == comp | _ => false) = some c ∧ s.vm.classes[c]? = some k ∧ k.kind = .array comp (.array t) ∧
      s.vm.findClass ("[" ++ (FieldType.array t).toString) = some c := by
  simp only [Cond.holds, Cond.value, beq_iff_eq] at h
  cases hc : s.vm.findClass (FieldType.array t).toString with
  | none => simp [hc] at h
  | some comp =>
    simp only [hc, Option.bind_some, Option.bind_eq_some_iff, Option.map_eq_some_iff] at h
    obtain ⟨c, hi, k, hk, hb⟩ := h
    obtain ⟨hlt, hp, -⟩ := Array.findIdx?_eq_some_iff_getElem.mp hi
    have hkk : s.vm.classes[c] = k := (Array.getElem?_eq_some_iff.mp hk).2
    rw [hkk] at hp
    cases hkind : k.kind with
    | array component ty =>
      rw [hkind] at hb hp
      simp at hb hp
      exact ⟨comp, c, k, rfl, hi, hk, by rw [hkind, hp, hb.1], hb.2⟩
    | _ => rw [hkind] at hb; simp at hb
theorem aoA_moved {t : FieldType} {u U : State} (hvm : u.vm.Alike U.vm) (h : va_AOA t u) : va_AOA t U := by
  obtain ⟨comp, c, k, h1, h2, h3, h4, h5⟩ := aoA_spec h
  obtain ⟨k', hk', he⟩ := hvm.2.2 _ _ h3
  have hi : (U.vm.classes.findIdx? fun (x : Class) => match x.kind with | .array component _ => component == comp | _ => false) = some c := by
    have hb : u.vm.bare = U.vm.bare := by first | exact hvm.bare_eq | exact hvm.bare_eq.symm
    have e := va_idx_bare U.vm comp
    rw [← hb] at e
    exact e.symm.trans ((va_idx_bare u.vm comp).trans h2)
  have hkind : k'.kind = .array comp (.array t) := by rw [he]; exact h4
  have f1 : U.vm.findClass (FieldType.array t).toString = some comp := by rw [hvm.findClass]; exact h1
  have f2 : U.vm.findClass ("[" ++ (FieldType.array t).toString) = some c := by rw [hvm.findClass]; exact h5
  unfold va_AOA Cond.before Cond.holds
  simp only [Cond.value]
  rw [f1, Option.bind_some]
  refine (congrArg (fun o : Option Nat => (o.bind (fun c => (U.vm.classes[c]?).map fun (k : Class) => match k.kind with | .array _ ty => decide (ty = FieldType.array t) && decide (U.vm.findClass ("[" ++ (FieldType.array t).toString) = some c) | _ => false) == some true)) hi).trans ?_
  simp [hk', hkind, f2]
theorem SF0.warm {s U : State} (hW : s.WarmedH U.vm) (h : SF0 s) : SF0 U := ⟨aoA_moved hW.alike h.1, va_AO.moved hW.alike h.2.1, va_AO.moved hW.alike h.2.2.1, fun q hq => va_Nw.warmM hW (h.2.2.2 q hq)⟩
theorem SF0.same {u U : State} (hv : u.vm = U.vm) (h : SF0 u) : SF0 U := ⟨aoA_moved (hv ▸ Vm.Alike.refl u.vm) h.1, va_AO.moved (hv ▸ Vm.Alike.refl u.vm) h.2.1, va_AO.moved (hv ▸ Vm.Alike.refl u.vm) h.2.2.1, fun q hq => va_Nw.same rfl hv (h.2.2.2 q hq)⟩
theorem SF.warm {S : ST} {s U : State} (hW : s.WarmedH U.vm) (h : SF S s) : SF S U := ⟨SF0.warm hW h.1, fun i hi => vk_R.warm hW (h.2 i hi)⟩
theorem SF.same {S : ST} {u U : State} (hv : u.vm = U.vm) (h : SF S u) : SF S U := ⟨SF0.same hv h.1, fun i hi => vk_R.same hv.symm (h.2 i hi)⟩
theorem FX.call {S : ST} {A B : Nat → Prop} {s U : State} {H : Heap} {locs : List Loc} (hW : s.WarmedH U.vm) (hU : U.heap = H) (hS : va_S A s.heap H locs) (hAB : ∀ q, B q → A q) (h : FX S A s s.heap) : FX S B U U.heap := by
  rw [hU]
  exact ⟨SF.warm hW h.1, ((h.2.1.kept hS.2.1).moved hW.alike).narrow hAB, ((h.2.2.1.kept hS.2.1).moved hW.alike).narrow hAB, ((h.2.2.2.kept hS.2.1).moved hW.alike).narrow hAB⟩
theorem FX.same {S : ST} {A : Nat → Prop} {u U : State} (hv : u.vm = U.vm) (hh : u.heap = U.heap) (h : FX S A u u.heap) : FX S A U U.heap := by
  rw [← hh]
  exact ⟨SF.same hv h.1, vk_S.moved (hv ▸ Vm.Alike.refl u.vm) h.2.1, va_Z.moved (hv ▸ Vm.Alike.refl u.vm) h.2.2.1, va_Zq.moved (hv ▸ Vm.Alike.refl u.vm) h.2.2.2⟩
/-! locals as a list of slots -/
def isL : Value → Bool
  | .long _ => true
  | .double _ => true
  | _ => false
theorem isL_cat (v : Value) : isL v = (v.category == 2) := by cases v <;> rfl
def lh (ls : Array Slot) (nL : Nat) (vs : List (Option Value)) : Prop := ls.size = nL ∧ lv_wf ls ∧ ∀ (i : Nat) (v : Value), vs[i]? = some (some v) → ls[i]? = some (.val v)
def vl : Nat → List (Option Value) → List (Nat × Value)
  | _, [] => []
  | k, none :: t => vl (k + 1) t
  | k, some v :: t => (k, v) :: vl (k + 1) t
theorem vl_mem : ∀ (vs : List (Option Value)) (k : Nat) (q : Nat × Value), q ∈ vl k vs ↔ k ≤ q.1 ∧ vs[q.1 - k]? = some (some q.2)
  | [], k, q => by simp [vl]
  | none :: t, k, q => by
    rw [vl, vl_mem t (k + 1) q]
    constructor
    · rintro ⟨h1, h2⟩
      refine ⟨by omega, ?_⟩
      rw [show q.1 - k = (q.1 - (k + 1)) + 1 by omega, List.getElem?_cons_succ]
      exact h2
    · rintro ⟨h1, h2⟩
      by_cases e : q.1 = k
      · rw [e, Nat.sub_self, List.getElem?_cons_zero] at h2
        cases h2
      · refine ⟨by omega, ?_⟩
        rw [show q.1 - k = (q.1 - (k + 1)) + 1 by omega, List.getElem?_cons_succ] at h2
        exact h2
  | some v :: t, k, q => by
    rw [vl, List.mem_cons, vl_mem t (k + 1) q]
    constructor
    · rintro (h | ⟨h1, h2⟩)
      · subst h
        exact ⟨Nat.le_refl _, by rw [Nat.sub_self]; rfl⟩
      · refine ⟨by omega, ?_⟩
        rw [show q.1 - k = (q.1 - (k + 1)) + 1 by omega, List.getElem?_cons_succ]
        exact h2
    · rintro ⟨h1, h2⟩
      by_cases e : q.1 = k
      · left
        rw [e, Nat.sub_self, List.getElem?_cons_zero] at h2
        obtain ⟨a, b⟩ := q
        cases h2
        cases e
        rfl
      · right
        refine ⟨by omega, ?_⟩
        rw [show q.1 - k = (q.1 - (k + 1)) + 1 by omega, List.getElem?_cons_succ] at h2
        exact h2
theorem lh.has {ls : Array Slot} {nL : Nat} {vs : List (Option Value)} (h : lh ls nL vs) : lv_has ls nL (vl 0 vs) := ⟨h.1, h.2.1, fun q hq => h.2.2 _ _ ((vl_mem vs 0 q).mp hq).2⟩
def kl (vs : List (Option Value)) : Nat → List (Option Value)
  | 0 => vs
  | k + 1 => match vs[k]? with
    | some (some w) => bif isL w then vs.set k none else vs
    | _ => vs
def sv1 (vs : List (Option Value)) (i : Nat) (v : Value) : List (Option Value) := (kl vs i).set i (some v)
def sv2 (vs : List (Option Value)) (i : Nat) (v : Value) : List (Option Value) := ((kl vs i).set (i + 1) none).set i (some v)
theorem kl_get {vs : List (Option Value)} {i j : Nat} {w : Value} (h : (kl vs i)[j]? = some (some w)) : vs[j]? = some (some w) ∧ ¬ (j + 1 = i ∧ isL w = true) := by
  cases i with
  | zero => exact ⟨h, by omega⟩
  | succ k =>
    have key : (∃ u, vs[k]? = some (some u) ∧ isL u = true ∧ kl vs (k + 1) = vs.set k none) ∨ ((∀ u, vs[k]? = some (some u) → isL u = false) ∧ kl vs (k + 1) = vs) := by
      cases hv : vs[k]? with
      | none => exact Or.inr ⟨fun u hu => (by cases hu), (by rw [kl, hv])⟩
      | some o =>
        cases o with
        | none => exact Or.inr ⟨fun u hu => (by cases hu), (by rw [kl, hv])⟩
        | some u =>
          cases hu : isL u with
          | true => exact Or.inl ⟨u, rfl, hu, (by rw [kl, hv]; simp [hu])⟩
          | false => exact Or.inr ⟨fun u' hu' => (by cases hu'; exact hu), (by rw [kl, hv]; simp [hu])⟩
    rcases key with ⟨u, h1, h2, h3⟩ | ⟨h1, h2⟩
    · rw [h3] at h
      have hl := (List.getElem?_eq_some_iff.mp h1).1
      by_cases e : j = k
      · subst e
        rw [List.getElem?_set_self hl] at h
        cases h
      · rw [List.getElem?_set_ne (Ne.symm e)] at h
        exact ⟨h, by omega⟩
    · rw [h2] at h
      refine ⟨h, fun ⟨e1, e2⟩ => ?_⟩
      have e : j = k := by omega
      subst e
      rw [h1 w h] at e2
      cases e2
theorem lh.st1 {ls ls' : Array Slot} {nL : Nat} {vs : List (Option Value)} {i : Nat} {v : Value} (h' : lv_has ls' nL ((i, v) :: (vl 0 vs).filter (fun q => !(q.1 == i) && !(q.1 + 1 == i && q.2.category == 2)))) : lh ls' nL (sv1 vs i v) := by
  refine ⟨h'.1, h'.2.1, fun j w hj => ?_⟩
  apply h'.2.2 (j, w)
  unfold sv1 at hj
  by_cases e : j = i
  · subst e
    have hl := (List.getElem?_eq_some_iff.mp hj).1
    rw [List.length_set] at hl
    rw [List.getElem?_set_self hl] at hj
    cases hj
    exact List.mem_cons_self
  · rw [List.getElem?_set_ne (Ne.symm e)] at hj
    obtain ⟨h1, h2⟩ := kl_get hj
    refine List.mem_cons_of_mem _ (List.mem_filter.mpr ⟨(vl_mem vs 0 (j, w)).mpr ⟨Nat.zero_le _, h1⟩, ?_⟩)
    rw [isL_cat] at h2
    by_cases e2 : j + 1 = i
    · have : (w.category == 2) = false := by
        cases hc : (w.category == 2) with
        | true => exact absurd ⟨e2, hc⟩ h2
        | false => rfl
      simp [e, this]
    · simp [e, e2]
theorem lh.st2 {ls ls' : Array Slot} {nL : Nat} {vs : List (Option Value)} {i : Nat} {v : Value} (h' : lv_has ls' nL ((i, v) :: (vl 0 vs).filter (fun q => !(q.1 == i) && (!(q.1 == i + 1) && !(q.1 + 1 == i && q.2.category == 2))))) : lh ls' nL (sv2 vs i v) := by
  refine ⟨h'.1, h'.2.1, fun j w hj => ?_⟩
  apply h'.2.2 (j, w)
  unfold sv2 at hj
  by_cases e : j = i
  · subst e
    have hl := (List.getElem?_eq_some_iff.mp hj).1
    rw [List.length_set] at hl
    rw [List.getElem?_set_self hl] at hj
    cases hj
    exact List.mem_cons_self
  · rw [List.getElem?_set_ne (Ne.symm e)] at hj
    by_cases e3 : j = i + 1
    · subst e3
      have hl := (List.getElem?_eq_some_iff.mp hj).1
      rw [List.length_set] at hl
      rw [List.getElem?_set_self hl] at hj
      cases hj
    · rw [List.getElem?_set_ne (Ne.symm e3)] at hj
      obtain ⟨h1, h2⟩ := kl_get hj
      refine List.mem_cons_of_mem _ (List.mem_filter.mpr ⟨(vl_mem vs 0 (j, w)).mpr ⟨Nat.zero_le _, h1⟩, ?_⟩)
      rw [isL_cat] at h2
      by_cases e2 : j + 1 = i
      · have : (w.category == 2) = false := by
          cases hc : (w.category == 2) with
          | true => exact absurd ⟨e2, hc⟩ h2
          | false => rfl
        simp [e, e3, this]
      · simp [e, e2, e3]
/-- the locals that a method begins with -/
def entA : List Value → List (Option Value)
  | [] => []
  | v :: t => bif isL v then some v :: none :: entA t else some v :: entA t
def ent (n : Nat) (av : List Value) : List (Option Value) := entA av ++ List.replicate (n - (entA av).length) none
theorem entA_mem : ∀ (av : List Value) (k i : Nat) (v : Value), (entA av)[i]? = some (some v) → (k + i, v) ∈ lv_args k av
  | [], k, i, v, h => by simp [entA] at h
  | a :: t, k, i, v, h => by
    unfold entA at h
    unfold lv_args
    cases hL : isL a with
    | true =>
      rw [hL] at h
      simp only [cond_true] at h
      have hc : a.category = 2 := by rw [isL_cat] at hL; simpa using hL
      rw [if_pos hc]
      match i, h with
      | 0, h => cases h; exact List.mem_cons_self
      | 1, h => cases h
      | i + 2, h =>
        have := entA_mem t (k + 2) i v h
        rw [show k + (i + 2) = k + 2 + i by omega]
        exact List.mem_cons_of_mem _ this
    | false =>
      rw [hL] at h
      simp only [cond_false] at h
      have hc : ¬ a.category = 2 := by rw [isL_cat] at hL; simpa using hL
      rw [if_neg hc]
      match i, h with
      | 0, h => cases h; exact List.mem_cons_self
      | i + 1, h =>
        have := entA_mem t (k + 1) i v h
        rw [show k + (i + 1) = k + 1 + i by omega]
        exact List.mem_cons_of_mem _ this
theorem ent_lh {av : List Value} {n : Nat} (h : (lg_sl av).length ≤ n) : lh ((lg_sl av ++ List.replicate (n - (lg_sl av).length) Slot.unset).toArray) n (ent n av) := by
  have h1 := lv_entry av h
  refine ⟨h1.1, h1.2.1, fun i v hv => h1.2.2 (i, v) ?_⟩
  unfold ent at hv
  by_cases hl : i < (entA av).length
  · rw [List.getElem?_append_left hl] at hv
    have := entA_mem av 0 i v hv
    rwa [Nat.zero_add] at this
  · rw [List.getElem?_append_right (by omega), List.getElem?_replicate] at hv
    split at hv <;> cases hv
