/-! ===== BEGIN words of one list among another's, by their places ===== -/
theorem goodIn_r {big : List Cond} (ws : List Cond) (ps : List Nat) (hp : ws = ps.filterMap (fun i => big[i]?)) (h : ws.all goodWord = true) : GoodIn big ws := by
  intro w hw
  have h1 := List.all_eq_true.mp h w hw
  rw [hp] at hw
  obtain ⟨i, -, hi⟩ := List.mem_filterMap.mp hw
  have hm : w ∈ big := by first | exact List.mem_of_getElem? hi | exact List.getElem?_mem hi
  exact ⟨hm, good_of_word h1⟩
theorem goodIn_app {big a b : List Cond} (ha : GoodIn big a) (hb : GoodIn big b) : GoodIn big (a ++ b) := fun w h => (List.mem_append.mp h).elim (ha w) (hb w)
theorem goodIn_ca {big a b : List Cond} {c : Cond} (ha : GoodIn big (c :: a)) (hb : GoodIn big b) : GoodIn big (c :: (a ++ b)) := fun w h => (List.mem_cons.mp h).elim (fun e => ha w (List.mem_cons.mpr (Or.inl e))) (fun h => (List.mem_append.mp h).elim (fun h => ha w (List.mem_cons.mpr (Or.inr h))) (hb w))
theorem goodIn_sub {big ws : List Cond} (hm : ∀ w ∈ ws, w ∈ big) (h : ws.all goodWord = true) : GoodIn big ws := fun w hw => ⟨hm w hw, good_of_word (List.all_eq_true.mp h w hw)⟩
/-! ===== END ===== -/

/-! ===== BEGIN new T[n][m]: the outer array a place, the inner ones among the pooled ===== -/
/-- f, but v at every address of l -/
def vr_up {α : Type} (f : Nat → α) (l : List Nat) (v : α) : Nat → α := fun a => if a ∈ l then v else f a
theorem vr_up_in {α : Type} {f : Nat → α} {l : List Nat} {v : α} {a : Nat} (h : a ∈ l) : vr_up f l v a = v := if_pos h
theorem vr_up_ne {α : Type} {f : Nat → α} {l : List Nat} {v : α} {a : Nat} (h : a ∉ l) : vr_up f l v a = f a := if_neg h
theorem vr_rows {L l : List Nat} {f : Nat → va_E} {e : va_E} (h : ∀ a, a ∈ l → a ∉ L) : va_pl L f ++ l.map (fun a => (a, e)) = va_pl (L ++ l) (vr_up f l e) := by
  unfold va_pl
  rw [List.map_append]
  congr 1
  · apply List.map_congr_left
    intro a ha
    rw [vr_up_ne (fun q => h a q ha)]
  · apply List.map_congr_left
    intro a ha
    rw [vr_up_in ha]
theorem vr_lay {X rows : va_W} {x : Nat × va_E} {pl : va_W} {D : va_G} {cl : List vw_C} {H : Heap} (hP : va_P D cl (((X ++ pl) ++ [x]) ++ rows) H) : va_P D cl ((X ++ [x]) ++ (pl ++ rows)) H := by
  rw [List.append_assoc (X ++ pl)] at hP
  have h := va_P.swap hP
  rw [← List.append_assoc X] at h
  have h2 := va_P.swap h
  rw [List.append_assoc (X ++ [x])] at h2
  exact h2
theorem vr_layD {X rows : va_W} {x : Nat × va_E} {pl : va_W} {A : Nat → Prop} (hD : va_D A (((X ++ pl) ++ [x]) ++ rows)) : va_D A ((X ++ [x]) ++ (pl ++ rows)) := by
  rw [List.append_assoc (X ++ pl)] at hD
  have h := va_D.swap hD
  rw [← List.append_assoc X] at h
  have h2 := va_D.swap h
  rw [List.append_assoc (X ++ [x])] at h2
  exact h2
theorem vr_outer (c : ClassId) (N h0 : Nat) : ∀ i : Nat, Jvm.Free.Multi.outerC c N h0 i = arrV c N (fun j => va_rf (if j < i then some (h0 + 1 + j) else none))
  | 0 => by
    show ({ cls := c, slots := Array.replicate N .null, vm := .none } : Cell) = _
    rw [arrV_new]
    refine congrArg (arrV c N) (funext fun j => ?_)
    simp [va_rf]
  | i + 1 => by
    show (Jvm.Free.Multi.outerC c N h0 i).setSlot i (.ref (h0 + 1 + i)) = _
    rw [vr_outer c N h0 i, arrV_store]
    refine congrArg (arrV c N) (funext fun j => ?_)
    by_cases e : j = i
    · subst e
      simp [updV, va_rf]
    · by_cases h : j < i
      · simp [updV, e, h, Nat.lt_succ_of_lt h]
      · simp [updV, e, h, show ¬ j < i + 1 by omega]
def va_AOA (t : FieldType) (U : State) : Prop := (Cond.arrayOver (.array t)).before #[] U = true
theorem va_AOA.use {t : FieldType} {A : Array Value} {U : State} (h : va_AOA t U) : (Cond.arrayOver (.array t)).before A U = true := h
section VGM
variable {p : Program} {l : Launch} {e : Env} {R : Room} {s : State} {m : MethodId} {args : Array Value} {below : List Frame} {meth : Method} {c : Code} {H : Heap} {locs : List Loc} {cells slots : Nat} {Q : State → Prop}
variable {cc : ByteArray} {pc : Nat} {ls : Array Slot} {rest : List Value} {D : va_G} {cl : List vw_C} {A : Nat → Prop} {a : Nat} {tys : List (ClassId × FieldType)} {ws : va_W} {H0 : Heap}
theorem va_mna {X : va_W} {L : List Nat} {f : Nat → va_E} {cc : ByteArray} (hexec : p.tables.exec = Jvm.exec) (hb : c.code = cc) {own : String} {index : Nat} {ty : FieldType} {cy : ClassId} (hown : s.vm.findClass own = some m.cls) (hclink : (Cond.classLink own index ("[" ++ (FieldType.array ty).toString)).before args s = true) (hover : va_AOA ty s) (harr : (Cond.arrayClass ty).before args s = true) (hcy : s.vm.findClass (FieldType.array ty).toString = some cy)
    (hK : va_K D cl tys s) (hP : va_P D cl (X ++ va_pl L f) H) (hD : va_D A (X ++ va_pl L f)) (hS : va_S A H0 H locs) (hA : ∀ q, H0.size ≤ q → A q) {n k : Int32} {N' K' : Nat} {z : vp_A} (hn : ¬ n < 0) (hk : ¬ k < 0) (hN : n.toNatClampNeg = N') (hM : k.toNatClampNeg = K')
    (hb1 : N' * 4 ≤ 536870912) (hb2 : K' * componentBytes ty ≤ 536870912) (hb3 : K' ≤ 536870912) (hdf : fits ty (defaultValue ty) = true) (hdd : (defaultValue ty).isDefault = true) (hcells : cells + (1 + N') ≤ R.cells) (hslots : slots + (N' + N' * K') ≤ R.slots) (hz : ∀ c : ClassId, Jvm.Free.Multi.innerC c K' (defaultValue ty) = vp_cell c z) (hdg : decode cc pc = .ok (.multianewarray index 2, 4))
    (kk : ∀ (q : Nat) (r : Nat → Nat) (cA : ClassId) (H1 : Heap), (∀ i j : Nat, i < N' → j < N' → r i = r j → i = j) → (∀ i : Nat, i < N' → r i ∉ L) → va_K D cl (tys ++ [(cA, .array ty)]) s →
      va_P D cl ((X ++ [(q, .inl (cA, N', .inr (.inr (.inr (.inr (fun i => if i < N' then some (r i) else none))))))]) ++ va_pl (L ++ (List.range N').map r) (vr_up f ((List.range N').map r) (.inl (cy, z)))) H1 → va_D A ((X ++ [(q, .inl (cA, N', .inr (.inr (.inr (.inr (fun i => if i < N' then some (r i) else none))))))]) ++ va_pl (L ++ (List.range N').map r) (vr_up f ((List.range N').map r) (.inl (cy, z)))) → va_S A H0 H1 locs →
      W p l e R s m args below meth c H1 locs (cells + 1 + N') (slots + N' + N' * K') Q (F0 m (pc + 4) ls (.ref q :: rest))) : W p l e R s m args below meth c H locs cells slots Q (F0 m pc ls (.int k :: .int n :: rest)) := by
  subst hN
  subst hM
  intro T hT Xs
  obtain ⟨vm₁, cA, comp, -, fA, fC, hO, -, X', step⟩ := Xs.multianewarray2F hexec hown hclink (va_AOA.use hover) harr (g := F0 m pc ls (.int k :: .int n :: rest)) rfl (by rw [hb]; exact hdg) rfl hn hk hb1 hb2 hb3 hdf hdd hcells hslots
  have ec : some cy = some comp := hcy.symm.trans fC
  cases ec
  generalize hF : Jvm.Free.Multi.fill (T.setVm vm₁) cA cy n.toNatClampNeg k.toNatClampNeg (defaultValue ty) n.toNatClampNeg = F at X' step
  have hTh : (T.setVm vm₁).heap = H := hT
  obtain ⟨f1, f2, -, -⟩ := Jvm.Free.Multi.fill_facts (T.setVm vm₁) cA cy n.toNatClampNeg k.toNatClampNeg (defaultValue ty) n.toNatClampNeg
  rw [hF, hTh] at f1 f2
  have hold : ∀ x : Nat, x < H.size → F.heap[x]? = H[x]? := fun x hx => by
    have := Jvm.Free.Multi.fill_old (T.setVm vm₁) cA cy n.toNatClampNeg k.toNatClampNeg (defaultValue ty) (a := x) (by rw [hTh]; exact hx) n.toNatClampNeg
    rw [hF, hTh] at this
    exact this
  have hrow : ∀ j : Nat, j < n.toNatClampNeg → F.heap[H.size + 1 + j]? = some (vp_cell cy z) := fun j hj => by
    have := Jvm.Free.Multi.fill_inner (T.setVm vm₁) cA cy n.toNatClampNeg k.toNatClampNeg (defaultValue ty) n.toNatClampNeg j hj
    rw [hF, hTh, hz] at this
    exact this
  have hout : Jvm.Free.Multi.outerC cA n.toNatClampNeg H.size n.toNatClampNeg = vp_cell cA (n.toNatClampNeg, .inr (.inr (.inr (.inr (fun i => if i < n.toNatClampNeg then some (H.size + 1 + i) else none))))) := by
    rw [vp_cell_q]
    exact vr_outer cA n.toNatClampNeg H.size n.toNatClampNeg
  rw [hout] at f2
  have hlt : ∀ a, a ∈ L → a < H.size := fun a ha => by
    obtain ⟨k9, hk9⟩ := va_pl_get (X := X) (f := f) ha
    exact (hP k9 _ hk9).lt
  have hnl : ∀ i : Nat, i < n.toNatClampNeg → H.size + 1 + i ∉ L := fun i _ h => by
    have := hlt _ h
    omega
  have hnm : ∀ a, a ∈ (List.range n.toNatClampNeg).map (fun i => H.size + 1 + i) → a ∉ L := fun a ha h => by
    obtain ⟨i, -, rfl⟩ := List.mem_map.mp ha
    have := hlt _ h
    omega
  have hP0 : va_P D cl (X ++ va_pl L f) F.heap := hP.kept (fun k9 x hx => hold x.1 ((hP k9 x hx).lt))
  have hP1 : va_P D cl ((X ++ va_pl L f) ++ [(H.size, .inl (cA, n.toNatClampNeg, .inr (.inr (.inr (.inr (fun i => if i < n.toNatClampNeg then some (H.size + 1 + i) else none))))))]) F.heap := hP0.app (fun k9 x hx => by
    have h0 : k9 < 1 := (List.getElem?_eq_some_iff.mp hx).1
    rw [show k9 = 0 by omega] at hx
    cases hx
    exact f2)
  have hP2 : va_P D cl (((X ++ va_pl L f) ++ [(H.size, .inl (cA, n.toNatClampNeg, .inr (.inr (.inr (.inr (fun i => if i < n.toNatClampNeg then some (H.size + 1 + i) else none))))))]) ++ ((List.range n.toNatClampNeg).map (fun i => H.size + 1 + i)).map (fun a => (a, .inl (cy, z)))) F.heap := hP1.app (fun k9 x hx => by
    obtain ⟨a, ha, rfl⟩ := List.mem_map.mp (List.mem_of_getElem? hx)
    obtain ⟨i, hi, rfl⟩ := List.mem_map.mp ha
    exact hrow i (List.mem_range.mp hi))
  have hD2 : va_D A (((X ++ va_pl L f) ++ [(H.size, .inl (cA, n.toNatClampNeg, .inr (.inr (.inr (.inr (fun i => if i < n.toNatClampNeg then some (H.size + 1 + i) else none))))))]) ++ ((List.range n.toNatClampNeg).map (fun i => H.size + 1 + i)).map (fun a => (a, .inl (cy, z)))) := by
    have hD1 := hD.push (e := .inl (cA, n.toNatClampNeg, .inr (.inr (.inr (.inr (fun i => if i < n.toNatClampNeg then some (H.size + 1 + i) else none)))))) hP rfl (hA _ hS.1)
    generalize hW1 : (X ++ va_pl L f) ++ [(H.size, .inl (cA, n.toNatClampNeg, .inr (.inr (.inr (.inr (fun i => if i < n.toNatClampNeg then some (H.size + 1 + i) else none))))))] = W1 at hD1 hP1 ⊢
    have hle : ∀ (k9 : Nat) (x : Nat × va_E), W1[k9]? = some x → x.1 ≤ H.size := fun k9 x hx => by
      rw [← hW1] at hx
      by_cases hl : k9 < (X ++ va_pl L f).length
      · rw [List.getElem?_append_left hl] at hx
        exact Nat.le_of_lt ((hP k9 x hx).lt)
      · rw [List.getElem?_append_right (by omega)] at hx
        have h0 : k9 - (X ++ va_pl L f).length < 1 := (List.getElem?_eq_some_iff.mp hx).1
        rw [show k9 - (X ++ va_pl L f).length = 0 by omega] at hx
        cases hx
        exact Nat.le_refl _
    have hr : ∀ (k9 : Nat) (x : Nat × va_E), (((List.range n.toNatClampNeg).map (fun i => H.size + 1 + i)).map (fun a => ((a, .inl (cy, z)) : Nat × va_E)))[k9]? = some x → x.1 = H.size + 1 + k9 := fun k9 x hx => by
      rw [List.getElem?_map, List.getElem?_map] at hx
      by_cases h9 : k9 < n.toNatClampNeg
      · rw [List.getElem?_range h9] at hx
        cases hx
        rfl
      · have hn0 : (List.range n.toNatClampNeg)[k9]? = none := List.getElem?_eq_none (by rw [List.length_range]; omega)
        rw [hn0] at hx
        cases hx
    refine ⟨fun i j x y hi hj hxy => ?_, fun k9 x hx => ?_⟩
    · by_cases h1 : i < W1.length <;> by_cases h2 : j < W1.length
      · rw [List.getElem?_append_left h1] at hi
        rw [List.getElem?_append_left h2] at hj
        exact hD1.1 i j x y hi hj hxy
      · rw [List.getElem?_append_left h1] at hi
        rw [List.getElem?_append_right (by omega)] at hj
        have := hle _ _ hi
        have := hr _ _ hj
        omega
      · rw [List.getElem?_append_right (by omega)] at hi
        rw [List.getElem?_append_left h2] at hj
        have := hle _ _ hj
        have := hr _ _ hi
        omega
      · rw [List.getElem?_append_right (by omega)] at hi hj
        have := hr _ _ hi
        have := hr _ _ hj
        omega
    · by_cases h1 : k9 < W1.length
      · rw [List.getElem?_append_left h1] at hx
        exact hD1.2 k9 x hx
      · rw [List.getElem?_append_right (by omega)] at hx
        have := hr _ _ hx
        exact hA _ (by have := hS.1; omega)
  have hAr : ArrOfT s cA (.array ty) := fun N9 z9 => by
    obtain ⟨-, k9, hk9, cm9, hkk9⟩ := (hO 0 0 0).1
    exact ⟨(fun q hq => by cases hq), k9, hk9, cm9, hkk9⟩
  have hK2 : va_K D cl (tys ++ [(cA, .array ty)]) s := ⟨hK.1, fun k9 x hx => by
    by_cases hl : k9 < tys.length
    · rw [List.getElem?_append_left hl] at hx
      exact hK.2 k9 x hx
    · rw [List.getElem?_append_right (by omega)] at hx
      have h0 : k9 - tys.length < 1 := (List.getElem?_eq_some_iff.mp hx).1
      rw [show k9 - tys.length = 0 by omega] at hx
      cases hx
      exact ⟨hAr, fA⟩⟩
  obtain ⟨t, a1, b1⟩ := kk H.size (fun i => H.size + 1 + i) cA F.heap (fun i j _ _ h => by have h9 : H.size + 1 + i = H.size + 1 + j := h; omega) hnl hK2 (by rw [← vr_rows hnm]; exact vr_lay hP2) (by rw [← vr_rows hnm]; exact vr_layD hD2) ⟨by rw [f1]; have := hS.1; omega, fun x h1 h2 => (hold x (Nat.lt_of_lt_of_le h1 hS.1)).trans (hS.2.1 x h1 h2), hS.2.2⟩ F rfl X'
  refine ⟨t, step t ?_, b1⟩
  have e : T.heap.size = H.size := by rw [hT]
  rw [e]
  exact a1
end VGM
/-! ===== END ===== -/

-- ===== PART A: goes FIRST, ahead of the names: the tables' words, and 'selects' of the private methods out of them =====
/-- a private method of a class that the tables say can be made, by its rows of tables_1 -/
def lw_okq (q : MethodName × Nat) : Prop := (q.1.cls ≠ "java/lang/invoke/MethodHandle" ∧ q.1.cls ≠ "java/lang/invoke/VarHandle") ∧ Cond.instantiable q.1.cls q.2 ∈ tables_1 ∧ Cond.privateMethod q.1 ∈ tables_1 ∧ Cond.instanceMethod q.1 ∈ tables_1
theorem lw_p0 : lw_okq (⟨"BaileyChain", "startAgain", "(I)V"⟩, 11) := ⟨⟨by decide +kernel, by decide +kernel⟩, List.mem_of_getElem? (i := 19) (by decide +kernel), List.mem_of_getElem? (i := 169) (by decide +kernel), List.mem_of_getElem? (i := 170) (by decide +kernel)⟩
theorem lw_p1 : lw_okq (⟨"BaileyChain", "setUnitPai\x72", "(I)V"⟩, 11) := ⟨⟨by decide +kernel, by decide +kernel⟩, List.mem_of_getElem? (i := 19) (by decide +kernel), List.mem_of_getElem? (i := 176) (by decide +kernel), List.mem_of_getElem? (i := 177) (by decide +kernel)⟩
theorem lw_p2 : lw_okq (⟨"BaileyChain$Pai\x72", "setRelationTerm", "(LBaileyChain$Wide;III)V"⟩, 3) := ⟨⟨by decide +kernel, by decide +kernel⟩, List.mem_of_getElem? (i := 35) (by decide +kernel), List.mem_of_getElem? (i := 200) (by decide +kernel), List.mem_of_getElem? (i := 201) (by decide +kernel)⟩
theorem lw_p3 : lw_okq (⟨"BaileyChain", "isPowe\x72", "(I)Z"⟩, 11) := ⟨⟨by decide +kernel, by decide +kernel⟩, List.mem_of_getElem? (i := 19) (by decide +kernel), List.mem_of_getElem? (i := 300) (by decide +kernel), List.mem_of_getElem? (i := 301) (by decide +kernel)⟩
theorem lw_p4 : lw_okq (⟨"BaileyChain", "lowestPowe\x72", "([I)I"⟩, 11) := ⟨⟨by decide +kernel, by decide +kernel⟩, List.mem_of_getElem? (i := 19) (by decide +kernel), List.mem_of_getElem? (i := 315) (by decide +kernel), List.mem_of_getElem? (i := 316) (by decide +kernel)⟩
theorem lw_p5 : lw_okq (⟨"BaileyChain", "highestPowe\x72", "([I)I"⟩, 11) := ⟨⟨by decide +kernel, by decide +kernel⟩, List.mem_of_getElem? (i := 19) (by decide +kernel), List.mem_of_getElem? (i := 323) (by decide +kernel), List.mem_of_getElem? (i := 324) (by decide +kernel)⟩
theorem lw_p6 : lw_okq (⟨"BaileyChain", "keepResult", "(I)I"⟩, 11) := ⟨⟨by decide +kernel, by decide +kernel⟩, List.mem_of_getElem? (i := 19) (by decide +kernel), List.mem_of_getElem? (i := 333) (by decide +kernel), List.mem_of_getElem? (i := 334) (by decide +kernel)⟩
theorem lw_p7 : lw_okq (⟨"BaileyChain", "countNonzero", "([I)I"⟩, 11) := ⟨⟨by decide +kernel, by decide +kernel⟩, List.mem_of_getElem? (i := 19) (by decide +kernel), List.mem_of_getElem? (i := 339) (by decide +kernel), List.mem_of_getElem? (i := 340) (by decide +kernel)⟩
theorem lw_p8 : lw_okq (⟨"BaileyChain", "lowestDifference", "([I[I)I"⟩, 11) := ⟨⟨by decide +kernel, by decide +kernel⟩, List.mem_of_getElem? (i := 19) (by decide +kernel), List.mem_of_getElem? (i := 394) (by decide +kernel), List.mem_of_getElem? (i := 395) (by decide +kernel)⟩
theorem lw_p9 : lw_okq (⟨"BaileyChain", "countNegative", "([I)I"⟩, 11) := ⟨⟨by decide +kernel, by decide +kernel⟩, List.mem_of_getElem? (i := 19) (by decide +kernel), List.mem_of_getElem? (i := 410) (by decide +kernel), List.mem_of_getElem? (i := 411) (by decide +kernel)⟩
theorem lw_p10 : lw_okq (⟨"BaileyChain", "countSignChanges", "([I)I"⟩, 11) := ⟨⟨by decide +kernel, by decide +kernel⟩, List.mem_of_getElem? (i := 19) (by decide +kernel), List.mem_of_getElem? (i := 414) (by decide +kernel), List.mem_of_getElem? (i := 415) (by decide +kernel)⟩
theorem lw_p11 : lw_okq (⟨"BaileyChain", "largestAbsolute", "([I)I"⟩, 11) := ⟨⟨by decide +kernel, by decide +kernel⟩, List.mem_of_getElem? (i := 19) (by decide +kernel), List.mem_of_getElem? (i := 421) (by decide +kernel), List.mem_of_getElem? (i := 422) (by decide +kernel)⟩
theorem lw_p12 : lw_okq (⟨"BaileyChain", "countRecords", "([I)I"⟩, 11) := ⟨⟨by decide +kernel, by decide +kernel⟩, List.mem_of_getElem? (i := 19) (by decide +kernel), List.mem_of_getElem? (i := 431) (by decide +kernel), List.mem_of_getElem? (i := 432) (by decide +kernel)⟩
theorem lw_p13 : lw_okq (⟨"BaileyChain", "rankOf", "(I)I"⟩, 11) := ⟨⟨by decide +kernel, by decide +kernel⟩, List.mem_of_getElem? (i := 19) (by decide +kernel), List.mem_of_getElem? (i := 439) (by decide +kernel), List.mem_of_getElem? (i := 440) (by decide +kernel)⟩
theorem lw_p14 : lw_okq (⟨"BaileyChain", "comesBefore", "(II)Z"⟩, 11) := ⟨⟨by decide +kernel, by decide +kernel⟩, List.mem_of_getElem? (i := 19) (by decide +kernel), List.mem_of_getElem? (i := 443) (by decide +kernel), List.mem_of_getElem? (i := 444) (by decide +kernel)⟩
theorem lw_p15 : lw_okq (⟨"BaileyChain", "setInPai\x72", "(IIZ)I"⟩, 11) := ⟨⟨by decide +kernel, by decide +kernel⟩, List.mem_of_getElem? (i := 19) (by decide +kernel), List.mem_of_getElem? (i := 455) (by decide +kernel), List.mem_of_getElem? (i := 456) (by decide +kernel)⟩
def lw_privs_1 : List (MethodName × Nat) := [(⟨"BaileyChain", "startAgain", "(I)V"⟩, 11), (⟨"BaileyChain", "setUnitPai\x72", "(I)V"⟩, 11), (⟨"BaileyChain$Pai\x72", "setRelationTerm", "(LBaileyChain$Wide;III)V"⟩, 3), (⟨"BaileyChain", "isPowe\x72", "(I)Z"⟩, 11), (⟨"BaileyChain", "lowestPowe\x72", "([I)I"⟩, 11), (⟨"BaileyChain", "highestPowe\x72", "([I)I"⟩, 11), (⟨"BaileyChain", "keepResult", "(I)I"⟩, 11), (⟨"BaileyChain", "countNonzero", "([I)I"⟩, 11), (⟨"BaileyChain", "lowestDifference", "([I[I)I"⟩, 11), (⟨"BaileyChain", "countNegative", "([I)I"⟩, 11), (⟨"BaileyChain", "countSignChanges", "([I)I"⟩, 11), (⟨"BaileyChain", "largestAbsolute", "([I)I"⟩, 11), (⟨"BaileyChain", "countRecords", "([I)I"⟩, 11), (⟨"BaileyChain", "rankOf", "(I)I"⟩, 11), (⟨"BaileyChain", "comesBefore", "(II)Z"⟩, 11), (⟨"BaileyChain", "setInPai\x72", "(IIZ)I"⟩, 11)]
theorem lw_r1 : ∀ q ∈ lw_privs_1, lw_okq q := List.forall_mem_cons.mpr ⟨lw_p0, List.forall_mem_cons.mpr ⟨lw_p1, List.forall_mem_cons.mpr ⟨lw_p2, List.forall_mem_cons.mpr ⟨lw_p3, List.forall_mem_cons.mpr ⟨lw_p4, List.forall_mem_cons.mpr ⟨lw_p5, List.forall_mem_cons.mpr ⟨lw_p6, List.forall_mem_cons.mpr ⟨lw_p7, List.forall_mem_cons.mpr ⟨lw_p8, List.forall_mem_cons.mpr ⟨lw_p9, List.forall_mem_cons.mpr ⟨lw_p10, List.forall_mem_cons.mpr ⟨lw_p11, List.forall_mem_cons.mpr ⟨lw_p12, List.forall_mem_cons.mpr ⟨lw_p13, List.forall_mem_cons.mpr ⟨lw_p14, List.forall_mem_cons.mpr ⟨lw_p15, fun _ h => absurd h List.not_mem_nil⟩⟩⟩⟩⟩⟩⟩⟩⟩⟩⟩⟩⟩⟩⟩⟩
theorem lw_p16 : lw_okq (⟨"BaileyChain$State", "forgetOldest", "()V"⟩, 6) := ⟨⟨by decide +kernel, by decide +kernel⟩, List.mem_of_getElem? (i := 27) (by decide +kernel), List.mem_of_getElem? (i := 489) (by decide +kernel), List.mem_of_getElem? (i := 490) (by decide +kernel)⟩
theorem lw_p17 : lw_okq (⟨"BaileyChain", "copyToRegiste\x72", "(II[[I)I"⟩, 11) := ⟨⟨by decide +kernel, by decide +kernel⟩, List.mem_of_getElem? (i := 19) (by decide +kernel), List.mem_of_getElem? (i := 509) (by decide +kernel), List.mem_of_getElem? (i := 510) (by decide +kernel)⟩
theorem lw_p18 : lw_okq (⟨"BaileyChain", "sumWithStepPowers", "([[I)V"⟩, 11) := ⟨⟨by decide +kernel, by decide +kernel⟩, List.mem_of_getElem? (i := 19) (by decide +kernel), List.mem_of_getElem? (i := 521) (by decide +kernel), List.mem_of_getElem? (i := 522) (by decide +kernel)⟩
theorem lw_p19 : lw_okq (⟨"BaileyChain$Partitions", "fillFrom", "(IIII)V"⟩, 2) := ⟨⟨by decide +kernel, by decide +kernel⟩, List.mem_of_getElem? (i := 97) (by decide +kernel), List.mem_of_getElem? (i := 544) (by decide +kernel), List.mem_of_getElem? (i := 545) (by decide +kernel)⟩
theorem lw_p20 : lw_okq (⟨"BaileyChain$Partitions", "put", "(III)V"⟩, 2) := ⟨⟨by decide +kernel, by decide +kernel⟩, List.mem_of_getElem? (i := 97) (by decide +kernel), List.mem_of_getElem? (i := 551) (by decide +kernel), List.mem_of_getElem? (i := 552) (by decide +kernel)⟩
theorem lw_p21 : lw_okq (⟨"BaileyChain$Partitions", "makeNext", "(I)Z"⟩, 2) := ⟨⟨by decide +kernel, by decide +kernel⟩, List.mem_of_getElem? (i := 97) (by decide +kernel), List.mem_of_getElem? (i := 555) (by decide +kernel), List.mem_of_getElem? (i := 556) (by decide +kernel)⟩
theorem lw_p22 : lw_okq (⟨"BaileyChain$Partitions", "lastPlaceAboveOne", "(I)I"⟩, 2) := ⟨⟨by decide +kernel, by decide +kernel⟩, List.mem_of_getElem? (i := 97) (by decide +kernel), List.mem_of_getElem? (i := 559) (by decide +kernel), List.mem_of_getElem? (i := 560) (by decide +kernel)⟩
theorem lw_p23 : lw_okq (⟨"BaileyChain", "filterInInput", "()I"⟩, 11) := ⟨⟨by decide +kernel, by decide +kernel⟩, List.mem_of_getElem? (i := 19) (by decide +kernel), List.mem_of_getElem? (i := 571) (by decide +kernel), List.mem_of_getElem? (i := 572) (by decide +kernel)⟩
theorem lw_p24 : lw_okq (⟨"BaileyChain$Partitions", "passes", "(II)Z"⟩, 2) := ⟨⟨by decide +kernel, by decide +kernel⟩, List.mem_of_getElem? (i := 97) (by decide +kernel), List.mem_of_getElem? (i := 637) (by decide +kernel), List.mem_of_getElem? (i := 638) (by decide +kernel)⟩
theorem lw_p25 : lw_okq (⟨"BaileyChain$Partitions", "hasGaps", "(II)Z"⟩, 2) := ⟨⟨by decide +kernel, by decide +kernel⟩, List.mem_of_getElem? (i := 97) (by decide +kernel), List.mem_of_getElem? (i := 641) (by decide +kernel), List.mem_of_getElem? (i := 642) (by decide +kernel)⟩
theorem lw_p26 : lw_okq (⟨"BaileyChain$Partitions", "hasOddPartsOnly", "(I)Z"⟩, 2) := ⟨⟨by decide +kernel, by decide +kernel⟩, List.mem_of_getElem? (i := 97) (by decide +kernel), List.mem_of_getElem? (i := 645) (by decide +kernel), List.mem_of_getElem? (i := 646) (by decide +kernel)⟩
theorem lw_p27 : lw_okq (⟨"BaileyChain$Partitions", "countAtLeast", "(II)I"⟩, 2) := ⟨⟨by decide +kernel, by decide +kernel⟩, List.mem_of_getElem? (i := 97) (by decide +kernel), List.mem_of_getElem? (i := 649) (by decide +kernel), List.mem_of_getElem? (i := 650) (by decide +kernel)⟩
theorem lw_p28 : lw_okq (⟨"BaileyChain$Partitions", "isSelfConjugate", "(I)Z"⟩, 2) := ⟨⟨by decide +kernel, by decide +kernel⟩, List.mem_of_getElem? (i := 97) (by decide +kernel), List.mem_of_getElem? (i := 653) (by decide +kernel), List.mem_of_getElem? (i := 654) (by decide +kernel)⟩
theorem lw_p29 : lw_okq (⟨"BaileyChain$Input", "takes", "(C)Z"⟩, 3) := ⟨⟨by decide +kernel, by decide +kernel⟩, List.mem_of_getElem? (i := 112) (by decide +kernel), List.mem_of_getElem? (i := 686) (by decide +kernel), List.mem_of_getElem? (i := 687) (by decide +kernel)⟩
theorem lw_p30 : lw_okq (⟨"BaileyChain$Input", "readTerm", "(LBaileyChain$Wide;Z)Z"⟩, 3) := ⟨⟨by decide +kernel, by decide +kernel⟩, List.mem_of_getElem? (i := 112) (by decide +kernel), List.mem_of_getElem? (i := 690) (by decide +kernel), List.mem_of_getElem? (i := 691) (by decide +kernel)⟩
theorem lw_p31 : lw_okq (⟨"BaileyChain$Input", "readDigits", "(I)I"⟩, 3) := ⟨⟨by decide +kernel, by decide +kernel⟩, List.mem_of_getElem? (i := 112) (by decide +kernel), List.mem_of_getElem? (i := 694) (by decide +kernel), List.mem_of_getElem? (i := 695) (by decide +kernel)⟩
def lw_privs_2 : List (MethodName × Nat) := [(⟨"BaileyChain$State", "forgetOldest", "()V"⟩, 6), (⟨"BaileyChain", "copyToRegiste\x72", "(II[[I)I"⟩, 11), (⟨"BaileyChain", "sumWithStepPowers", "([[I)V"⟩, 11), (⟨"BaileyChain$Partitions", "fillFrom", "(IIII)V"⟩, 2), (⟨"BaileyChain$Partitions", "put", "(III)V"⟩, 2), (⟨"BaileyChain$Partitions", "makeNext", "(I)Z"⟩, 2), (⟨"BaileyChain$Partitions", "lastPlaceAboveOne", "(I)I"⟩, 2), (⟨"BaileyChain", "filterInInput", "()I"⟩, 11), (⟨"BaileyChain$Partitions", "passes", "(II)Z"⟩, 2), (⟨"BaileyChain$Partitions", "hasGaps", "(II)Z"⟩, 2), (⟨"BaileyChain$Partitions", "hasOddPartsOnly", "(I)Z"⟩, 2), (⟨"BaileyChain$Partitions", "countAtLeast", "(II)I"⟩, 2), (⟨"BaileyChain$Partitions", "isSelfConjugate", "(I)Z"⟩, 2), (⟨"BaileyChain$Input", "takes", "(C)Z"⟩, 3), (⟨"BaileyChain$Input", "readTerm", "(LBaileyChain$Wide;Z)Z"⟩, 3), (⟨"BaileyChain$Input", "readDigits", "(I)I"⟩, 3)]
theorem lw_r2 : ∀ q ∈ lw_privs_2, lw_okq q := List.forall_mem_cons.mpr ⟨lw_p16, List.forall_mem_cons.mpr ⟨lw_p17, List.forall_mem_cons.mpr ⟨lw_p18, List.forall_mem_cons.mpr ⟨lw_p19, List.forall_mem_cons.mpr ⟨lw_p20, List.forall_mem_cons.mpr ⟨lw_p21, List.forall_mem_cons.mpr ⟨lw_p22, List.forall_mem_cons.mpr ⟨lw_p23, List.forall_mem_cons.mpr ⟨lw_p24, List.forall_mem_cons.mpr ⟨lw_p25, List.forall_mem_cons.mpr ⟨lw_p26, List.forall_mem_cons.mpr ⟨lw_p27, List.forall_mem_cons.mpr ⟨lw_p28, List.forall_mem_cons.mpr ⟨lw_p29, List.forall_mem_cons.mpr ⟨lw_p30, List.forall_mem_cons.mpr ⟨lw_p31, fun _ h => absurd h List.not_mem_nil⟩⟩⟩⟩⟩⟩⟩⟩⟩⟩⟩⟩⟩⟩⟩⟩
theorem lw_p32 : lw_okq (⟨"BaileyChain$Input", "readExponent", "()I"⟩, 3) := ⟨⟨by decide +kernel, by decide +kernel⟩, List.mem_of_getElem? (i := 112) (by decide +kernel), List.mem_of_getElem? (i := 699) (by decide +kernel), List.mem_of_getElem? (i := 700) (by decide +kernel)⟩
theorem lw_p33 : lw_okq (⟨"BaileyChain$Output", "writeTerm", "(II)V"⟩, 2) := ⟨⟨by decide +kernel, by decide +kernel⟩, List.mem_of_getElem? (i := 130) (by decide +kernel), List.mem_of_getElem? (i := 712) (by decide +kernel), List.mem_of_getElem? (i := 713) (by decide +kernel)⟩
theorem lw_p34 : lw_okq (⟨"BaileyChain$Output", "put", "(I)V"⟩, 2) := ⟨⟨by decide +kernel, by decide +kernel⟩, List.mem_of_getElem? (i := 130) (by decide +kernel), List.mem_of_getElem? (i := 716) (by decide +kernel), List.mem_of_getElem? (i := 717) (by decide +kernel)⟩
theorem lw_p35 : lw_okq (⟨"BaileyChain$Output", "writeNumbe\x72", "(I)V"⟩, 2) := ⟨⟨by decide +kernel, by decide +kernel⟩, List.mem_of_getElem? (i := 130) (by decide +kernel), List.mem_of_getElem? (i := 721) (by decide +kernel), List.mem_of_getElem? (i := 722) (by decide +kernel)⟩
theorem lw_p36 : lw_okq (⟨"BaileyChainModel", "makeUnitPai\x72", "()V"⟩, 32) := ⟨⟨by decide +kernel, by decide +kernel⟩, List.mem_of_getElem? (i := 788) (by decide +kernel), List.mem_of_getElem? (i := 794) (by decide +kernel), List.mem_of_getElem? (i := 795) (by decide +kernel)⟩
theorem lw_p37 : lw_okq (⟨"BaileyChainModel", "findAlpha", "()Z"⟩, 32) := ⟨⟨by decide +kernel, by decide +kernel⟩, List.mem_of_getElem? (i := 788) (by decide +kernel), List.mem_of_getElem? (i := 798) (by decide +kernel), List.mem_of_getElem? (i := 799) (by decide +kernel)⟩
theorem lw_p38 : lw_okq (⟨"BaileyChainModel", "load", "([JI[J)V"⟩, 32) := ⟨⟨by decide +kernel, by decide +kernel⟩, List.mem_of_getElem? (i := 788) (by decide +kernel), List.mem_of_getElem? (i := 802) (by decide +kernel), List.mem_of_getElem? (i := 803) (by decide +kernel)⟩
theorem lw_p39 : lw_okq (⟨"BaileyChainModel", "addTerm", "([JIII)V"⟩, 32) := ⟨⟨by decide +kernel, by decide +kernel⟩, List.mem_of_getElem? (i := 788) (by decide +kernel), List.mem_of_getElem? (i := 806) (by decide +kernel), List.mem_of_getElem? (i := 807) (by decide +kernel)⟩
theorem lw_p40 : lw_okq (⟨"BaileyChainModel", "timesPochhamme\x72", "([JIII)V"⟩, 32) := ⟨⟨by decide +kernel, by decide +kernel⟩, List.mem_of_getElem? (i := 788) (by decide +kernel), List.mem_of_getElem? (i := 810) (by decide +kernel), List.mem_of_getElem? (i := 811) (by decide +kernel)⟩
theorem lw_p41 : lw_okq (⟨"BaileyChainModel", "timesBinomial", "([JII)V"⟩, 32) := ⟨⟨by decide +kernel, by decide +kernel⟩, List.mem_of_getElem? (i := 788) (by decide +kernel), List.mem_of_getElem? (i := 814) (by decide +kernel), List.mem_of_getElem? (i := 815) (by decide +kernel)⟩
theorem lw_p42 : lw_okq (⟨"BaileyChainModel", "keepsOthe\x72", "([JI)Z"⟩, 32) := ⟨⟨by decide +kernel, by decide +kernel⟩, List.mem_of_getElem? (i := 788) (by decide +kernel), List.mem_of_getElem? (i := 818) (by decide +kernel), List.mem_of_getElem? (i := 819) (by decide +kernel)⟩
theorem lw_p43 : lw_okq (⟨"BaileyChainModel", "takesNewPai\x72", "()V"⟩, 32) := ⟨⟨by decide +kernel, by decide +kernel⟩, List.mem_of_getElem? (i := 788) (by decide +kernel), List.mem_of_getElem? (i := 830) (by decide +kernel), List.mem_of_getElem? (i := 831) (by decide +kernel)⟩
theorem lw_p44 : lw_okq (⟨"BaileyChainModel", "lowest", "(I)I"⟩, 32) := ⟨⟨by decide +kernel, by decide +kernel⟩, List.mem_of_getElem? (i := 788) (by decide +kernel), List.mem_of_getElem? (i := 961) (by decide +kernel), List.mem_of_getElem? (i := 962) (by decide +kernel)⟩
theorem lw_p45 : lw_okq (⟨"BaileyChainModel", "highest", "(I)I"⟩, 32) := ⟨⟨by decide +kernel, by decide +kernel⟩, List.mem_of_getElem? (i := 788) (by decide +kernel), List.mem_of_getElem? (i := 969) (by decide +kernel), List.mem_of_getElem? (i := 970) (by decide +kernel)⟩
theorem lw_p46 : lw_okq (⟨"BaileyChainModel", "store", "(I)I"⟩, 32) := ⟨⟨by decide +kernel, by decide +kernel⟩, List.mem_of_getElem? (i := 788) (by decide +kernel), List.mem_of_getElem? (i := 979) (by decide +kernel), List.mem_of_getElem? (i := 980) (by decide +kernel)⟩
theorem lw_p47 : lw_okq (⟨"BaileyChainModel", "nonzero", "([J)I"⟩, 32) := ⟨⟨by decide +kernel, by decide +kernel⟩, List.mem_of_getElem? (i := 788) (by decide +kernel), List.mem_of_getElem? (i := 983) (by decide +kernel), List.mem_of_getElem? (i := 984) (by decide +kernel)⟩
def lw_privs_3 : List (MethodName × Nat) := [(⟨"BaileyChain$Input", "readExponent", "()I"⟩, 3), (⟨"BaileyChain$Output", "writeTerm", "(II)V"⟩, 2), (⟨"BaileyChain$Output", "put", "(I)V"⟩, 2), (⟨"BaileyChain$Output", "writeNumbe\x72", "(I)V"⟩, 2), (⟨"BaileyChainModel", "makeUnitPai\x72", "()V"⟩, 32), (⟨"BaileyChainModel", "findAlpha", "()Z"⟩, 32), (⟨"BaileyChainModel", "load", "([JI[J)V"⟩, 32), (⟨"BaileyChainModel", "addTerm", "([JIII)V"⟩, 32), (⟨"BaileyChainModel", "timesPochhamme\x72", "([JIII)V"⟩, 32), (⟨"BaileyChainModel", "timesBinomial", "([JII)V"⟩, 32), (⟨"BaileyChainModel", "keepsOthe\x72", "([JI)Z"⟩, 32), (⟨"BaileyChainModel", "takesNewPai\x72", "()V"⟩, 32), (⟨"BaileyChainModel", "lowest", "(I)I"⟩, 32), (⟨"BaileyChainModel", "highest", "(I)I"⟩, 32), (⟨"BaileyChainModel", "store", "(I)I"⟩, 32), (⟨"BaileyChainModel", "nonzero", "([J)I"⟩, 32)]
theorem lw_r3 : ∀ q ∈ lw_privs_3, lw_okq q := List.forall_mem_cons.mpr ⟨lw_p32, List.forall_mem_cons.mpr ⟨lw_p33, List.forall_mem_cons.mpr ⟨lw_p34, List.forall_mem_cons.mpr ⟨lw_p35, List.forall_mem_cons.mpr ⟨lw_p36, List.forall_mem_cons.mpr ⟨lw_p37, List.forall_mem_cons.mpr ⟨lw_p38, List.forall_mem_cons.mpr ⟨lw_p39, List.forall_mem_cons.mpr ⟨lw_p40, List.forall_mem_cons.mpr ⟨lw_p41, List.forall_mem_cons.mpr ⟨lw_p42, List.forall_mem_cons.mpr ⟨lw_p43, List.forall_mem_cons.mpr ⟨lw_p44, List.forall_mem_cons.mpr ⟨lw_p45, List.forall_mem_cons.mpr ⟨lw_p46, List.forall_mem_cons.mpr ⟨lw_p47, fun _ h => absurd h List.not_mem_nil⟩⟩⟩⟩⟩⟩⟩⟩⟩⟩⟩⟩⟩⟩⟩⟩
theorem lw_p48 : lw_okq (⟨"BaileyChainModel", "makeZero", "([J)V"⟩, 32) := ⟨⟨by decide +kernel, by decide +kernel⟩, List.mem_of_getElem? (i := 788) (by decide +kernel), List.mem_of_getElem? (i := 991) (by decide +kernel), List.mem_of_getElem? (i := 992) (by decide +kernel)⟩
theorem lw_p49 : lw_okq (⟨"BaileyChainModel", "shiftBy", "([JI)V"⟩, 32) := ⟨⟨by decide +kernel, by decide +kernel⟩, List.mem_of_getElem? (i := 788) (by decide +kernel), List.mem_of_getElem? (i := 1005) (by decide +kernel), List.mem_of_getElem? (i := 1006) (by decide +kernel)⟩
theorem lw_p50 : lw_okq (⟨"BaileyChainModel", "makeOne", "([J)V"⟩, 32) := ⟨⟨by decide +kernel, by decide +kernel⟩, List.mem_of_getElem? (i := 788) (by decide +kernel), List.mem_of_getElem? (i := 1024) (by decide +kernel), List.mem_of_getElem? (i := 1025) (by decide +kernel)⟩
theorem lw_p51 : lw_okq (⟨"BaileyChainModel", "isRankedBefore", "(II)Z"⟩, 32) := ⟨⟨by decide +kernel, by decide +kernel⟩, List.mem_of_getElem? (i := 788) (by decide +kernel), List.mem_of_getElem? (i := 1051) (by decide +kernel), List.mem_of_getElem? (i := 1052) (by decide +kernel)⟩
theorem lw_p52 : lw_okq (⟨"BaileyChainModel", "replace", "([JII)I"⟩, 32) := ⟨⟨by decide +kernel, by decide +kernel⟩, List.mem_of_getElem? (i := 788) (by decide +kernel), List.mem_of_getElem? (i := 1063) (by decide +kernel), List.mem_of_getElem? (i := 1064) (by decide +kernel)⟩
theorem lw_p53 : lw_okq (⟨"BaileyChainModel", "findBeta", "()Z"⟩, 32) := ⟨⟨by decide +kernel, by decide +kernel⟩, List.mem_of_getElem? (i := 788) (by decide +kernel), List.mem_of_getElem? (i := 1067) (by decide +kernel), List.mem_of_getElem? (i := 1068) (by decide +kernel)⟩
theorem lw_p54 : lw_okq (⟨"BaileyChainModel", "loadWeighted", "([JI[J)V"⟩, 32) := ⟨⟨by decide +kernel, by decide +kernel⟩, List.mem_of_getElem? (i := 788) (by decide +kernel), List.mem_of_getElem? (i := 1079) (by decide +kernel), List.mem_of_getElem? (i := 1080) (by decide +kernel)⟩
theorem lw_p55 : lw_okq (⟨"BaileyChainModel", "remembe\x72", "()V"⟩, 32) := ⟨⟨by decide +kernel, by decide +kernel⟩, List.mem_of_getElem? (i := 788) (by decide +kernel), List.mem_of_getElem? (i := 1083) (by decide +kernel), List.mem_of_getElem? (i := 1084) (by decide +kernel)⟩
theorem lw_p56 : lw_okq (⟨"BaileyChainModel", "copySeries", "([JII)I"⟩, 32) := ⟨⟨by decide +kernel, by decide +kernel⟩, List.mem_of_getElem? (i := 788) (by decide +kernel), List.mem_of_getElem? (i := 1099) (by decide +kernel), List.mem_of_getElem? (i := 1100) (by decide +kernel)⟩
theorem lw_p57 : lw_okq (⟨"BaileyChainModel", "sumWeighted", "([J)V"⟩, 32) := ⟨⟨by decide +kernel, by decide +kernel⟩, List.mem_of_getElem? (i := 788) (by decide +kernel), List.mem_of_getElem? (i := 1111) (by decide +kernel), List.mem_of_getElem? (i := 1112) (by decide +kernel)⟩
theorem lw_p58 : lw_okq (⟨"BaileyChainModel", "isNext", "()Z"⟩, 32) := ⟨⟨by decide +kernel, by decide +kernel⟩, List.mem_of_getElem? (i := 788) (by decide +kernel), List.mem_of_getElem? (i := 1129) (by decide +kernel), List.mem_of_getElem? (i := 1130) (by decide +kernel)⟩
theorem lw_p59 : lw_okq (⟨"BaileyChainModel", "wordInInput", "()I"⟩, 32) := ⟨⟨by decide +kernel, by decide +kernel⟩, List.mem_of_getElem? (i := 788) (by decide +kernel), List.mem_of_getElem? (i := 1137) (by decide +kernel), List.mem_of_getElem? (i := 1138) (by decide +kernel)⟩
theorem lw_p60 : lw_okq (⟨"BaileyChainModel", "passes", "(II)Z"⟩, 32) := ⟨⟨by decide +kernel, by decide +kernel⟩, List.mem_of_getElem? (i := 788) (by decide +kernel), List.mem_of_getElem? (i := 1141) (by decide +kernel), List.mem_of_getElem? (i := 1142) (by decide +kernel)⟩
theorem lw_p61 : lw_okq (⟨"BaileyChainModel", "partCount", "(I)I"⟩, 32) := ⟨⟨by decide +kernel, by decide +kernel⟩, List.mem_of_getElem? (i := 788) (by decide +kernel), List.mem_of_getElem? (i := 1145) (by decide +kernel), List.mem_of_getElem? (i := 1146) (by decide +kernel)⟩
theorem lw_p62 : lw_okq (⟨"BaileyChainModel", "partAt", "(II)I"⟩, 32) := ⟨⟨by decide +kernel, by decide +kernel⟩, List.mem_of_getElem? (i := 788) (by decide +kernel), List.mem_of_getElem? (i := 1149) (by decide +kernel), List.mem_of_getElem? (i := 1150) (by decide +kernel)⟩
theorem lw_p63 : lw_okq (⟨"BaileyChainModel", "isSelfConjugate", "(I)Z"⟩, 32) := ⟨⟨by decide +kernel, by decide +kernel⟩, List.mem_of_getElem? (i := 788) (by decide +kernel), List.mem_of_getElem? (i := 1153) (by decide +kernel), List.mem_of_getElem? (i := 1154) (by decide +kernel)⟩
def lw_privs_4 : List (MethodName × Nat) := [(⟨"BaileyChainModel", "makeZero", "([J)V"⟩, 32), (⟨"BaileyChainModel", "shiftBy", "([JI)V"⟩, 32), (⟨"BaileyChainModel", "makeOne", "([J)V"⟩, 32), (⟨"BaileyChainModel", "isRankedBefore", "(II)Z"⟩, 32), (⟨"BaileyChainModel", "replace", "([JII)I"⟩, 32), (⟨"BaileyChainModel", "findBeta", "()Z"⟩, 32), (⟨"BaileyChainModel", "loadWeighted", "([JI[J)V"⟩, 32), (⟨"BaileyChainModel", "remembe\x72", "()V"⟩, 32), (⟨"BaileyChainModel", "copySeries", "([JII)I"⟩, 32), (⟨"BaileyChainModel", "sumWeighted", "([J)V"⟩, 32), (⟨"BaileyChainModel", "isNext", "()Z"⟩, 32), (⟨"BaileyChainModel", "wordInInput", "()I"⟩, 32), (⟨"BaileyChainModel", "passes", "(II)Z"⟩, 32), (⟨"BaileyChainModel", "partCount", "(I)I"⟩, 32), (⟨"BaileyChainModel", "partAt", "(II)I"⟩, 32), (⟨"BaileyChainModel", "isSelfConjugate", "(I)Z"⟩, 32)]
theorem lw_r4 : ∀ q ∈ lw_privs_4, lw_okq q := List.forall_mem_cons.mpr ⟨lw_p48, List.forall_mem_cons.mpr ⟨lw_p49, List.forall_mem_cons.mpr ⟨lw_p50, List.forall_mem_cons.mpr ⟨lw_p51, List.forall_mem_cons.mpr ⟨lw_p52, List.forall_mem_cons.mpr ⟨lw_p53, List.forall_mem_cons.mpr ⟨lw_p54, List.forall_mem_cons.mpr ⟨lw_p55, List.forall_mem_cons.mpr ⟨lw_p56, List.forall_mem_cons.mpr ⟨lw_p57, List.forall_mem_cons.mpr ⟨lw_p58, List.forall_mem_cons.mpr ⟨lw_p59, List.forall_mem_cons.mpr ⟨lw_p60, List.forall_mem_cons.mpr ⟨lw_p61, List.forall_mem_cons.mpr ⟨lw_p62, List.forall_mem_cons.mpr ⟨lw_p63, fun _ h => absurd h List.not_mem_nil⟩⟩⟩⟩⟩⟩⟩⟩⟩⟩⟩⟩⟩⟩⟩⟩
theorem lw_p64 : lw_okq (⟨"BaileyChainModel", "readsSeries", "()Z"⟩, 32) := ⟨⟨by decide +kernel, by decide +kernel⟩, List.mem_of_getElem? (i := 788) (by decide +kernel), List.mem_of_getElem? (i := 1173) (by decide +kernel), List.mem_of_getElem? (i := 1174) (by decide +kernel)⟩
theorem lw_p65 : lw_okq (⟨"BaileyChainModel", "here", "()I"⟩, 32) := ⟨⟨by decide +kernel, by decide +kernel⟩, List.mem_of_getElem? (i := 788) (by decide +kernel), List.mem_of_getElem? (i := 1177) (by decide +kernel), List.mem_of_getElem? (i := 1178) (by decide +kernel)⟩
theorem lw_p66 : lw_okq (⟨"BaileyChainModel", "readsTerm", "(I)Z"⟩, 32) := ⟨⟨by decide +kernel, by decide +kernel⟩, List.mem_of_getElem? (i := 788) (by decide +kernel), List.mem_of_getElem? (i := 1181) (by decide +kernel), List.mem_of_getElem? (i := 1182) (by decide +kernel)⟩
theorem lw_p67 : lw_okq (⟨"BaileyChainModel", "readNumbe\x72", "(I)I"⟩, 32) := ⟨⟨by decide +kernel, by decide +kernel⟩, List.mem_of_getElem? (i := 788) (by decide +kernel), List.mem_of_getElem? (i := 1185) (by decide +kernel), List.mem_of_getElem? (i := 1186) (by decide +kernel)⟩
theorem lw_p68 : lw_okq (⟨"BaileyChainModel", "isDigit", "()Z"⟩, 32) := ⟨⟨by decide +kernel, by decide +kernel⟩, List.mem_of_getElem? (i := 788) (by decide +kernel), List.mem_of_getElem? (i := 1189) (by decide +kernel), List.mem_of_getElem? (i := 1190) (by decide +kernel)⟩
theorem lw_p69 : lw_okq (⟨"BaileyChainModel", "write", "(I)V"⟩, 32) := ⟨⟨by decide +kernel, by decide +kernel⟩, List.mem_of_getElem? (i := 788) (by decide +kernel), List.mem_of_getElem? (i := 1199) (by decide +kernel), List.mem_of_getElem? (i := 1200) (by decide +kernel)⟩
theorem lw_p70 : lw_okq (⟨"BaileyChainModel", "writeNumbe\x72", "(J)V"⟩, 32) := ⟨⟨by decide +kernel, by decide +kernel⟩, List.mem_of_getElem? (i := 788) (by decide +kernel), List.mem_of_getElem? (i := 1203) (by decide +kernel), List.mem_of_getElem? (i := 1204) (by decide +kernel)⟩
theorem lw_p71 : lw_okq (⟨"BaileyChainModel", "passState", "(Z)V"⟩, 32) := ⟨⟨by decide +kernel, by decide +kernel⟩, List.mem_of_getElem? (i := 788) (by decide +kernel), List.mem_of_getElem? (i := 1246) (by decide +kernel), List.mem_of_getElem? (i := 1247) (by decide +kernel)⟩
theorem lw_p72 : lw_okq (⟨"BaileyChainModel", "pass", "(J)J"⟩, 32) := ⟨⟨by decide +kernel, by decide +kernel⟩, List.mem_of_getElem? (i := 788) (by decide +kernel), List.mem_of_getElem? (i := 1250) (by decide +kernel), List.mem_of_getElem? (i := 1251) (by decide +kernel)⟩
theorem lw_p73 : lw_okq (⟨"BaileyChainModel", "passAll", "([J)V"⟩, 32) := ⟨⟨by decide +kernel, by decide +kernel⟩, List.mem_of_getElem? (i := 788) (by decide +kernel), List.mem_of_getElem? (i := 1254) (by decide +kernel), List.mem_of_getElem? (i := 1255) (by decide +kernel)⟩
def lw_privs_5 : List (MethodName × Nat) := [(⟨"BaileyChainModel", "readsSeries", "()Z"⟩, 32), (⟨"BaileyChainModel", "here", "()I"⟩, 32), (⟨"BaileyChainModel", "readsTerm", "(I)Z"⟩, 32), (⟨"BaileyChainModel", "readNumbe\x72", "(I)I"⟩, 32), (⟨"BaileyChainModel", "isDigit", "()Z"⟩, 32), (⟨"BaileyChainModel", "write", "(I)V"⟩, 32), (⟨"BaileyChainModel", "writeNumbe\x72", "(J)V"⟩, 32), (⟨"BaileyChainModel", "passState", "(Z)V"⟩, 32), (⟨"BaileyChainModel", "pass", "(J)J"⟩, 32), (⟨"BaileyChainModel", "passAll", "([J)V"⟩, 32)]
theorem lw_r5 : ∀ q ∈ lw_privs_5, lw_okq q := List.forall_mem_cons.mpr ⟨lw_p64, List.forall_mem_cons.mpr ⟨lw_p65, List.forall_mem_cons.mpr ⟨lw_p66, List.forall_mem_cons.mpr ⟨lw_p67, List.forall_mem_cons.mpr ⟨lw_p68, List.forall_mem_cons.mpr ⟨lw_p69, List.forall_mem_cons.mpr ⟨lw_p70, List.forall_mem_cons.mpr ⟨lw_p71, List.forall_mem_cons.mpr ⟨lw_p72, List.forall_mem_cons.mpr ⟨lw_p73, fun _ h => absurd h List.not_mem_nil⟩⟩⟩⟩⟩⟩⟩⟩⟩⟩
def lw_privs : List (MethodName × Nat) := lw_privs_1 ++ (lw_privs_2 ++ (lw_privs_3 ++ (lw_privs_4 ++ (lw_privs_5))))
def lw_tbl : List Cond := k2_sels lw_privs ++ tables_1
theorem lw_privs_ok : ∀ q ∈ lw_privs, lw_okq q := by
  show ∀ q ∈ lw_privs_1 ++ (lw_privs_2 ++ (lw_privs_3 ++ (lw_privs_4 ++ (lw_privs_5)))), lw_okq q
  exact List.forall_mem_append.mpr ⟨lw_r1, List.forall_mem_append.mpr ⟨lw_r2, List.forall_mem_append.mpr ⟨lw_r3, List.forall_mem_append.mpr ⟨lw_r4, lw_r5⟩⟩⟩⟩

def RX0 : String := "BaileyChain$Input"
def TX0 : u_T := fun k => match k with
  | 0 => ("BaileyChain$Input", "bytes", "[B", true)
  | 1 => ("BaileyChain$Input", "length", "I", false)
  | _ => ("BaileyChain$Input", "position", "I", false)
def tyX0 : Nat → FieldType := fun k => match k with
  | 0 => .array .byte
  | 1 => .int
  | _ => .int
abbrev wsX00 : List Cond := u_ws RX0 TX0 3
theorem nmX0 : ∀ a, a < 3 → ∀ b, b < 3 → a ≠ b → (TX0 a).2.1 ≠ (TX0 b).2.1 := by decide +kernel
theorem tyX0_ok : ∀ k, k < 3 → parseFieldDescriptor (TX0 k).2.2.1 = some (tyX0 k) := by decide +kernel
abbrev cX0_init : ByteArray := prog_2_method_1_code
def yX0_init : MethodName := ⟨RX0, "<init>", "()V"⟩
abbrev cX0_put : ByteArray := prog_2_method_2_code
def yX0_put : MethodName := ⟨RX0, "put", "(I)V"⟩
abbrev cX0_holds : ByteArray := prog_2_method_3_code
def yX0_holds : MethodName := ⟨RX0, "holds", "(Ljava/lang/String;)Z"⟩
abbrev cX0_readSeries : ByteArray := prog_2_method_4_code
def yX0_readSeries : MethodName := ⟨RX0, "readSeries", "(LBaileyChain$Wide;)Z"⟩
abbrev cX0_readTerm : ByteArray := prog_2_method_5_code
def yX0_readTerm : MethodName := ⟨RX0, "readTerm", "(LBaileyChain$Wide;Z)Z"⟩
abbrev cX0_readExponent : ByteArray := prog_2_method_6_code
def yX0_readExponent : MethodName := ⟨RX0, "readExponent", "()I"⟩
abbrev cX0_readDigits : ByteArray := prog_2_method_7_code
def yX0_readDigits : MethodName := ⟨RX0, "readDigits", "(I)I"⟩
abbrev cX0_takes : ByteArray := prog_2_method_8_code
def yX0_takes : MethodName := ⟨RX0, "takes", "(C)Z"⟩
def RX1 : String := "BaileyChain$Output"
def TX1 : u_T := fun k => match k with
  | 0 => ("BaileyChain$Output", "bytes", "[B", true)
  | _ => ("BaileyChain$Output", "length", "I", false)
def tyX1 : Nat → FieldType := fun k => match k with
  | 0 => .array .byte
  | _ => .int
abbrev wsX10 : List Cond := u_ws RX1 TX1 2
theorem nmX1 : ∀ a, a < 2 → ∀ b, b < 2 → a ≠ b → (TX1 a).2.1 ≠ (TX1 b).2.1 := by decide +kernel
theorem tyX1_ok : ∀ k, k < 2 → parseFieldDescriptor (TX1 k).2.2.1 = some (tyX1 k) := by decide +kernel
abbrev cX1_init : ByteArray := prog_3_method_1_code
def yX1_init : MethodName := ⟨RX1, "<init>", "()V"⟩
abbrev cX1_writeSeries : ByteArray := prog_3_method_2_code
def yX1_writeSeries : MethodName := ⟨RX1, "writeSeries", "([II)V"⟩
abbrev cX1_writeTerm : ByteArray := prog_3_method_3_code
def yX1_writeTerm : MethodName := ⟨RX1, "writeTerm", "(II)V"⟩
abbrev cX1_writeNumber : ByteArray := prog_3_method_4_code
def yX1_writeNumber : MethodName := ⟨RX1, "writeNumbe\x72", "(I)V"⟩
abbrev cX1_put : ByteArray := prog_3_method_5_code
def yX1_put : MethodName := ⟨RX1, "put", "(I)V"⟩
def RX2 : String := "BaileyChain$Pai\x72"
def TX2 : u_T := fun k => match k with
  | 0 => ("BaileyChain$Pai\x72", "\x72", "I", false)
  | 1 => ("BaileyChain$Pai\x72", "alpha", "[[I", true)
  | _ => ("BaileyChain$Pai\x72", "beta", "[[I", true)
def tyX2 : Nat → FieldType := fun k => match k with
  | 0 => .int
  | 1 => .array (.array .int)
  | _ => .array (.array .int)
abbrev wsX20 : List Cond := u_ws RX2 TX2 3
theorem nmX2 : ∀ a, a < 3 → ∀ b, b < 3 → a ≠ b → (TX2 a).2.1 ≠ (TX2 b).2.1 := by decide +kernel
theorem tyX2_ok : ∀ k, k < 3 → parseFieldDescriptor (TX2 k).2.2.1 = some (tyX2 k) := by decide +kernel
abbrev cX2_init : ByteArray := prog_4_method_1_code
def yX2_init : MethodName := ⟨RX2, "<init>", "()V"⟩
abbrev cX2_copyFrom : ByteArray := prog_4_method_2_code
def yX2_copyFrom : MethodName := ⟨RX2, "copyFrom", "(LBaileyChain$Pair;)V"⟩
abbrev cX2_setUnit : ByteArray := prog_4_method_3_code
def yX2_setUnit : MethodName := ⟨RX2, "setUnit", "(IILBaileyChain$Wide;LBaileyChain$Wide;)V"⟩
abbrev cX2_deriveBeta : ByteArray := prog_4_method_4_code
def yX2_deriveBeta : MethodName := ⟨RX2, "deriveBeta", "(ILBaileyChain$Wide;LBaileyChain$Wide;)Z"⟩
abbrev cX2_deriveAlpha : ByteArray := prog_4_method_5_code
def yX2_deriveAlpha : MethodName := ⟨RX2, "deriveAlpha", "(ILBaileyChain$Wide;LBaileyChain$Wide;)Z"⟩
abbrev cX2_setRelationTerm : ByteArray := prog_4_method_6_code
def yX2_setRelationTerm : MethodName := ⟨RX2, "setRelationTerm", "(LBaileyChain$Wide;III)V"⟩
abbrev cX2_setNextOf : ByteArray := prog_4_method_7_code
def yX2_setNextOf : MethodName := ⟨RX2, "setNextOf", "(LBaileyChain$Pair;ILBaileyChain$Wide;LBaileyChain$Wide;)Z"⟩
def RX3 : String := "BaileyChain$Partitions"
def TX3 : u_T := fun k => match k with
  | 0 => ("BaileyChain$Partitions", "places", "[B", true)
  | _ => ("BaileyChain$Partitions", "count", "I", false)
def tyX3 : Nat → FieldType := fun k => match k with
  | 0 => .array .byte
  | _ => .int
abbrev wsX30 : List Cond := u_ws RX3 TX3 2
theorem nmX3 : ∀ a, a < 2 → ∀ b, b < 2 → a ≠ b → (TX3 a).2.1 ≠ (TX3 b).2.1 := by decide +kernel
theorem tyX3_ok : ∀ k, k < 2 → parseFieldDescriptor (TX3 k).2.2.1 = some (tyX3 k) := by decide +kernel
abbrev cX3_init : ByteArray := prog_5_method_1_code
def yX3_init : MethodName := ⟨RX3, "<init>", "()V"⟩
abbrev cX3_at : ByteArray := prog_5_method_2_code
def yX3_at : MethodName := ⟨RX3, "at", "(II)I"⟩
abbrev cX3_put : ByteArray := prog_5_method_3_code
def yX3_put : MethodName := ⟨RX3, "put", "(III)V"⟩
abbrev cX3_fillWith : ByteArray := prog_5_method_4_code
def yX3_fillWith : MethodName := ⟨RX3, "fillWith", "(I)V"⟩
abbrev cX3_fillFrom : ByteArray := prog_5_method_5_code
def yX3_fillFrom : MethodName := ⟨RX3, "fillFrom", "(IIII)V"⟩
abbrev cX3_makeNext : ByteArray := prog_5_method_6_code
def yX3_makeNext : MethodName := ⟨RX3, "makeNext", "(I)Z"⟩
abbrev cX3_lastPlaceAboveOne : ByteArray := prog_5_method_7_code
def yX3_lastPlaceAboveOne : MethodName := ⟨RX3, "lastPlaceAboveOne", "(I)I"⟩
abbrev cX3_keepOnly : ByteArray := prog_5_method_8_code
def yX3_keepOnly : MethodName := ⟨RX3, "keepOnly", "(I)V"⟩
abbrev cX3_passes : ByteArray := prog_5_method_9_code
def yX3_passes : MethodName := ⟨RX3, "passes", "(II)Z"⟩
abbrev cX3_hasGaps : ByteArray := prog_5_method_10_code
def yX3_hasGaps : MethodName := ⟨RX3, "hasGaps", "(II)Z"⟩
abbrev cX3_hasOddPartsOnly : ByteArray := prog_5_method_11_code
def yX3_hasOddPartsOnly : MethodName := ⟨RX3, "hasOddPartsOnly", "(I)Z"⟩
abbrev cX3_countAtLeast : ByteArray := prog_5_method_12_code
def yX3_countAtLeast : MethodName := ⟨RX3, "countAtLeast", "(II)I"⟩
abbrev cX3_isSelfConjugate : ByteArray := prog_5_method_13_code
def yX3_isSelfConjugate : MethodName := ⟨RX3, "isSelfConjugate", "(I)Z"⟩
def RX4 : String := "BaileyChain$Slot"
def TX4 : u_T := fun k => match k with
  | 0 => ("BaileyChain$Slot", "elements", "[J", true)
  | 1 => ("BaileyChain$Slot", "held", "Z", false)
  | 2 => ("BaileyChain$Slot", "type", "I", false)
  | _ => ("BaileyChain$Slot", "size", "I", false)
def tyX4 : Nat → FieldType := fun k => match k with
  | 0 => .array .long
  | 1 => .boolean
  | 2 => .int
  | _ => .int
abbrev wsX40 : List Cond := u_ws RX4 TX4 4
theorem nmX4 : ∀ a, a < 4 → ∀ b, b < 4 → a ≠ b → (TX4 a).2.1 ≠ (TX4 b).2.1 := by decide +kernel
theorem tyX4_ok : ∀ k, k < 4 → parseFieldDescriptor (TX4 k).2.2.1 = some (tyX4 k) := by decide +kernel
abbrev cX4_init : ByteArray := prog_6_method_1_code
def yX4_init : MethodName := ⟨RX4, "<init>", "()V"⟩
abbrev cX4_fillNew : ByteArray := prog_6_method_2_code
def yX4_fillNew : MethodName := ⟨RX4, "fillNew", "(II)V"⟩
abbrev cX4_hasIndex : ByteArray := prog_6_method_3_code
def yX4_hasIndex : MethodName := ⟨RX4, "hasIndex", "(I)Z"⟩
abbrev cX4_hasRange : ByteArray := prog_6_method_4_code
def yX4_hasRange : MethodName := ⟨RX4, "hasRange", "(II)Z"⟩
abbrev cX4_narrowed : ByteArray := prog_6_method_5_code
def yX4_narrowed : MethodName := ⟨RX4, "narrowed", "(J)J"⟩
def RX5 : String := "BaileyChain$State"
def TX5 : u_T := fun k => match k with
  | 0 => ("BaileyChain$State", "length", "I", false)
  | 1 => ("BaileyChain$State", "registers", "[[I", true)
  | 2 => ("BaileyChain$State", "pai\x72", "LBaileyChain$Pair;", true)
  | 3 => ("BaileyChain$State", "steps", "I", false)
  | 4 => ("BaileyChain$State", "remembered", "[LBaileyChain$Pair;", true)
  | _ => ("BaileyChain$State", "rememberedCount", "I", false)
def tyX5 : Nat → FieldType := fun k => match k with
  | 0 => .int
  | 1 => .array (.array .int)
  | 2 => .object "BaileyChain$Pai\x72"
  | 3 => .int
  | 4 => .array (.object "BaileyChain$Pai\x72")
  | _ => .int
abbrev wsX50 : List Cond := u_ws RX5 TX5 6
theorem nmX5 : ∀ a, a < 6 → ∀ b, b < 6 → a ≠ b → (TX5 a).2.1 ≠ (TX5 b).2.1 := by decide +kernel
theorem tyX5_ok : ∀ k, k < 6 → parseFieldDescriptor (TX5 k).2.2.1 = some (tyX5 k) := by decide +kernel
abbrev cX5_init : ByteArray := prog_7_method_1_code
def yX5_init : MethodName := ⟨RX5, "<init>", "()V"⟩
abbrev cX5_copyFrom : ByteArray := prog_7_method_2_code
def yX5_copyFrom : MethodName := ⟨RX5, "copyFrom", "(LBaileyChain$State;)V"⟩
abbrev cX5_setPair : ByteArray := prog_7_method_3_code
def yX5_setPair : MethodName := ⟨RX5, "setPai\x72", "(LBaileyChain$Pair;)V"⟩
abbrev cX5_goOnTo : ByteArray := prog_7_method_4_code
def yX5_goOnTo : MethodName := ⟨RX5, "goOnTo", "(LBaileyChain$Pair;)V"⟩
abbrev cX5_forgetOldest : ByteArray := prog_7_method_5_code
def yX5_forgetOldest : MethodName := ⟨RX5, "forgetOldest", "()V"⟩
abbrev cX5_goBack : ByteArray := prog_7_method_6_code
def yX5_goBack : MethodName := ⟨RX5, "goBack", "()V"⟩
def RX6 : String := "BaileyChain$Wide"
def TX6 : u_T := fun k => match k with
  | 0 => ("BaileyChain$Wide", "coefficients", "[J", true)
  | _ => ("BaileyChain$Wide", "length", "I", false)
def tyX6 : Nat → FieldType := fun k => match k with
  | 0 => .array .long
  | _ => .int
abbrev wsX60 : List Cond := u_ws RX6 TX6 2
theorem nmX6 : ∀ a, a < 2 → ∀ b, b < 2 → a ≠ b → (TX6 a).2.1 ≠ (TX6 b).2.1 := by decide +kernel
theorem tyX6_ok : ∀ k, k < 2 → parseFieldDescriptor (TX6 k).2.2.1 = some (tyX6 k) := by decide +kernel
abbrev cX6_init : ByteArray := prog_8_method_1_code
def yX6_init : MethodName := ⟨RX6, "<init>", "()V"⟩
abbrev cX6_setZero : ByteArray := prog_8_method_2_code
def yX6_setZero : MethodName := ⟨RX6, "setZero", "(I)V"⟩
abbrev cX6_plusTerm : ByteArray := prog_8_method_3_code
def yX6_plusTerm : MethodName := ⟨RX6, "plusTerm", "(II)V"⟩
abbrev cX6_plusRow : ByteArray := prog_8_method_4_code
def yX6_plusRow : MethodName := ⟨RX6, "plusRow", "([II)V"⟩
abbrev cX6_plusShifted : ByteArray := prog_8_method_5_code
def yX6_plusShifted : MethodName := ⟨RX6, "plusShifted", "([II)V"⟩
abbrev cX6_plusWide : ByteArray := prog_8_method_6_code
def yX6_plusWide : MethodName := ⟨RX6, "plusWide", "(LBaileyChain$Wide;I)V"⟩
abbrev cX6_setProduct : ByteArray := prog_8_method_7_code
def yX6_setProduct : MethodName := ⟨RX6, "setProduct", "([I[II)V"⟩
abbrev cX6_setQuotient : ByteArray := prog_8_method_8_code
def yX6_setQuotient : MethodName := ⟨RX6, "setQuotient", "([I[II)Z"⟩
abbrev cX6_timesFactor : ByteArray := prog_8_method_9_code
def yX6_timesFactor : MethodName := ⟨RX6, "timesFacto\x72", "(I)V"⟩
abbrev cX6_overFactor : ByteArray := prog_8_method_10_code
def yX6_overFactor : MethodName := ⟨RX6, "overFacto\x72", "(I)V"⟩
abbrev cX6_timesFactorToThe : ByteArray := prog_8_method_11_code
def yX6_timesFactorToThe : MethodName := ⟨RX6, "timesFactorToThe", "(II)V"⟩
abbrev cX6_timesFactors : ByteArray := prog_8_method_12_code
def yX6_timesFactors : MethodName := ⟨RX6, "timesFactors", "(II)V"⟩
abbrev cX6_overFactors : ByteArray := prog_8_method_13_code
def yX6_overFactors : MethodName := ⟨RX6, "overFactors", "(II)V"⟩
abbrev cX6_fits : ByteArray := prog_8_method_14_code
def yX6_fits : MethodName := ⟨RX6, "fits", "()Z"⟩
abbrev cX6_isInRange : ByteArray := prog_8_method_15_code
def yX6_isInRange : MethodName := ⟨RX6, "isInRange", "(J)Z"⟩
abbrev cX6_writeTo : ByteArray := prog_8_method_16_code
def yX6_writeTo : MethodName := ⟨RX6, "writeTo", "([I)V"⟩
def RX7 : String := "BaileyChain"
def TX7 : u_T := fun k => match k with
  | 0 => ("BaileyChain", "state", "LBaileyChain$State;", true)
  | 1 => ("BaileyChain", "saved", "LBaileyChain$State;", true)
  | 2 => ("BaileyChain", "hasSnapshot", "Z", false)
  | 3 => ("BaileyChain", "draft", "LBaileyChain$Pair;", true)
  | 4 => ("BaileyChain", "result", "LBaileyChain$Wide;", true)
  | 5 => ("BaileyChain", "term", "LBaileyChain$Wide;", true)
  | 6 => ("BaileyChain", "ways", "[J", true)
  | 7 => ("BaileyChain", "partitions", "LBaileyChain$Partitions;", true)
  | 8 => ("BaileyChain", "input", "LBaileyChain$Input;", true)
  | 9 => ("BaileyChain", "output", "LBaileyChain$Output;", true)
  | _ => ("BaileyChain", "slots", "[LBaileyChain$Slot;", true)
def tyX7 : Nat → FieldType := fun k => match k with
  | 0 => .object "BaileyChain$State"
  | 1 => .object "BaileyChain$State"
  | 2 => .boolean
  | 3 => .object "BaileyChain$Pai\x72"
  | 4 => .object "BaileyChain$Wide"
  | 5 => .object "BaileyChain$Wide"
  | 6 => .array .long
  | 7 => .object "BaileyChain$Partitions"
  | 8 => .object "BaileyChain$Input"
  | 9 => .object "BaileyChain$Output"
  | _ => .array (.object "BaileyChain$Slot")
abbrev wsX70 : List Cond := u_ws RX7 TX7 11
theorem nmX7 : ∀ a, a < 11 → ∀ b, b < 11 → a ≠ b → (TX7 a).2.1 ≠ (TX7 b).2.1 := by decide +kernel
theorem tyX7_ok : ∀ k, k < 11 → parseFieldDescriptor (TX7 k).2.2.1 = some (tyX7 k) := by decide +kernel
abbrev cX7_init : ByteArray := prog_1_method_1_code
def yX7_init : MethodName := ⟨RX7, "<init>", "()V"⟩
abbrev cX7_reset : ByteArray := prog_1_method_2_code
def yX7_reset : MethodName := ⟨RX7, "reset", "(I)I"⟩
abbrev cX7_precision : ByteArray := prog_1_method_3_code
def yX7_precision : MethodName := ⟨RX7, "precision", "()I"⟩
abbrev cX7_setCoefficient : ByteArray := prog_1_method_4_code
def yX7_setCoefficient : MethodName := ⟨RX7, "setCoefficient", "(III)I"⟩
abbrev cX7_coefficient : ByteArray := prog_1_method_5_code
def yX7_coefficient : MethodName := ⟨RX7, "coefficient", "(II)J"⟩
abbrev cX7_order : ByteArray := prog_1_method_6_code
def yX7_order : MethodName := ⟨RX7, "orde\x72", "(I)I"⟩
abbrev cX7_degree : ByteArray := prog_1_method_7_code
def yX7_degree : MethodName := ⟨RX7, "degree", "(I)I"⟩
abbrev cX7_add : ByteArray := prog_1_method_8_code
def yX7_add : MethodName := ⟨RX7, "add", "(IIII)I"⟩
abbrev cX7_multiply : ByteArray := prog_1_method_9_code
def yX7_multiply : MethodName := ⟨RX7, "multiply", "(III)I"⟩
abbrev cX7_divide : ByteArray := prog_1_method_10_code
def yX7_divide : MethodName := ⟨RX7, "divide", "(III)I"⟩
abbrev cX7_shift : ByteArray := prog_1_method_11_code
def yX7_shift : MethodName := ⟨RX7, "shift", "(III)I"⟩
abbrev cX7_substitute : ByteArray := prog_1_method_12_code
def yX7_substitute : MethodName := ⟨RX7, "substitute", "(III)I"⟩
abbrev cX7_product : ByteArray := prog_1_method_13_code
def yX7_product : MethodName := ⟨RX7, "product", "(IIII)I"⟩
abbrev cX7_firstDifference : ByteArray := prog_1_method_14_code
def yX7_firstDifference : MethodName := ⟨RX7, "firstDifference", "(II)I"⟩
abbrev cX7_valueAt : ByteArray := prog_1_method_15_code
def yX7_valueAt : MethodName := ⟨RX7, "valueAt", "(II)I"⟩
abbrev cX7_statistic : ByteArray := prog_1_method_16_code
def yX7_statistic : MethodName := ⟨RX7, "statistic", "(II)I"⟩
abbrev cX7_registerByRank : ByteArray := prog_1_method_17_code
def yX7_registerByRank : MethodName := ⟨RX7, "registerByRank", "(I)I"⟩
abbrev cX7_unitPair : ByteArray := prog_1_method_18_code
def yX7_unitPair : MethodName := ⟨RX7, "unitPai\x72", "(I)I"⟩
abbrev cX7_setAlpha : ByteArray := prog_1_method_19_code
def yX7_setAlpha : MethodName := ⟨RX7, "setAlpha", "(II)I"⟩
abbrev cX7_setBeta : ByteArray := prog_1_method_20_code
def yX7_setBeta : MethodName := ⟨RX7, "setBeta", "(II)I"⟩
abbrev cX7_step : ByteArray := prog_1_method_21_code
def yX7_step : MethodName := ⟨RX7, "step", "()I"⟩
abbrev cX7_undoStep : ByteArray := prog_1_method_22_code
def yX7_undoStep : MethodName := ⟨RX7, "undoStep", "()I"⟩
abbrev cX7_chainLength : ByteArray := prog_1_method_23_code
def yX7_chainLength : MethodName := ⟨RX7, "chainLength", "()I"⟩
abbrev cX7_copyAlpha : ByteArray := prog_1_method_24_code
def yX7_copyAlpha : MethodName := ⟨RX7, "copyAlpha", "(II)I"⟩
abbrev cX7_copyBeta : ByteArray := prog_1_method_25_code
def yX7_copyBeta : MethodName := ⟨RX7, "copyBeta", "(II)I"⟩
abbrev cX7_sumSide : ByteArray := prog_1_method_26_code
def yX7_sumSide : MethodName := ⟨RX7, "sumSide", "(I)I"⟩
abbrev cX7_productSide : ByteArray := prog_1_method_27_code
def yX7_productSide : MethodName := ⟨RX7, "productSide", "(I)I"⟩
abbrev cX7_countPartitions : ByteArray := prog_1_method_28_code
def yX7_countPartitions : MethodName := ⟨RX7, "countPartitions", "(III)J"⟩
abbrev cX7_listPartitions : ByteArray := prog_1_method_29_code
def yX7_listPartitions : MethodName := ⟨RX7, "listPartitions", "(I)I"⟩
abbrev cX7_filterPartitions : ByteArray := prog_1_method_30_code
def yX7_filterPartitions : MethodName := ⟨RX7, "filterPartitions", "()I"⟩
abbrev cX7_part : ByteArray := prog_1_method_31_code
def yX7_part : MethodName := ⟨RX7, "part", "(II)I"⟩
abbrev cX7_append : ByteArray := prog_1_method_32_code
def yX7_append : MethodName := ⟨RX7, "append", "(II)I"⟩
abbrev cX7_clearInput : ByteArray := prog_1_method_33_code
def yX7_clearInput : MethodName := ⟨RX7, "clearInput", "()I"⟩
abbrev cX7_parseSeries : ByteArray := prog_1_method_34_code
def yX7_parseSeries : MethodName := ⟨RX7, "parseSeries", "(I)I"⟩
abbrev cX7_format : ByteArray := prog_1_method_35_code
def yX7_format : MethodName := ⟨RX7, "format", "(I)I"⟩
abbrev cX7_outputByte : ByteArray := prog_1_method_36_code
def yX7_outputByte : MethodName := ⟨RX7, "outputByte", "(I)I"⟩
abbrev cX7_allocate : ByteArray := prog_1_method_37_code
def yX7_allocate : MethodName := ⟨RX7, "allocate", "(III)I"⟩
abbrev cX7_release : ByteArray := prog_1_method_38_code
def yX7_release : MethodName := ⟨RX7, "release", "(I)I"⟩
abbrev cX7_putElement : ByteArray := prog_1_method_39_code
def yX7_putElement : MethodName := ⟨RX7, "putElement", "(IIJ)I"⟩
abbrev cX7_element : ByteArray := prog_1_method_40_code
def yX7_element : MethodName := ⟨RX7, "element", "(II)J"⟩
abbrev cX7_copyElements : ByteArray := prog_1_method_41_code
def yX7_copyElements : MethodName := ⟨RX7, "copyElements", "(IIIII)I"⟩
abbrev cX7_compareWithArray : ByteArray := prog_1_method_42_code
def yX7_compareWithArray : MethodName := ⟨RX7, "compareWithArray", "(II)I"⟩
abbrev cX7_snapshot : ByteArray := prog_1_method_43_code
def yX7_snapshot : MethodName := ⟨RX7, "snapshot", "()I"⟩
abbrev cX7_restore : ByteArray := prog_1_method_44_code
def yX7_restore : MethodName := ⟨RX7, "restore", "()I"⟩
abbrev cX7_startAgain : ByteArray := prog_1_method_45_code
def yX7_startAgain : MethodName := ⟨RX7, "startAgain", "(I)V"⟩
abbrev cX7_setUnitPair : ByteArray := prog_1_method_46_code
def yX7_setUnitPair : MethodName := ⟨RX7, "setUnitPai\x72", "(I)V"⟩
abbrev cX7_setInPair : ByteArray := prog_1_method_47_code
def yX7_setInPair : MethodName := ⟨RX7, "setInPai\x72", "(IIZ)I"⟩
abbrev cX7_copyToRegister : ByteArray := prog_1_method_48_code
def yX7_copyToRegister : MethodName := ⟨RX7, "copyToRegiste\x72", "(II[[I)I"⟩
abbrev cX7_isRegister : ByteArray := prog_1_method_49_code
def yX7_isRegister : MethodName := ⟨RX7, "isRegiste\x72", "(I)Z"⟩
abbrev cX7_isPower : ByteArray := prog_1_method_50_code
def yX7_isPower : MethodName := ⟨RX7, "isPowe\x72", "(I)Z"⟩
abbrev cX7_isPairIndex : ByteArray := prog_1_method_51_code
def yX7_isPairIndex : MethodName := ⟨RX7, "isPairIndex", "(I)Z"⟩
abbrev cX7_isSlot : ByteArray := prog_1_method_52_code
def yX7_isSlot : MethodName := ⟨RX7, "isSlot", "(I)Z"⟩
abbrev cX7_isResidueSet : ByteArray := prog_1_method_53_code
def yX7_isResidueSet : MethodName := ⟨RX7, "isResidueSet", "(II)Z"⟩
abbrev cX7_isInResidueSet : ByteArray := prog_1_method_54_code
def yX7_isInResidueSet : MethodName := ⟨RX7, "isInResidueSet", "(III)Z"⟩
abbrev cX7_byteOf : ByteArray := prog_1_method_55_code
def yX7_byteOf : MethodName := ⟨RX7, "byteOf", "(II)I"⟩
abbrev cX7_keepResult : ByteArray := prog_1_method_56_code
def yX7_keepResult : MethodName := ⟨RX7, "keepResult", "(I)I"⟩
abbrev cX7_sumWithStepPowers : ByteArray := prog_1_method_57_code
def yX7_sumWithStepPowers : MethodName := ⟨RX7, "sumWithStepPowers", "([[I)V"⟩
abbrev cX7_stepPower : ByteArray := prog_1_method_58_code
def yX7_stepPower : MethodName := ⟨RX7, "stepPowe\x72", "(II)I"⟩
abbrev cX7_copyRow : ByteArray := prog_1_method_59_code
def yX7_copyRow : MethodName := ⟨RX7, "copyRow", "([I[I)V"⟩
abbrev cX7_lowestPower : ByteArray := prog_1_method_60_code
def yX7_lowestPower : MethodName := ⟨RX7, "lowestPowe\x72", "([I)I"⟩
abbrev cX7_highestPower : ByteArray := prog_1_method_61_code
def yX7_highestPower : MethodName := ⟨RX7, "highestPowe\x72", "([I)I"⟩
abbrev cX7_lowestDifference : ByteArray := prog_1_method_62_code
def yX7_lowestDifference : MethodName := ⟨RX7, "lowestDifference", "([I[I)I"⟩
abbrev cX7_countNonzero : ByteArray := prog_1_method_63_code
def yX7_countNonzero : MethodName := ⟨RX7, "countNonzero", "([I)I"⟩
abbrev cX7_countNegative : ByteArray := prog_1_method_64_code
def yX7_countNegative : MethodName := ⟨RX7, "countNegative", "([I)I"⟩
abbrev cX7_countSignChanges : ByteArray := prog_1_method_65_code
def yX7_countSignChanges : MethodName := ⟨RX7, "countSignChanges", "([I)I"⟩
abbrev cX7_largestAbsolute : ByteArray := prog_1_method_66_code
def yX7_largestAbsolute : MethodName := ⟨RX7, "largestAbsolute", "([I)I"⟩
abbrev cX7_countRecords : ByteArray := prog_1_method_67_code
def yX7_countRecords : MethodName := ⟨RX7, "countRecords", "([I)I"⟩
abbrev cX7_rankOf : ByteArray := prog_1_method_68_code
def yX7_rankOf : MethodName := ⟨RX7, "rankOf", "(I)I"⟩
abbrev cX7_comesBefore : ByteArray := prog_1_method_69_code
def yX7_comesBefore : MethodName := ⟨RX7, "comesBefore", "(II)Z"⟩
abbrev cX7_filterInInput : ByteArray := prog_1_method_70_code
def yX7_filterInInput : MethodName := ⟨RX7, "filterInInput", "()I"⟩
def RX8 : String := "BaileyChainModel"
def TX8 : u_T := fun k => match k with
  | 0 => ("BaileyChainModel", "n", "I", false)
  | 1 => ("BaileyChainModel", "\x72", "I", false)
  | 2 => ("BaileyChainModel", "length", "I", false)
  | 3 => ("BaileyChainModel", "remembered", "I", false)
  | 4 => ("BaileyChainModel", "registe\x72", "[J", true)
  | 5 => ("BaileyChainModel", "alpha", "[J", true)
  | 6 => ("BaileyChainModel", "beta", "[J", true)
  | 7 => ("BaileyChainModel", "before", "[J", true)
  | 8 => ("BaileyChainModel", "result", "[J", true)
  | 9 => ("BaileyChainModel", "facto\x72", "[J", true)
  | 10 => ("BaileyChainModel", "othe\x72", "[J", true)
  | 11 => ("BaileyChainModel", "newAlpha", "[J", true)
  | 12 => ("BaileyChainModel", "newBeta", "[J", true)
  | 13 => ("BaileyChainModel", "counts", "[J", true)
  | 14 => ("BaileyChainModel", "parts", "[I", true)
  | 15 => ("BaileyChainModel", "current", "[I", true)
  | 16 => ("BaileyChainModel", "partitions", "I", false)
  | 17 => ("BaileyChainModel", "words", "[I", true)
  | 18 => ("BaileyChainModel", "begins", "[I", true)
  | 19 => ("BaileyChainModel", "input", "[I", true)
  | 20 => ("BaileyChainModel", "output", "[I", true)
  | 21 => ("BaileyChainModel", "held", "I", false)
  | 22 => ("BaileyChainModel", "at", "I", false)
  | 23 => ("BaileyChainModel", "written", "I", false)
  | 24 => ("BaileyChainModel", "slotType", "[I", true)
  | 25 => ("BaileyChainModel", "slotSize", "[I", true)
  | 26 => ("BaileyChainModel", "elements", "[J", true)
  | 27 => ("BaileyChainModel", "moved", "[J", true)
  | 28 => ("BaileyChainModel", "saved", "[J", true)
  | 29 => ("BaileyChainModel", "curso\x72", "I", false)
  | 30 => ("BaileyChainModel", "hasSnapshot", "Z", false)
  | _ => ("BaileyChainModel", "isSaving", "Z", false)
def tyX8 : Nat → FieldType := fun k => match k with
  | 0 => .int
  | 1 => .int
  | 2 => .int
  | 3 => .int
  | 4 => .array .long
  | 5 => .array .long
  | 6 => .array .long
  | 7 => .array .long
  | 8 => .array .long
  | 9 => .array .long
  | 10 => .array .long
  | 11 => .array .long
  | 12 => .array .long
  | 13 => .array .long
  | 14 => .array .int
  | 15 => .array .int
  | 16 => .int
  | 17 => .array .int
  | 18 => .array .int
  | 19 => .array .int
  | 20 => .array .int
  | 21 => .int
  | 22 => .int
  | 23 => .int
  | 24 => .array .int
  | 25 => .array .int
  | 26 => .array .long
  | 27 => .array .long
  | 28 => .array .long
  | 29 => .int
  | 30 => .boolean
  | _ => .boolean
abbrev wsX80 : List Cond := u_ws RX8 TX8 32
theorem nmX8 : ∀ a, a < 32 → ∀ b, b < 32 → a ≠ b → (TX8 a).2.1 ≠ (TX8 b).2.1 := by decide +kernel
theorem tyX8_ok : ∀ k, k < 32 → parseFieldDescriptor (TX8 k).2.2.1 = some (tyX8 k) := by decide +kernel
abbrev cX8_isBetween : ByteArray := prog_10_method_1_code
def yX8_isBetween : MethodName := ⟨RX8, "isBetween", "(JJJ)Z"⟩
abbrev cX8_isRegister : ByteArray := prog_10_method_2_code
def yX8_isRegister : MethodName := ⟨RX8, "isRegiste\x72", "(I)Z"⟩
abbrev cX8_init : ByteArray := prog_10_method_3_code
def yX8_init : MethodName := ⟨RX8, "<init>", "()V"⟩
abbrev cX8_load : ByteArray := prog_10_method_4_code
def yX8_load : MethodName := ⟨RX8, "load", "([JI[J)V"⟩
abbrev cX8_makeOne : ByteArray := prog_10_method_5_code
def yX8_makeOne : MethodName := ⟨RX8, "makeOne", "([J)V"⟩
abbrev cX8_makeZero : ByteArray := prog_10_method_6_code
def yX8_makeZero : MethodName := ⟨RX8, "makeZero", "([J)V"⟩
abbrev cX8_timesBinomial : ByteArray := prog_10_method_7_code
def yX8_timesBinomial : MethodName := ⟨RX8, "timesBinomial", "([JII)V"⟩
abbrev cX8_timesPochhammer : ByteArray := prog_10_method_8_code
def yX8_timesPochhammer : MethodName := ⟨RX8, "timesPochhamme\x72", "([JIII)V"⟩
abbrev cX8_shiftBy : ByteArray := prog_10_method_9_code
def yX8_shiftBy : MethodName := ⟨RX8, "shiftBy", "([JI)V"⟩
abbrev cX8_isInRange : ByteArray := prog_10_method_10_code
def yX8_isInRange : MethodName := ⟨RX8, "isInRange", "([J)Z"⟩
abbrev cX8_nonzero : ByteArray := prog_10_method_11_code
def yX8_nonzero : MethodName := ⟨RX8, "nonzero", "([J)I"⟩
abbrev cX8_store : ByteArray := prog_10_method_12_code
def yX8_store : MethodName := ⟨RX8, "store", "(I)I"⟩
abbrev cX8_reset : ByteArray := prog_10_method_13_code
def yX8_reset : MethodName := ⟨RX8, "reset", "(I)I"⟩
abbrev cX8_precision : ByteArray := prog_10_method_14_code
def yX8_precision : MethodName := ⟨RX8, "precision", "()I"⟩
abbrev cX8_setCoefficient : ByteArray := prog_10_method_15_code
def yX8_setCoefficient : MethodName := ⟨RX8, "setCoefficient", "(III)I"⟩
abbrev cX8_coefficient : ByteArray := prog_10_method_16_code
def yX8_coefficient : MethodName := ⟨RX8, "coefficient", "(II)J"⟩
abbrev cX8_lowest : ByteArray := prog_10_method_17_code
def yX8_lowest : MethodName := ⟨RX8, "lowest", "(I)I"⟩
abbrev cX8_highest : ByteArray := prog_10_method_18_code
def yX8_highest : MethodName := ⟨RX8, "highest", "(I)I"⟩
abbrev cX8_order : ByteArray := prog_10_method_19_code
def yX8_order : MethodName := ⟨RX8, "orde\x72", "(I)I"⟩
abbrev cX8_degree : ByteArray := prog_10_method_20_code
def yX8_degree : MethodName := ⟨RX8, "degree", "(I)I"⟩
abbrev cX8_add : ByteArray := prog_10_method_21_code
def yX8_add : MethodName := ⟨RX8, "add", "(IIII)I"⟩
abbrev cX8_multiply : ByteArray := prog_10_method_22_code
def yX8_multiply : MethodName := ⟨RX8, "multiply", "(III)I"⟩
abbrev cX8_divide : ByteArray := prog_10_method_23_code
def yX8_divide : MethodName := ⟨RX8, "divide", "(III)I"⟩
abbrev cX8_shift : ByteArray := prog_10_method_24_code
def yX8_shift : MethodName := ⟨RX8, "shift", "(III)I"⟩
abbrev cX8_substitute : ByteArray := prog_10_method_25_code
def yX8_substitute : MethodName := ⟨RX8, "substitute", "(III)I"⟩
abbrev cX8_isResidueSet : ByteArray := prog_10_method_26_code
def yX8_isResidueSet : MethodName := ⟨RX8, "isResidueSet", "(II)Z"⟩
abbrev cX8_product : ByteArray := prog_10_method_27_code
def yX8_product : MethodName := ⟨RX8, "product", "(IIII)I"⟩
abbrev cX8_firstDifference : ByteArray := prog_10_method_28_code
def yX8_firstDifference : MethodName := ⟨RX8, "firstDifference", "(II)I"⟩
abbrev cX8_remainder : ByteArray := prog_10_method_29_code
def yX8_remainder : MethodName := ⟨RX8, "remainde\x72", "(J)J"⟩
abbrev cX8_valueAt : ByteArray := prog_10_method_30_code
def yX8_valueAt : MethodName := ⟨RX8, "valueAt", "(II)I"⟩
abbrev cX8_absolute : ByteArray := prog_10_method_31_code
def yX8_absolute : MethodName := ⟨RX8, "absolute", "(J)J"⟩
abbrev cX8_statistic : ByteArray := prog_10_method_32_code
def yX8_statistic : MethodName := ⟨RX8, "statistic", "(II)I"⟩
abbrev cX8_isRankedBefore : ByteArray := prog_10_method_33_code
def yX8_isRankedBefore : MethodName := ⟨RX8, "isRankedBefore", "(II)Z"⟩
abbrev cX8_registerByRank : ByteArray := prog_10_method_34_code
def yX8_registerByRank : MethodName := ⟨RX8, "registerByRank", "(I)I"⟩
abbrev cX8_addTerm : ByteArray := prog_10_method_35_code
def yX8_addTerm : MethodName := ⟨RX8, "addTerm", "([JIII)V"⟩
abbrev cX8_keepsOther : ByteArray := prog_10_method_36_code
def yX8_keepsOther : MethodName := ⟨RX8, "keepsOthe\x72", "([JI)Z"⟩
abbrev cX8_findBeta : ByteArray := prog_10_method_37_code
def yX8_findBeta : MethodName := ⟨RX8, "findBeta", "()Z"⟩
abbrev cX8_findAlpha : ByteArray := prog_10_method_38_code
def yX8_findAlpha : MethodName := ⟨RX8, "findAlpha", "()Z"⟩
abbrev cX8_copyPair : ByteArray := prog_10_method_39_code
def yX8_copyPair : MethodName := ⟨RX8, "copyPai\x72", "([JI[JI)V"⟩
abbrev cX8_takesNewPair : ByteArray := prog_10_method_40_code
def yX8_takesNewPair : MethodName := ⟨RX8, "takesNewPai\x72", "()V"⟩
abbrev cX8_makeUnitPair : ByteArray := prog_10_method_41_code
def yX8_makeUnitPair : MethodName := ⟨RX8, "makeUnitPai\x72", "()V"⟩
abbrev cX8_unitPair : ByteArray := prog_10_method_42_code
def yX8_unitPair : MethodName := ⟨RX8, "unitPai\x72", "(I)I"⟩
abbrev cX8_replace : ByteArray := prog_10_method_43_code
def yX8_replace : MethodName := ⟨RX8, "replace", "([JII)I"⟩
abbrev cX8_setAlpha : ByteArray := prog_10_method_44_code
def yX8_setAlpha : MethodName := ⟨RX8, "setAlpha", "(II)I"⟩
abbrev cX8_setBeta : ByteArray := prog_10_method_45_code
def yX8_setBeta : MethodName := ⟨RX8, "setBeta", "(II)I"⟩
abbrev cX8_loadWeighted : ByteArray := prog_10_method_46_code
def yX8_loadWeighted : MethodName := ⟨RX8, "loadWeighted", "([JI[J)V"⟩
abbrev cX8_step : ByteArray := prog_10_method_47_code
def yX8_step : MethodName := ⟨RX8, "step", "()I"⟩
abbrev cX8_remember : ByteArray := prog_10_method_48_code
def yX8_remember : MethodName := ⟨RX8, "remembe\x72", "()V"⟩
abbrev cX8_undoStep : ByteArray := prog_10_method_49_code
def yX8_undoStep : MethodName := ⟨RX8, "undoStep", "()I"⟩
abbrev cX8_chainLength : ByteArray := prog_10_method_50_code
def yX8_chainLength : MethodName := ⟨RX8, "chainLength", "()I"⟩
abbrev cX8_copySeries : ByteArray := prog_10_method_51_code
def yX8_copySeries : MethodName := ⟨RX8, "copySeries", "([JII)I"⟩
abbrev cX8_copyAlpha : ByteArray := prog_10_method_52_code
def yX8_copyAlpha : MethodName := ⟨RX8, "copyAlpha", "(II)I"⟩
abbrev cX8_copyBeta : ByteArray := prog_10_method_53_code
def yX8_copyBeta : MethodName := ⟨RX8, "copyBeta", "(II)I"⟩
abbrev cX8_sumWeighted : ByteArray := prog_10_method_54_code
def yX8_sumWeighted : MethodName := ⟨RX8, "sumWeighted", "([J)V"⟩
abbrev cX8_sumSide : ByteArray := prog_10_method_55_code
def yX8_sumSide : MethodName := ⟨RX8, "sumSide", "(I)I"⟩
abbrev cX8_productSide : ByteArray := prog_10_method_56_code
def yX8_productSide : MethodName := ⟨RX8, "productSide", "(I)I"⟩
abbrev cX8_countPartitions : ByteArray := prog_10_method_57_code
def yX8_countPartitions : MethodName := ⟨RX8, "countPartitions", "(III)J"⟩
abbrev cX8_isNext : ByteArray := prog_10_method_58_code
def yX8_isNext : MethodName := ⟨RX8, "isNext", "()Z"⟩
abbrev cX8_listPartitions : ByteArray := prog_10_method_59_code
def yX8_listPartitions : MethodName := ⟨RX8, "listPartitions", "(I)I"⟩
abbrev cX8_partAt : ByteArray := prog_10_method_60_code
def yX8_partAt : MethodName := ⟨RX8, "partAt", "(II)I"⟩
abbrev cX8_partCount : ByteArray := prog_10_method_61_code
def yX8_partCount : MethodName := ⟨RX8, "partCount", "(I)I"⟩
abbrev cX8_isSelfConjugate : ByteArray := prog_10_method_62_code
def yX8_isSelfConjugate : MethodName := ⟨RX8, "isSelfConjugate", "(I)Z"⟩
abbrev cX8_passes : ByteArray := prog_10_method_63_code
def yX8_passes : MethodName := ⟨RX8, "passes", "(II)Z"⟩
abbrev cX8_wordInInput : ByteArray := prog_10_method_64_code
def yX8_wordInInput : MethodName := ⟨RX8, "wordInInput", "()I"⟩
abbrev cX8_filterPartitions : ByteArray := prog_10_method_65_code
def yX8_filterPartitions : MethodName := ⟨RX8, "filterPartitions", "()I"⟩
abbrev cX8_part : ByteArray := prog_10_method_66_code
def yX8_part : MethodName := ⟨RX8, "part", "(II)I"⟩
abbrev cX8_append : ByteArray := prog_10_method_67_code
def yX8_append : MethodName := ⟨RX8, "append", "(II)I"⟩
abbrev cX8_clearInput : ByteArray := prog_10_method_68_code
def yX8_clearInput : MethodName := ⟨RX8, "clearInput", "()I"⟩
abbrev cX8_here : ByteArray := prog_10_method_69_code
def yX8_here : MethodName := ⟨RX8, "here", "()I"⟩
abbrev cX8_isDigit : ByteArray := prog_10_method_70_code
def yX8_isDigit : MethodName := ⟨RX8, "isDigit", "()Z"⟩
abbrev cX8_readNumber : ByteArray := prog_10_method_71_code
def yX8_readNumber : MethodName := ⟨RX8, "readNumbe\x72", "(I)I"⟩
abbrev cX8_readsTerm : ByteArray := prog_10_method_72_code
def yX8_readsTerm : MethodName := ⟨RX8, "readsTerm", "(I)Z"⟩
abbrev cX8_readsSeries : ByteArray := prog_10_method_73_code
def yX8_readsSeries : MethodName := ⟨RX8, "readsSeries", "()Z"⟩
abbrev cX8_parseSeries : ByteArray := prog_10_method_74_code
def yX8_parseSeries : MethodName := ⟨RX8, "parseSeries", "(I)I"⟩
abbrev cX8_write : ByteArray := prog_10_method_75_code
def yX8_write : MethodName := ⟨RX8, "write", "(I)V"⟩
abbrev cX8_writeNumber : ByteArray := prog_10_method_76_code
def yX8_writeNumber : MethodName := ⟨RX8, "writeNumbe\x72", "(J)V"⟩
abbrev cX8_format : ByteArray := prog_10_method_77_code
def yX8_format : MethodName := ⟨RX8, "format", "(I)I"⟩
abbrev cX8_outputByte : ByteArray := prog_10_method_78_code
def yX8_outputByte : MethodName := ⟨RX8, "outputByte", "(I)I"⟩
abbrev cX8_isSlot : ByteArray := prog_10_method_79_code
def yX8_isSlot : MethodName := ⟨RX8, "isSlot", "(I)Z"⟩
abbrev cX8_narrow : ByteArray := prog_10_method_80_code
def yX8_narrow : MethodName := ⟨RX8, "narrow", "(IJ)J"⟩
abbrev cX8_allocate : ByteArray := prog_10_method_81_code
def yX8_allocate : MethodName := ⟨RX8, "allocate", "(III)I"⟩
abbrev cX8_release : ByteArray := prog_10_method_82_code
def yX8_release : MethodName := ⟨RX8, "release", "(I)I"⟩
abbrev cX8_putElement : ByteArray := prog_10_method_83_code
def yX8_putElement : MethodName := ⟨RX8, "putElement", "(IIJ)I"⟩
abbrev cX8_element : ByteArray := prog_10_method_84_code
def yX8_element : MethodName := ⟨RX8, "element", "(II)J"⟩
abbrev cX8_copyElements : ByteArray := prog_10_method_85_code
def yX8_copyElements : MethodName := ⟨RX8, "copyElements", "(IIIII)I"⟩
abbrev cX8_compareWithArray : ByteArray := prog_10_method_86_code
def yX8_compareWithArray : MethodName := ⟨RX8, "compareWithArray", "(II)I"⟩
abbrev cX8_pass : ByteArray := prog_10_method_87_code
def yX8_pass : MethodName := ⟨RX8, "pass", "(J)J"⟩
abbrev cX8_passAll : ByteArray := prog_10_method_88_code
def yX8_passAll : MethodName := ⟨RX8, "passAll", "([J)V"⟩
abbrev cX8_passState : ByteArray := prog_10_method_89_code
def yX8_passState : MethodName := ⟨RX8, "passState", "(Z)V"⟩
abbrev cX8_snapshot : ByteArray := prog_10_method_90_code
def yX8_snapshot : MethodName := ⟨RX8, "snapshot", "()I"⟩
abbrev cX8_restore : ByteArray := prog_10_method_91_code
def yX8_restore : MethodName := ⟨RX8, "restore", "()I"⟩
def RJx145de : String := "java/io/Serializable"
def TJx145de : u_T := fun k => match k with
  | _ => ("", "", "", false)
def tyJx145de : Nat → FieldType := fun k => match k with
  | _ => .int
def RJx9f9b0 : String := "java/lang/CharSequence"
def TJx9f9b0 : u_T := fun k => match k with
  | _ => ("", "", "", false)
def tyJx9f9b0 : Nat → FieldType := fun k => match k with
  | _ => .int
def RJxb160c : String := "java/lang/Comparable"
def TJxb160c : u_T := fun k => match k with
  | _ => ("", "", "", false)
def tyJxb160c : Nat → FieldType := fun k => match k with
  | _ => .int
def RJ6 : String := "java/lang/Intege\x72"
def TJ6 : u_T := fun k => match k with
  | _ => ("", "", "", false)
def tyJ6 : Nat → FieldType := fun k => match k with
  | _ => .int
abbrev cJ6_compare_7cf53 : ByteArray := prog_11_method_40_code
def yJ6_compare_7cf53 : MethodName := ⟨RJ6, "compare", "(II)I"⟩
def RJ9 : String := "java/lang/Math"
def TJ9 : u_T := fun k => match k with
  | _ => ("", "", "", false)
def tyJ9 : Nat → FieldType := fun k => match k with
  | _ => .int
abbrev cJ9_floorMod_f86c9 : ByteArray := prog_12_method_52_code
def yJ9_floorMod_f86c9 : MethodName := ⟨RJ9, "floorMod", "(JJ)J"⟩
abbrev cJ9_abs_0f7a4 : ByteArray := prog_12_method_59_code
def yJ9_abs_0f7a4 : MethodName := ⟨RJ9, "abs", "(I)I"⟩
abbrev cJ9_max_7cf53 : ByteArray := prog_12_method_65_code
def yJ9_max_7cf53 : MethodName := ⟨RJ9, "max", "(II)I"⟩
abbrev cJ9_min_7cf53 : ByteArray := prog_12_method_69_code
def yJ9_min_7cf53 : MethodName := ⟨RJ9, "min", "(II)I"⟩
def RJ0 : String := "java/lang/String"
def TJ0 : u_T := fun k => match k with
  | _ => ("", "", "", false)
def tyJ0 : Nat → FieldType := fun k => match k with
  | _ => .int
abbrev cJ0_length_8abf5 : ByteArray := prog_13_method_54_code
def yJ0_length_8abf5 : MethodName := ⟨RJ0, "length", "()I"⟩
abbrev cJ0_charAt_5068e : ByteArray := prog_13_method_56_code
def yJ0_charAt_5068e : MethodName := ⟨RJ0, "charAt", "(I)C"⟩
abbrev cJ0_coder_7d493 : ByteArray := prog_13_method_152_code
def yJ0_coder_7d493 : MethodName := ⟨RJ0, "code\x72", "()B"⟩
abbrev cJ0_isLatin1_aae02 : ByteArray := prog_13_method_154_code
def yJ0_isLatin1_aae02 : MethodName := ⟨RJ0, "isLatin1", "()Z"⟩
abbrev cJ0_checkIndex_df160 : ByteArray := prog_13_method_155_code
def yJ0_checkIndex_df160 : MethodName := ⟨RJ0, "checkIndex", "(II)V"⟩
def RJ1 : String := "java/lang/StringLatin1"
def TJ1 : u_T := fun k => match k with
  | _ => ("", "", "", false)
def tyJ1 : Nat → FieldType := fun k => match k with
  | _ => .int
abbrev cJ1_charAt_3b067 : ByteArray := prog_14_method_2_code
def yJ1_charAt_3b067 : MethodName := ⟨RJ1, "charAt", "([BI)C"⟩
def RJ2 : String := "java/lang/StringUTF16"
def TJ2 : u_T := fun k => match k with
  | _ => ("", "", "", false)
def tyJ2 : Nat → FieldType := fun k => match k with
  | _ => .int
abbrev cJ2_getChar_3b067 : ByteArray := prog_15_method_5_code
def yJ2_getChar_3b067 : MethodName := ⟨RJ2, "getCha\x72", "([BI)C"⟩
abbrev cJ2_length_9d52b : ByteArray := prog_15_method_6_code
def yJ2_length_9d52b : MethodName := ⟨RJ2, "length", "([B)I"⟩
abbrev cJ2_charAt_3b067 : ByteArray := prog_15_method_83_code
def yJ2_charAt_3b067 : MethodName := ⟨RJ2, "charAt", "([BI)C"⟩
abbrev cJ2_checkIndex_2214a : ByteArray := prog_15_method_91_code
def yJ2_checkIndex_2214a : MethodName := ⟨RJ2, "checkIndex", "(I[B)V"⟩
def RJ10 : String := "java/lang/System"
def TJ10 : u_T := fun k => match k with
  | _ => ("", "", "", false)
def tyJ10 : Nat → FieldType := fun k => match k with
  | _ => .int
def RJxfd54e : String := "java/lang/constant/Constable"
def TJxfd54e : u_T := fun k => match k with
  | _ => ("", "", "", false)
def tyJxfd54e : Nat → FieldType := fun k => match k with
  | _ => .int
def RJx3cf43 : String := "java/lang/constant/ConstantDesc"
def TJx3cf43 : u_T := fun k => match k with
  | _ => ("", "", "", false)
def tyJx3cf43 : Nat → FieldType := fun k => match k with
  | _ => .int
def RJ7 : String := "java/util/Arrays"
def TJ7 : u_T := fun k => match k with
  | _ => ("", "", "", false)
def tyJ7 : Nat → FieldType := fun k => match k with
  | _ => .int
abbrev cJ7_fill_d0a16 : ByteArray := prog_17_method_101_code
def yJ7_fill_d0a16 : MethodName := ⟨RJ7, "fill", "([JJ)V"⟩
abbrev cJ7_fill_53178 : ByteArray := prog_17_method_103_code
def yJ7_fill_53178 : MethodName := ⟨RJ7, "fill", "([II)V"⟩
def RJ3 : String := "jdk/internal/util/Preconditions"
def TJ3 : u_T := fun k => match k with
  | _ => ("", "", "", false)
def tyJ3 : Nat → FieldType := fun k => match k with
  | _ => .int
abbrev cJ3_checkIndex_8e157 : ByteArray := prog_18_method_11_code
def yJ3_checkIndex_8e157 : MethodName := ⟨RJ3, "checkIndex", "(IILjava/util/function/BiFunction;)I"⟩
def RL : String := "BaileyChainLaw"
abbrev cL_law : ByteArray := code
def yL_law : MethodName := ⟨RL, "law", "([I)Z"⟩
abbrev vwCl : List vw_C := [(RX0, TX0, 3), (RX1, TX1, 2), (RX2, TX2, 3), (RX3, TX3, 2), (RX4, TX4, 4), (RX5, TX5, 6), (RX6, TX6, 2), (RX7, TX7, 11), (RX8, TX8, 32)]
