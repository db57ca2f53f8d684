/-! the whole object: hasSnapshot, state, remembered, saved, its remembered, partitions, input, output, slots -/
abbrev SlV : Type := Bool × Nat × Nat × (Nat → Int64)
abbrev KV : Type := Bool × SV × (Nat → PV) × SV × (Nat → PV) × (Nat × (Nat → Nat)) × (Nat × (Nat → Nat)) × BV × (Nat → SlV)
def ObO (E : ET) (hs : Bool) : va_E := .inr (7, [.ref (E.1 1), .ref (E.1 127), .int (b2i hs), .ref (E.1 253), .ref (E.1 266), .ref (E.1 268), .ref (E.1 270), .ref (E.1 271), .ref (E.1 273), .ref (E.1 275), .ref (E.1 277)])
def ObAt (E : ET) (g : Nat → va_E) (hs : Bool) : Prop := Ce E g 0 (.inr (7, [.ref (E.1 1), .ref (E.1 127), .int (b2i hs), .ref (E.1 253), .ref (E.1 266), .ref (E.1 268), .ref (E.1 270), .ref (E.1 271), .ref (E.1 273), .ref (E.1 275), .ref (E.1 277)]))
def Sc (S : ST) (E : ET) (g : Nat → va_E) : Prop := (∃ v : PV, PairAt S E g 253 v) ∧ Wd S E g 266 ∧ Wd S E g 268
def WyAt (S : ST) (E : ET) (g : Nat → va_E) : Prop := ∃ f : Nat → Int64, Ce E g 270 (xJ S 61 f)
def PtAt (S : ST) (E : ET) (g : Nat → va_E) (v : Nat × (Nat → Nat)) : Prop := Ce E g 271 (.inr (3, [.ref (E.1 (271 + 1)), .int (nI v.1)])) ∧ Ce E g (271 + 1) (xB S 3696 (fun k => nI (v.2 k))) ∧ (∀ k, v.2 k ≤ 16) ∧ v.1 ≤ 231
def InAt (S : ST) (E : ET) (g : Nat → va_E) (v : Nat × (Nat → Nat)) : Prop := (∃ p : Nat, Ce E g 273 (.inr (0, [.ref (E.1 (273 + 1)), .int (nI v.1), .int (nI p)]))) ∧ Ce E g (273 + 1) (xB S 60 (fun k => nI (v.2 k))) ∧ (∀ k, v.2 k < 128) ∧ v.1 ≤ 60
def OuAt (S : ST) (E : ET) (g : Nat → va_E) (b : BV) : Prop := Ce E g 275 (.inr (1, [.ref (E.1 (275 + 1)), .int (nI b.1)])) ∧ Ce E g (275 + 1) (xB S 336 b.2) ∧ b.1 ≤ 336
def SlAt (S : ST) (E : ET) (g : Nat → va_E) (s : Nat) (v : SlV) : Prop := Ce E g s (.inr (4, [.ref (E.1 (s + 1)), .int (b2i v.1), .int (nI v.2.1), .int (nI v.2.2.1)])) ∧ Ce E g (s + 1) (xJ S 40 v.2.2.2) ∧ v.2.1 < 4 ∧ v.2.2.1 ≤ 40
def SsAt (S : ST) (E : ET) (g : Nat → va_E) (sl : Nat → SlV) : Prop := Ce E g 277 (xR S 5 4 (fun j => some (E.1 (278 + 2 * j)))) ∧ ∀ j : Nat, j < 4 → SlAt S E g (278 + 2 * j) (sl j)
/-- what the numbers of a state keep to -/
def SOk (v : SV) : Prop := 4 ≤ v.1 ∧ v.1 ≤ 24 ∧ v.2.2.1.1 ≤ 1
def BC (S : ST) (E : ET) (g : Nat → va_E) (k : KV) : Prop := ObAt E g k.1 ∧ StL S E g 1 k.2.1 k.2.2.1 ∧ StL S E g 127 k.2.2.2.1 k.2.2.2.2.1 ∧ Sc S E g ∧ WyAt S E g ∧ PtAt S E g k.2.2.2.2.2.1 ∧ InAt S E g k.2.2.2.2.2.2.1 ∧ OuAt S E g k.2.2.2.2.2.2.2.1 ∧ SsAt S E g k.2.2.2.2.2.2.2.2
theorem ObAt.fr {E : ET} {g h : Nat → va_E} {hs : Bool} {lo hi : Nat} (c : ObAt E g hs) (hf : Fr g h lo hi) (hl : 0 < lo) : ObAt E h hs := Ce.fr c hf (by omega)
theorem Sc.fr {S : ST} {E : ET} {g h : Nat → va_E} {lo hi : Nat} (c : Sc S E g) (hf : Fr g h lo hi) (hl : hi ≤ 253 ∨ 270 ≤ lo) : Sc S E h := by
  obtain ⟨⟨v, h1⟩, h2, h3⟩ := c
  exact ⟨⟨v, h1.fr hf (by omega)⟩, h2.fr hf (by omega), h3.fr hf (by omega)⟩
theorem WyAt.fr {S : ST} {E : ET} {g h : Nat → va_E} {lo hi : Nat} (c : WyAt S E g) (hf : Fr g h lo hi) (hl : hi ≤ 270 ∨ 271 ≤ lo) : WyAt S E h := by
  obtain ⟨f, h1⟩ := c
  exact ⟨f, h1.fr hf (by omega)⟩
theorem PtAt.fr {S : ST} {E : ET} {g h : Nat → va_E} {lo hi : Nat} {v : Nat × (Nat → Nat)} (c : PtAt S E g v) (hf : Fr g h lo hi) (hl : hi ≤ 271 ∨ 273 ≤ lo) : PtAt S E h v := ⟨c.1.fr hf (by omega), c.2.1.fr hf (by omega), c.2.2⟩
theorem InAt.fr {S : ST} {E : ET} {g h : Nat → va_E} {lo hi : Nat} {v : Nat × (Nat → Nat)} (c : InAt S E g v) (hf : Fr g h lo hi) (hl : hi ≤ 273 ∨ 275 ≤ lo) : InAt S E h v := by
  obtain ⟨⟨p, h1⟩, h2, h3⟩ := c
  exact ⟨⟨p, h1.fr hf (by omega)⟩, h2.fr hf (by omega), h3⟩
theorem OuAt.fr {S : ST} {E : ET} {g h : Nat → va_E} {lo hi : Nat} {b : BV} (c : OuAt S E g b) (hf : Fr g h lo hi) (hl : hi ≤ 275 ∨ 277 ≤ lo) : OuAt S E h b := ⟨c.1.fr hf (by omega), c.2.1.fr hf (by omega), c.2.2⟩
theorem SlAt.fr {S : ST} {E : ET} {g h : Nat → va_E} {lo hi s : Nat} {v : SlV} (c : SlAt S E g s v) (hf : Fr g h lo hi) (hl : hi ≤ s ∨ s + 2 ≤ lo) : SlAt S E h s v := ⟨c.1.fr hf (by omega), c.2.1.fr hf (by omega), c.2.2⟩
theorem SsAt.fr {S : ST} {E : ET} {g h : Nat → va_E} {lo hi : Nat} {sl : Nat → SlV} (c : SsAt S E g sl) (hf : Fr g h lo hi) (hl : hi ≤ 277 ∨ 286 ≤ lo) : SsAt S E h sl := ⟨c.1.fr hf (by omega), fun j hj => (c.2 j hj).fr hf (by omega)⟩
section BCS
variable {S : ST} {E : ET} {g h : Nat → va_E} {k : KV}
theorem BC.far {lo hi : Nat} (c : BC S E g k) (hf : Fr g h lo hi) (hl : 286 ≤ lo) : BC S E h k := by
  obtain ⟨h1, h2, h3, h4, h5, h6, h7, h8, h9⟩ := c
  exact ⟨h1.fr hf (by omega), h2.fr hf (by omega), h3.fr hf (by omega), h4.fr hf (by omega), h5.fr hf (by omega), h6.fr hf (by omega), h7.fr hf (by omega), h8.fr hf (by omega), h9.fr hf (by omega)⟩
theorem BC.scr (c : BC S E g k) (hf : Fr g h 253 270) (hs : Sc S E h) : BC S E h k := by
  obtain ⟨h1, h2, h3, h4, h5, h6, h7, h8, h9⟩ := c
  exact ⟨h1.fr hf (by omega), h2.fr hf (by omega), h3.fr hf (by omega), hs, h5.fr hf (by omega), h6.fr hf (by omega), h7.fr hf (by omega), h8.fr hf (by omega), h9.fr hf (by omega)⟩
theorem BC.st {v : SV} {rem : Nat → PV} (c : BC S E g k) (hf : Fr g h 1 127) (hs : StL S E h 1 v rem) : BC S E h (k.1, v, rem, k.2.2.2) := by
  obtain ⟨h1, h2, h3, h4, h5, h6, h7, h8, h9⟩ := c
  exact ⟨h1.fr hf (by omega), hs, h3.fr hf (by omega), h4.fr hf (by omega), h5.fr hf (by omega), h6.fr hf (by omega), h7.fr hf (by omega), h8.fr hf (by omega), h9.fr hf (by omega)⟩
theorem BC.sv {v : SV} {rem : Nat → PV} (c : BC S E g k) (hf : Fr g h 127 253) (hs : StL S E h 127 v rem) : BC S E h (k.1, k.2.1, k.2.2.1, v, rem, k.2.2.2.2.2) := by
  obtain ⟨h1, h2, h3, h4, h5, h6, h7, h8, h9⟩ := c
  exact ⟨h1.fr hf (by omega), h2.fr hf (by omega), hs, h4.fr hf (by omega), h5.fr hf (by omega), h6.fr hf (by omega), h7.fr hf (by omega), h8.fr hf (by omega), h9.fr hf (by omega)⟩
theorem BC.way (c : BC S E g k) (hf : Fr g h 270 271) (hs : WyAt S E h) : BC S E h k := by
  obtain ⟨h1, h2, h3, h4, h5, h6, h7, h8, h9⟩ := c
  exact ⟨h1.fr hf (by omega), h2.fr hf (by omega), h3.fr hf (by omega), h4.fr hf (by omega), hs, h6.fr hf (by omega), h7.fr hf (by omega), h8.fr hf (by omega), h9.fr hf (by omega)⟩
theorem BC.pt {v : Nat × (Nat → Nat)} (c : BC S E g k) (hf : Fr g h 271 273) (hs : PtAt S E h v) : BC S E h (k.1, k.2.1, k.2.2.1, k.2.2.2.1, k.2.2.2.2.1, v, k.2.2.2.2.2.2) := by
  obtain ⟨h1, h2, h3, h4, h5, h6, h7, h8, h9⟩ := c
  exact ⟨h1.fr hf (by omega), h2.fr hf (by omega), h3.fr hf (by omega), h4.fr hf (by omega), h5.fr hf (by omega), hs, h7.fr hf (by omega), h8.fr hf (by omega), h9.fr hf (by omega)⟩
theorem BC.inp {v : Nat × (Nat → Nat)} (c : BC S E g k) (hf : Fr g h 273 275) (hs : InAt S E h v) : BC S E h (k.1, k.2.1, k.2.2.1, k.2.2.2.1, k.2.2.2.2.1, k.2.2.2.2.2.1, v, k.2.2.2.2.2.2.2) := by
  obtain ⟨h1, h2, h3, h4, h5, h6, h7, h8, h9⟩ := c
  exact ⟨h1.fr hf (by omega), h2.fr hf (by omega), h3.fr hf (by omega), h4.fr hf (by omega), h5.fr hf (by omega), h6.fr hf (by omega), hs, h8.fr hf (by omega), h9.fr hf (by omega)⟩
theorem BC.out {b : BV} (c : BC S E g k) (hf : Fr g h 275 277) (hs : OuAt S E h b) : BC S E h (k.1, k.2.1, k.2.2.1, k.2.2.2.1, k.2.2.2.2.1, k.2.2.2.2.2.1, k.2.2.2.2.2.2.1, b, k.2.2.2.2.2.2.2.2) := by
  obtain ⟨h1, h2, h3, h4, h5, h6, h7, h8, h9⟩ := c
  exact ⟨h1.fr hf (by omega), h2.fr hf (by omega), h3.fr hf (by omega), h4.fr hf (by omega), h5.fr hf (by omega), h6.fr hf (by omega), h7.fr hf (by omega), hs, h9.fr hf (by omega)⟩
theorem SsAt.set {sl : Nat → SlV} {j : Nat} {v : SlV} (c : SsAt S E g sl) (hj : j < 4) (hf : Fr g h (278 + 2 * j) (278 + 2 * j + 2)) (hs : SlAt S E h (278 + 2 * j) v) : SsAt S E h (va_up sl j v) := by
  refine ⟨c.1.fr hf (by omega), fun i hi => ?_⟩
  by_cases e : i = j
  · subst e; rw [va_up_self]; exact hs
  · rw [va_up_ne _ _ e]; exact (c.2 i hi).fr hf (by omega)
theorem BC.slt {sl : Nat → SlV} (c : BC S E g k) (hf : Fr g h 277 286) (hs : SsAt S E h sl) : BC S E h (k.1, k.2.1, k.2.2.1, k.2.2.2.1, k.2.2.2.2.1, k.2.2.2.2.2.1, k.2.2.2.2.2.2.1, k.2.2.2.2.2.2.2.1, sl) := by
  obtain ⟨h1, h2, h3, h4, h5, h6, h7, h8, h9⟩ := c
  exact ⟨h1.fr hf (by omega), h2.fr hf (by omega), h3.fr hf (by omega), h4.fr hf (by omega), h5.fr hf (by omega), h6.fr hf (by omega), h7.fr hf (by omega), h8.fr hf (by omega), hs⟩
theorem BC.snap {hs : Bool} (c : BC S E g k) (hf : Fr g h 0 1) (h0 : ObAt E h hs) : BC S E h (hs, k.2) := by
  obtain ⟨h1, h2, h3, h4, h5, h6, h7, h8, h9⟩ := c
  exact ⟨h0, h2.fr hf (by omega), h3.fr hf (by omega), h4.fr hf (by omega), h5.fr hf (by omega), h6.fr hf (by omega), h7.fr hf (by omega), h8.fr hf (by omega), h9.fr hf (by omega)⟩
end BCS
