def row0 (m k : Nat) : Nat := if k = 0 then m else 0
def rwF (m t : Nat) : Nat → Nat := it (fun _ z => nxF z) t (row0 m)
def RwOk : Prop := ∀ m : Nat, 1 ≤ m → m ≤ 16 → (∀ t, t < pcN m → VR (rwF m t)) ∧ (∀ t, t < pcN m - 1 → lpN (rwF m t) 16 ≠ 0) ∧ lpN (rwF m (pcN m - 1)) 16 = 0
def lsI (y : Nat → Nat) (R : Nat → Nat → Nat) (t q j : Nat) : Nat := if j < 16 * t + q then R (j / 16) (j % 16) else y j
theorem lsI_s (y : Nat → Nat) (R : Nat → Nat → Nat) {t q : Nat} (hq : q < 16) (j : Nat) : upd (fun k => nI (lsI y R t q k)) (16 * t + q) (nI (R t q)) j = nI (lsI y R t (q + 1) j) := by
  rw [pt_up]
  congr 1
  unfold lsI
  by_cases e : j = 16 * t + q
  · subst e
    rw [va_up_self, if_pos (by omega), show (16 * t + q) / 16 = t by omega, show (16 * t + q) % 16 = q by omega]
  · rw [va_up_ne _ _ e]
    by_cases h : j < 16 * t + q
    · rw [if_pos h, if_pos (by omega)]
    · rw [if_neg h, if_neg (by omega)]
theorem lsI_n (y : Nat → Nat) (R : Nat → Nat → Nat) (t j : Nat) : lsI y R t 16 j = lsI y R (t + 1) 0 j := by
  unfold lsI
  rw [show 16 * t + 16 = 16 * (t + 1) + 0 by omega]
theorem row0_fill (m : Nat) (f : Nat → Int32) {j : Nat} (hj : j < 16) : it (fun t h => upd h t (nI (row0 m t))) 16 f j = nI (row0 m j) := by
  rw [it_putI (fun t => nI (row0 m t))]
  exact if_pos hj
def s_ls (z : MZ) (x_fp : (Nat → Nat)) (x_pc : Nat) (x_fc : (Nat → Nat)) : MZ := (z.1, z.2.1, z.2.2.1, z.2.2.2.1, x_pc, z.2.2.2.2.2.1, z.2.2.2.2.2.2.1, z.2.2.2.2.2.2.2.1, z.2.2.2.2.2.2.2.2.1, z.2.2.2.2.2.2.2.2.2.1, z.2.2.2.2.2.2.2.2.2.2.1, z.2.2.2.2.2.2.2.2.2.2.2.1, z.2.2.2.2.2.2.2.2.2.2.2.2.1, z.2.2.2.2.2.2.2.2.2.2.2.2.2.1, z.2.2.2.2.2.2.2.2.2.2.2.2.2.2.1, z.2.2.2.2.2.2.2.2.2.2.2.2.2.2.2.1, z.2.2.2.2.2.2.2.2.2.2.2.2.2.2.2.2.1, z.2.2.2.2.2.2.2.2.2.2.2.2.2.2.2.2.2.1, z.2.2.2.2.2.2.2.2.2.2.2.2.2.2.2.2.2.2.1, z.2.2.2.2.2.2.2.2.2.2.2.2.2.2.2.2.2.2.2.1, z.2.2.2.2.2.2.2.2.2.2.2.2.2.2.2.2.2.2.2.2.1, x_fp, x_fc, z.2.2.2.2.2.2.2.2.2.2.2.2.2.2.2.2.2.2.2.2.2.2.2.1, z.2.2.2.2.2.2.2.2.2.2.2.2.2.2.2.2.2.2.2.2.2.2.2.2.1, z.2.2.2.2.2.2.2.2.2.2.2.2.2.2.2.2.2.2.2.2.2.2.2.2.2.1, z.2.2.2.2.2.2.2.2.2.2.2.2.2.2.2.2.2.2.2.2.2.2.2.2.2.2.1, z.2.2.2.2.2.2.2.2.2.2.2.2.2.2.2.2.2.2.2.2.2.2.2.2.2.2.2.1, z.2.2.2.2.2.2.2.2.2.2.2.2.2.2.2.2.2.2.2.2.2.2.2.2.2.2.2.2.1, z.2.2.2.2.2.2.2.2.2.2.2.2.2.2.2.2.2.2.2.2.2.2.2.2.2.2.2.2.2.1, z.2.2.2.2.2.2.2.2.2.2.2.2.2.2.2.2.2.2.2.2.2.2.2.2.2.2.2.2.2.2.1, z.2.2.2.2.2.2.2.2.2.2.2.2.2.2.2.2.2.2.2.2.2.2.2.2.2.2.2.2.2.2.2)
def s_lp (z : MZ) (x_fp : (Nat → Nat)) (x_pc : Nat) : MZ := (z.1, z.2.1, z.2.2.1, z.2.2.2.1, x_pc, z.2.2.2.2.2.1, z.2.2.2.2.2.2.1, z.2.2.2.2.2.2.2.1, z.2.2.2.2.2.2.2.2.1, z.2.2.2.2.2.2.2.2.2.1, z.2.2.2.2.2.2.2.2.2.2.1, z.2.2.2.2.2.2.2.2.2.2.2.1, z.2.2.2.2.2.2.2.2.2.2.2.2.1, z.2.2.2.2.2.2.2.2.2.2.2.2.2.1, z.2.2.2.2.2.2.2.2.2.2.2.2.2.2.1, z.2.2.2.2.2.2.2.2.2.2.2.2.2.2.2.1, z.2.2.2.2.2.2.2.2.2.2.2.2.2.2.2.2.1, z.2.2.2.2.2.2.2.2.2.2.2.2.2.2.2.2.2.1, z.2.2.2.2.2.2.2.2.2.2.2.2.2.2.2.2.2.2.1, z.2.2.2.2.2.2.2.2.2.2.2.2.2.2.2.2.2.2.2.1, z.2.2.2.2.2.2.2.2.2.2.2.2.2.2.2.2.2.2.2.2.1, x_fp, z.2.2.2.2.2.2.2.2.2.2.2.2.2.2.2.2.2.2.2.2.2.2.1, z.2.2.2.2.2.2.2.2.2.2.2.2.2.2.2.2.2.2.2.2.2.2.2.1, z.2.2.2.2.2.2.2.2.2.2.2.2.2.2.2.2.2.2.2.2.2.2.2.2.1, z.2.2.2.2.2.2.2.2.2.2.2.2.2.2.2.2.2.2.2.2.2.2.2.2.2.1, z.2.2.2.2.2.2.2.2.2.2.2.2.2.2.2.2.2.2.2.2.2.2.2.2.2.2.1, z.2.2.2.2.2.2.2.2.2.2.2.2.2.2.2.2.2.2.2.2.2.2.2.2.2.2.2.1, z.2.2.2.2.2.2.2.2.2.2.2.2.2.2.2.2.2.2.2.2.2.2.2.2.2.2.2.2.1, z.2.2.2.2.2.2.2.2.2.2.2.2.2.2.2.2.2.2.2.2.2.2.2.2.2.2.2.2.2.1, z.2.2.2.2.2.2.2.2.2.2.2.2.2.2.2.2.2.2.2.2.2.2.2.2.2.2.2.2.2.2.1, z.2.2.2.2.2.2.2.2.2.2.2.2.2.2.2.2.2.2.2.2.2.2.2.2.2.2.2.2.2.2.2)
def s_hfp (z : MZ) (x_hd : Nat) (x_fp : (Nat → Nat)) (x_pc : Nat) : MZ := (z.1, z.2.1, z.2.2.1, z.2.2.2.1, x_pc, x_hd, z.2.2.2.2.2.2.1, z.2.2.2.2.2.2.2.1, z.2.2.2.2.2.2.2.2.1, z.2.2.2.2.2.2.2.2.2.1, z.2.2.2.2.2.2.2.2.2.2.1, z.2.2.2.2.2.2.2.2.2.2.2.1, z.2.2.2.2.2.2.2.2.2.2.2.2.1, z.2.2.2.2.2.2.2.2.2.2.2.2.2.1, z.2.2.2.2.2.2.2.2.2.2.2.2.2.2.1, z.2.2.2.2.2.2.2.2.2.2.2.2.2.2.2.1, z.2.2.2.2.2.2.2.2.2.2.2.2.2.2.2.2.1, z.2.2.2.2.2.2.2.2.2.2.2.2.2.2.2.2.2.1, z.2.2.2.2.2.2.2.2.2.2.2.2.2.2.2.2.2.2.1, z.2.2.2.2.2.2.2.2.2.2.2.2.2.2.2.2.2.2.2.1, z.2.2.2.2.2.2.2.2.2.2.2.2.2.2.2.2.2.2.2.2.1, x_fp, z.2.2.2.2.2.2.2.2.2.2.2.2.2.2.2.2.2.2.2.2.2.2.1, z.2.2.2.2.2.2.2.2.2.2.2.2.2.2.2.2.2.2.2.2.2.2.2.1, z.2.2.2.2.2.2.2.2.2.2.2.2.2.2.2.2.2.2.2.2.2.2.2.2.1, z.2.2.2.2.2.2.2.2.2.2.2.2.2.2.2.2.2.2.2.2.2.2.2.2.2.1, z.2.2.2.2.2.2.2.2.2.2.2.2.2.2.2.2.2.2.2.2.2.2.2.2.2.2.1, z.2.2.2.2.2.2.2.2.2.2.2.2.2.2.2.2.2.2.2.2.2.2.2.2.2.2.2.1, z.2.2.2.2.2.2.2.2.2.2.2.2.2.2.2.2.2.2.2.2.2.2.2.2.2.2.2.2.1, z.2.2.2.2.2.2.2.2.2.2.2.2.2.2.2.2.2.2.2.2.2.2.2.2.2.2.2.2.2.1, z.2.2.2.2.2.2.2.2.2.2.2.2.2.2.2.2.2.2.2.2.2.2.2.2.2.2.2.2.2.2.1, z.2.2.2.2.2.2.2.2.2.2.2.2.2.2.2.2.2.2.2.2.2.2.2.2.2.2.2.2.2.2.2)
def qLst (z : MZ) (x : Int32) : Int32 × MZ := bif btw x.toInt64 1 16 then (nI (pcN (iN x) - 1 + 1), s_lp z (lsI z.2.2.2.2.2.2.2.2.2.2.2.2.2.2.2.2.2.2.2.2.2.1 (rwF (iN x)) (pcN (iN x) - 1 + 1) 0) (pcN (iN x) - 1 + 1)) else (-1, z)
def scZ (z : Nat → Nat) : Bool := allB (fun t => decide (cntN (fun k => decide (1 + t ≤ z k)) (pcF z) = z t)) 16
def mpP (w : Nat) (z : Nat → Nat) (k : Nat) : Bool := if w = 0 then (decide (zx z (k + 1) = 0) || decide (zx z (k + 1) < z k)) else if w = 1 then decide (z k % 2 = 1) else if w = 2 then (decide (zx z (k + 1) = 0) || decide (¬ nI (z k) - nI (zx z (k + 1)) < nI 2)) else decide (¬ z k = 1)
def mpB (w : Nat) (z : Nat → Nat) : Bool := if w = 4 then decide (pcF z % 2 = 0) else if w = 5 then scZ z else allB (mpP w z) (pcF z)
theorem allB_and {p : Nat → Bool} {t : Nat} : allB p (t + 1) = (allB p t && p t) := rfl
set_option maxHeartbeats 4000000 in
set_option maxRecDepth 100000 in
theorem c_X8_listPartitions {S : ST} {E : ET} {g : Nat → va_E} {z : MZ} (hM : MC S E g z) (h4 : 4 ≤ z.1) (hN : z.1 ≤ 24) (hr : z.2.1 ≤ 1) (hR : RwOk) (x : Int32) : CtI S E yX8_listPartitions cX8_listPartitions 3 (Option.some FieldType.int) rmX8_listPartitions [.ref (E.1 286), .int x] g (fun u g' => u = (qLst z x).1 ∧ (∃ z', MC S E g' z' ∧ Sv z' (qLst z x).2) ∧ Fr g g' 286 308) := by
  refine Ct.of RX8 (by decide +kernel) rfl (Nat.le_of_ble_eq_true rfl) (fun M C Z => ?_)
  refine G.eq (pc' := 0) (vs' := [some (.ref (E.1 286)), some (.int x), none]) (st' := []) ?_
  refine r_iload_n (pc := 0) C dX8_listPartitions_0 rfl ?_
  refine r_i2l (pc := 1) C dX8_listPartitions_1 ?_
  refine r_lconst (pc := 2) (v := 1) C dX8_listPartitions_2 rfl ?_
  refine r_ldc2 (pc := 3) C dX8_listPartitions_3 qK_RX8_224 ?_
  refine r_callS (pc := 6) C dX8_listPartitions_6 cs_RX8_7 (c_X8_isBetween x.toInt64 1 16) ⟨rfl, rfl, by decide, by decide⟩ rfl rfl (Nat.le_of_ble_eq_true rfl) ⟨Nat.zero_le _, Nat.zero_le _⟩ ?_
  rintro _ _ ⟨_, rfl, rfl, rfl⟩
  show G M S E (0, 0) g 9 [some (.ref (E.1 286)), some (.int x), none] [.int (b2i (btw x.toInt64 1 16))]
  refine r_if_ne (pc := 9) (tgt := 14) C dX8_listPartitions_9 (by decide) (fun h9 => ?_) (fun h9 => ?_)
  · have h9 := b_t h9
    obtain ⟨m, rfl, hm1, hm16, hm⟩ := btw_nat (p := 1) (q := 16) h9 (by decide) (by decide)
    obtain ⟨hv, hgo, hend⟩ := hR m hm1 hm16
    have hpc := pcN_b hm16
    refine r_iconst (pc := 14) (v := nI 0) C dX8_listPartitions_14 (by decide +kernel) ?_
    refine r_istore_n (pc := 15) C dX8_listPartitions_15 (by decide) ?_
    refine G.eq (pc' := 16) (vs' := [some (.ref (E.1 286)), some (.int (nI m)), some (.int (nI 0))]) (st' := []) ?_
    refine G.heap (Ce.id hM.2.2.2.2.2.2.2.2.2.2.2.2.1) ?_
    refine bk (P := fun t2 => G M S E (0, 0) (va_up g 298 (xI S 16 (it (fun t h => upd h t (nI (row0 m t))) t2 (fun k => nI (z.2.2.2.2.2.2.2.2.2.2.2.2.2.2.2.2.2.2.2.2.2.2.1 k))))) 16 [some (.ref (E.1 286)), some (.int (nI m)), some (.int (nI t2))] []) (T := 16) ?_ (fun t2 ht ih => ?_)
    · show G M S E (0, 0) (va_up g 298 (xI S 16 (it (fun t h => upd h t (nI (row0 m t))) 16 (fun k => nI (z.2.2.2.2.2.2.2.2.2.2.2.2.2.2.2.2.2.2.2.2.2.2.1 k))))) 16 [some (.ref (E.1 286)), some (.int (nI m)), some (.int (nI 16))] []
      refine r_iload_n (pc := 16) C dX8_listPartitions_16 rfl ?_
      refine r_bipush (pc := 17) (v := nI 16) C dX8_listPartitions_17 (by decide +kernel) ?_
      refine r_icmp_ge (pc := 19) (tgt := 43) C dX8_listPartitions_19 (by decide) (fun h19 => ?_) (fun h19 => ?_)
      · have h19 := c_le (by omega) (by omega) h19
        refine G.cI (f' := fun k => nI (rwF m 0 k)) (fun j hj => row0_fill m _ hj) ?_
        refine r_aload_n (pc := 43) C dX8_listPartitions_43 rfl ?_
        refine r_iconst (pc := 44) (v := nI 0) C dX8_listPartitions_44 (by decide +kernel) ?_
        refine r_putf (pc := 45) C dX8_listPartitions_45 fp_RX8_226 (Ce.up hM.1 (by decide)) rfl rfl (Nat.le_of_ble_eq_true rfl) ?_
        refine G.wk (vs' := [some (.ref (E.1 286)), some (.int (nI m)), none]) ⟨rfl, rfl, trivial⟩ ?_
        refine G.heap (Ce.id (Ce.up (Ce.up hM.2.2.2.2.2.2.2.2.2.2.2.1 (by decide)) (by decide))) ?_
        refine G.cI (f' := fun k => nI (lsI z.2.2.2.2.2.2.2.2.2.2.2.2.2.2.2.2.2.2.2.2.2.1 (rwF m) 0 0 k)) (fun j _ => congrArg nI (if_neg (by omega)).symm) ?_
        show G M S E (0, 0) (va_up (va_up (va_up g 298 (xI S 16 (fun k => nI (rwF m 0 k)))) 286 (.inr (8, [.int (nI z.1), .int (nI z.2.1), .int z.2.2.1, .int (nI z.2.2.2.1), .ref (E.1 287), .ref (E.1 288), .ref (E.1 289), .ref (E.1 290), .ref (E.1 291), .ref (E.1 292), .ref (E.1 293), .ref (E.1 294), .ref (E.1 295), .ref (E.1 296), .ref (E.1 297), .ref (E.1 298), .int (nI 0), .ref (E.1 299), .ref (E.1 300), .ref (E.1 301), .ref (E.1 302), .int (nI z.2.2.2.2.2.1), .int (nI z.2.2.2.2.2.2.1), .int (nI z.2.2.2.2.2.2.2.1), .ref (E.1 303), .ref (E.1 304), .ref (E.1 305), .ref (E.1 306), .ref (E.1 307), .int (nI z.2.2.2.2.2.2.2.2.1), .int (b2i z.2.2.2.2.2.2.2.2.2.1), .int (b2i z.2.2.2.2.2.2.2.2.2.2.1)]))) 297 (xI S 3696 (fun k => nI (lsI z.2.2.2.2.2.2.2.2.2.2.2.2.2.2.2.2.2.2.2.2.2.1 (rwF m) 0 0 k)))) 48 [some (.ref (E.1 286)), some (.int (nI m)), none] []
        refine bk (P := fun t2 => G M S E (0, 0) (va_up (va_up (va_up g 298 (xI S 16 (fun k => nI (rwF m t2 k)))) 286 (.inr (8, [.int (nI z.1), .int (nI z.2.1), .int z.2.2.1, .int (nI z.2.2.2.1), .ref (E.1 287), .ref (E.1 288), .ref (E.1 289), .ref (E.1 290), .ref (E.1 291), .ref (E.1 292), .ref (E.1 293), .ref (E.1 294), .ref (E.1 295), .ref (E.1 296), .ref (E.1 297), .ref (E.1 298), .int (nI t2), .ref (E.1 299), .ref (E.1 300), .ref (E.1 301), .ref (E.1 302), .int (nI z.2.2.2.2.2.1), .int (nI z.2.2.2.2.2.2.1), .int (nI z.2.2.2.2.2.2.2.1), .ref (E.1 303), .ref (E.1 304), .ref (E.1 305), .ref (E.1 306), .ref (E.1 307), .int (nI z.2.2.2.2.2.2.2.2.1), .int (b2i z.2.2.2.2.2.2.2.2.2.1), .int (b2i z.2.2.2.2.2.2.2.2.2.2.1)]))) 297 (xI S 3696 (fun k => nI (lsI z.2.2.2.2.2.2.2.2.2.2.2.2.2.2.2.2.2.2.2.2.2.1 (rwF m) t2 0 k)))) 48 [some (.ref (E.1 286)), some (.int (nI m)), none] []) (T := pcN m - 1) ?_ (fun t2 ht ih => ?_)
        · show G M S E (0, 0) (va_up (va_up (va_up g 298 (xI S 16 (fun k => nI (rwF m (pcN m - 1) k)))) 286 (.inr (8, [.int (nI z.1), .int (nI z.2.1), .int z.2.2.1, .int (nI z.2.2.2.1), .ref (E.1 287), .ref (E.1 288), .ref (E.1 289), .ref (E.1 290), .ref (E.1 291), .ref (E.1 292), .ref (E.1 293), .ref (E.1 294), .ref (E.1 295), .ref (E.1 296), .ref (E.1 297), .ref (E.1 298), .int (nI (pcN m - 1)), .ref (E.1 299), .ref (E.1 300), .ref (E.1 301), .ref (E.1 302), .int (nI z.2.2.2.2.2.1), .int (nI z.2.2.2.2.2.2.1), .int (nI z.2.2.2.2.2.2.2.1), .ref (E.1 303), .ref (E.1 304), .ref (E.1 305), .ref (E.1 306), .ref (E.1 307), .int (nI z.2.2.2.2.2.2.2.2.1), .int (b2i z.2.2.2.2.2.2.2.2.2.1), .int (b2i z.2.2.2.2.2.2.2.2.2.2.1)]))) 297 (xI S 3696 (fun k => nI (lsI z.2.2.2.2.2.2.2.2.2.2.2.2.2.2.2.2.2.2.2.2.2.1 (rwF m) (pcN m - 1) 0 k)))) 48 [some (.ref (E.1 286)), some (.int (nI m)), none] []
          refine r_iconst (pc := 48) (v := nI 0) C dX8_listPartitions_48 (by decide +kernel) ?_
          refine r_istore_n (pc := 49) C dX8_listPartitions_49 (by decide) ?_
          refine G.eq (pc' := 50) (vs' := [some (.ref (E.1 286)), some (.int (nI m)), some (.int (nI 0))]) (st' := []) ?_
          refine bk (P := fun t3 => G M S E (0, 0) (va_up (va_up (va_up g 298 (xI S 16 (fun k => nI (rwF m (pcN m - 1) k)))) 286 (.inr (8, [.int (nI z.1), .int (nI z.2.1), .int z.2.2.1, .int (nI z.2.2.2.1), .ref (E.1 287), .ref (E.1 288), .ref (E.1 289), .ref (E.1 290), .ref (E.1 291), .ref (E.1 292), .ref (E.1 293), .ref (E.1 294), .ref (E.1 295), .ref (E.1 296), .ref (E.1 297), .ref (E.1 298), .int (nI (pcN m - 1)), .ref (E.1 299), .ref (E.1 300), .ref (E.1 301), .ref (E.1 302), .int (nI z.2.2.2.2.2.1), .int (nI z.2.2.2.2.2.2.1), .int (nI z.2.2.2.2.2.2.2.1), .ref (E.1 303), .ref (E.1 304), .ref (E.1 305), .ref (E.1 306), .ref (E.1 307), .int (nI z.2.2.2.2.2.2.2.2.1), .int (b2i z.2.2.2.2.2.2.2.2.2.1), .int (b2i z.2.2.2.2.2.2.2.2.2.2.1)]))) 297 (xI S 3696 (fun k => nI (lsI z.2.2.2.2.2.2.2.2.2.2.2.2.2.2.2.2.2.2.2.2.2.1 (rwF m) (pcN m - 1) t3 k)))) 50 [some (.ref (E.1 286)), some (.int (nI m)), some (.int (nI t3))] []) (T := 16) ?_ (fun t3 ht ih => ?_)
          · show G M S E (0, 0) (va_up (va_up (va_up g 298 (xI S 16 (fun k => nI (rwF m (pcN m - 1) k)))) 286 (.inr (8, [.int (nI z.1), .int (nI z.2.1), .int z.2.2.1, .int (nI z.2.2.2.1), .ref (E.1 287), .ref (E.1 288), .ref (E.1 289), .ref (E.1 290), .ref (E.1 291), .ref (E.1 292), .ref (E.1 293), .ref (E.1 294), .ref (E.1 295), .ref (E.1 296), .ref (E.1 297), .ref (E.1 298), .int (nI (pcN m - 1)), .ref (E.1 299), .ref (E.1 300), .ref (E.1 301), .ref (E.1 302), .int (nI z.2.2.2.2.2.1), .int (nI z.2.2.2.2.2.2.1), .int (nI z.2.2.2.2.2.2.2.1), .ref (E.1 303), .ref (E.1 304), .ref (E.1 305), .ref (E.1 306), .ref (E.1 307), .int (nI z.2.2.2.2.2.2.2.2.1), .int (b2i z.2.2.2.2.2.2.2.2.2.1), .int (b2i z.2.2.2.2.2.2.2.2.2.2.1)]))) 297 (xI S 3696 (fun k => nI (lsI z.2.2.2.2.2.2.2.2.2.2.2.2.2.2.2.2.2.2.2.2.2.1 (rwF m) (pcN m - 1) 16 k)))) 50 [some (.ref (E.1 286)), some (.int (nI m)), some (.int (nI 16))] []
            refine r_iload_n (pc := 50) C dX8_listPartitions_50 rfl ?_
            refine r_bipush (pc := 51) (v := nI 16) C dX8_listPartitions_51 (by decide +kernel) ?_
            refine r_icmp_ge (pc := 53) (tgt := 82) C dX8_listPartitions_53 (by decide) (fun h53 => ?_) (fun h53 => ?_)
            · have h53 := c_le (by omega) (by omega) h53
              refine G.heap (show (va_up (va_up (va_up g 298 (xI S 16 (fun k => nI (rwF m (pcN m - 1) k)))) 286 (.inr (8, [.int (nI z.1), .int (nI z.2.1), .int z.2.2.1, .int (nI z.2.2.2.1), .ref (E.1 287), .ref (E.1 288), .ref (E.1 289), .ref (E.1 290), .ref (E.1 291), .ref (E.1 292), .ref (E.1 293), .ref (E.1 294), .ref (E.1 295), .ref (E.1 296), .ref (E.1 297), .ref (E.1 298), .int (nI (pcN m - 1)), .ref (E.1 299), .ref (E.1 300), .ref (E.1 301), .ref (E.1 302), .int (nI z.2.2.2.2.2.1), .int (nI z.2.2.2.2.2.2.1), .int (nI z.2.2.2.2.2.2.2.1), .ref (E.1 303), .ref (E.1 304), .ref (E.1 305), .ref (E.1 306), .ref (E.1 307), .int (nI z.2.2.2.2.2.2.2.2.1), .int (b2i z.2.2.2.2.2.2.2.2.2.1), .int (b2i z.2.2.2.2.2.2.2.2.2.2.1)]))) 297 (xI S 3696 (fun k => nI (lsI z.2.2.2.2.2.2.2.2.2.2.2.2.2.2.2.2.2.2.2.2.2.1 (rwF m) (pcN m - 1) 16 k)))) = (va_up (va_up (va_up g 298 (xI S 16 (fun k => nI (rwF m (pcN m - 1) k)))) 286 (.inr (8, [.int (nI z.1), .int (nI z.2.1), .int z.2.2.1, .int (nI z.2.2.2.1), .ref (E.1 287), .ref (E.1 288), .ref (E.1 289), .ref (E.1 290), .ref (E.1 291), .ref (E.1 292), .ref (E.1 293), .ref (E.1 294), .ref (E.1 295), .ref (E.1 296), .ref (E.1 297), .ref (E.1 298), .int (nI (pcN m - 1)), .ref (E.1 299), .ref (E.1 300), .ref (E.1 301), .ref (E.1 302), .int (nI z.2.2.2.2.2.1), .int (nI z.2.2.2.2.2.2.1), .int (nI z.2.2.2.2.2.2.2.1), .ref (E.1 303), .ref (E.1 304), .ref (E.1 305), .ref (E.1 306), .ref (E.1 307), .int (nI z.2.2.2.2.2.2.2.2.1), .int (b2i z.2.2.2.2.2.2.2.2.2.1), .int (b2i z.2.2.2.2.2.2.2.2.2.2.1)]))) 297 (xI S 3696 (fun k => nI (lsI z.2.2.2.2.2.2.2.2.2.2.2.2.2.2.2.2.2.2.2.2.2.1 (rwF m) ((pcN m - 1) + 1) 0 k)))) from by rw [show (fun k => nI (lsI z.2.2.2.2.2.2.2.2.2.2.2.2.2.2.2.2.2.2.2.2.2.1 (rwF m) (pcN m - 1) 16 k)) = (fun k => nI (lsI z.2.2.2.2.2.2.2.2.2.2.2.2.2.2.2.2.2.2.2.2.2.1 (rwF m) ((pcN m - 1) + 1) 0 k)) from funext fun j => congrArg nI (lsI_n z.2.2.2.2.2.2.2.2.2.2.2.2.2.2.2.2.2.2.2.2.2.1 (rwF m) (pcN m - 1) j)]) ?_
              refine r_aload_n (pc := 82) C dX8_listPartitions_82 rfl ?_
              refine r_dup (pc := 83) C dX8_listPartitions_83 rfl ?_
              refine r_getf (pc := 84) C dX8_listPartitions_84 fl_RX8_226 (Ce.up (Ce.new (Ce.up hM.1 (by decide))) (by decide)) rfl ?_
              refine r_iconst (pc := 87) (v := nI 1) C dX8_listPartitions_87 (by decide +kernel) ?_
              refine r_iadd (pc := 88) C dX8_listPartitions_88 ?_
              refine r_ti (nI ((pcN m - 1) + 1)) (nI_add _ _) ?_
              refine r_putf (pc := 89) C dX8_listPartitions_89 fp_RX8_226 (Ce.up (Ce.new (Ce.up hM.1 (by decide))) (by decide)) rfl rfl (Nat.le_of_ble_eq_true rfl) ?_
              refine r_aload_n (pc := 92) C dX8_listPartitions_92 rfl ?_
              refine r_callV (pc := 93) C dX8_listPartitions_93 cv_RX8_229 (c_X8_isNext_f (N := z.1) (r := z.2.1) ⟨_, (Ce.new (Ce.up (Ce.new (Ce.up hM.1 (by decide))) (by decide))), rfl, rfl, rfl, rfl, rfl, rfl, rfl, rfl, rfl, rfl, rfl, rfl, rfl, rfl, rfl, rfl, rfl, rfl, rfl, rfl, rfl, rfl, rfl⟩ hN hr (Ce.up (Ce.up (Ce.up (Ce.new hM.2.2.2.2.2.2.2.2.2.2.2.2.1) (by decide)) (by decide)) (by decide)) (hv (pcN m - 1) (by omega)) hend) ⟨rfl, rfl, by decide, by decide⟩ (Ce.new (Ce.up (Ce.new (Ce.up hM.1 (by decide))) (by decide))) rfl rfl (Nat.le_of_ble_eq_true rfl) ⟨Nat.zero_le _, Nat.zero_le _⟩ ?_
              rintro _ _ ⟨_, rfl, rfl, w, rfl⟩
              show G M S E (0, 0) (va_up (va_up (va_up (va_up (va_up g 298 (xI S 16 (fun k => nI (rwF m (pcN m - 1) k)))) 286 (.inr (8, [.int (nI z.1), .int (nI z.2.1), .int z.2.2.1, .int (nI z.2.2.2.1), .ref (E.1 287), .ref (E.1 288), .ref (E.1 289), .ref (E.1 290), .ref (E.1 291), .ref (E.1 292), .ref (E.1 293), .ref (E.1 294), .ref (E.1 295), .ref (E.1 296), .ref (E.1 297), .ref (E.1 298), .int (nI (pcN m - 1)), .ref (E.1 299), .ref (E.1 300), .ref (E.1 301), .ref (E.1 302), .int (nI z.2.2.2.2.2.1), .int (nI z.2.2.2.2.2.2.1), .int (nI z.2.2.2.2.2.2.2.1), .ref (E.1 303), .ref (E.1 304), .ref (E.1 305), .ref (E.1 306), .ref (E.1 307), .int (nI z.2.2.2.2.2.2.2.2.1), .int (b2i z.2.2.2.2.2.2.2.2.2.1), .int (b2i z.2.2.2.2.2.2.2.2.2.2.1)]))) 297 (xI S 3696 (fun k => nI (lsI z.2.2.2.2.2.2.2.2.2.2.2.2.2.2.2.2.2.2.2.2.2.1 (rwF m) ((pcN m - 1) + 1) 0 k)))) 286 (.inr (8, [.int (nI z.1), .int (nI z.2.1), .int z.2.2.1, .int (nI z.2.2.2.1), .ref (E.1 287), .ref (E.1 288), .ref (E.1 289), .ref (E.1 290), .ref (E.1 291), .ref (E.1 292), .ref (E.1 293), .ref (E.1 294), .ref (E.1 295), .ref (E.1 296), .ref (E.1 297), .ref (E.1 298), .int (nI ((pcN m - 1) + 1)), .ref (E.1 299), .ref (E.1 300), .ref (E.1 301), .ref (E.1 302), .int (nI z.2.2.2.2.2.1), .int (nI z.2.2.2.2.2.2.1), .int (nI z.2.2.2.2.2.2.2.1), .ref (E.1 303), .ref (E.1 304), .ref (E.1 305), .ref (E.1 306), .ref (E.1 307), .int (nI z.2.2.2.2.2.2.2.2.1), .int (b2i z.2.2.2.2.2.2.2.2.2.1), .int (b2i z.2.2.2.2.2.2.2.2.2.2.1)]))) 298 (xI S 16 (fun k => nI (w k)))) 96 [some (.ref (E.1 286)), some (.int (nI m)), some (.int (nI 16))] [.int (b2i false)]
              refine G.heap (show (va_up (va_up (va_up (va_up (va_up g 298 (xI S 16 (fun k => nI (rwF m (pcN m - 1) k)))) 286 (.inr (8, [.int (nI z.1), .int (nI z.2.1), .int z.2.2.1, .int (nI z.2.2.2.1), .ref (E.1 287), .ref (E.1 288), .ref (E.1 289), .ref (E.1 290), .ref (E.1 291), .ref (E.1 292), .ref (E.1 293), .ref (E.1 294), .ref (E.1 295), .ref (E.1 296), .ref (E.1 297), .ref (E.1 298), .int (nI (pcN m - 1)), .ref (E.1 299), .ref (E.1 300), .ref (E.1 301), .ref (E.1 302), .int (nI z.2.2.2.2.2.1), .int (nI z.2.2.2.2.2.2.1), .int (nI z.2.2.2.2.2.2.2.1), .ref (E.1 303), .ref (E.1 304), .ref (E.1 305), .ref (E.1 306), .ref (E.1 307), .int (nI z.2.2.2.2.2.2.2.2.1), .int (b2i z.2.2.2.2.2.2.2.2.2.1), .int (b2i z.2.2.2.2.2.2.2.2.2.2.1)]))) 297 (xI S 3696 (fun k => nI (lsI z.2.2.2.2.2.2.2.2.2.2.2.2.2.2.2.2.2.2.2.2.2.1 (rwF m) ((pcN m - 1) + 1) 0 k)))) 286 (.inr (8, [.int (nI z.1), .int (nI z.2.1), .int z.2.2.1, .int (nI z.2.2.2.1), .ref (E.1 287), .ref (E.1 288), .ref (E.1 289), .ref (E.1 290), .ref (E.1 291), .ref (E.1 292), .ref (E.1 293), .ref (E.1 294), .ref (E.1 295), .ref (E.1 296), .ref (E.1 297), .ref (E.1 298), .int (nI ((pcN m - 1) + 1)), .ref (E.1 299), .ref (E.1 300), .ref (E.1 301), .ref (E.1 302), .int (nI z.2.2.2.2.2.1), .int (nI z.2.2.2.2.2.2.1), .int (nI z.2.2.2.2.2.2.2.1), .ref (E.1 303), .ref (E.1 304), .ref (E.1 305), .ref (E.1 306), .ref (E.1 307), .int (nI z.2.2.2.2.2.2.2.2.1), .int (b2i z.2.2.2.2.2.2.2.2.2.1), .int (b2i z.2.2.2.2.2.2.2.2.2.2.1)]))) 298 (xI S 16 (fun k => nI (w k)))) = (va_up (va_up (va_up g 298 (xI S 16 (fun k => nI (w k)))) 286 (.inr (8, [.int (nI z.1), .int (nI z.2.1), .int z.2.2.1, .int (nI z.2.2.2.1), .ref (E.1 287), .ref (E.1 288), .ref (E.1 289), .ref (E.1 290), .ref (E.1 291), .ref (E.1 292), .ref (E.1 293), .ref (E.1 294), .ref (E.1 295), .ref (E.1 296), .ref (E.1 297), .ref (E.1 298), .int (nI ((pcN m - 1) + 1)), .ref (E.1 299), .ref (E.1 300), .ref (E.1 301), .ref (E.1 302), .int (nI z.2.2.2.2.2.1), .int (nI z.2.2.2.2.2.2.1), .int (nI z.2.2.2.2.2.2.2.1), .ref (E.1 303), .ref (E.1 304), .ref (E.1 305), .ref (E.1 306), .ref (E.1 307), .int (nI z.2.2.2.2.2.2.2.2.1), .int (b2i z.2.2.2.2.2.2.2.2.2.1), .int (b2i z.2.2.2.2.2.2.2.2.2.2.1)]))) 297 (xI S 3696 (fun k => nI (lsI z.2.2.2.2.2.2.2.2.2.2.2.2.2.2.2.2.2.2.2.2.2.1 (rwF m) ((pcN m - 1) + 1) 0 k)))) from by funext q; simp only [va_up]; (repeat' split) <;> first | rfl | omega) ?_
              refine r_if_ne (pc := 96) (tgt := 48) C dX8_listPartitions_96 (by decide) (fun h96 => ?_) (fun h96 => ?_)
              · have h96 := b_t h96
                cases h96
              · have h96 := b_f h96
                refine r_aload_n (pc := 99) C dX8_listPartitions_99 rfl ?_
                refine r_getf (pc := 100) C dX8_listPartitions_100 fl_RX8_226 (Ce.up (Ce.new (Ce.up hM.1 (by decide))) (by decide)) rfl ?_
                exact r_iret (pc := 103) C Z dX8_listPartitions_103 rfl (by rw [show qLst z (nI m) = (nI (pcN m - 1 + 1), s_lp z (lsI z.2.2.2.2.2.2.2.2.2.2.2.2.2.2.2.2.2.2.2.2.2.1 (rwF m) (pcN m - 1 + 1) 0) (pcN m - 1 + 1)) by simp only [qLst, h9, iN_nI hm, cond_true, cond_false, if_true, if_false, not_true_eq_false, not_false_eq_true, ↓reduceIte]]; exact ⟨rfl, ⟨s_ls z (lsI z.2.2.2.2.2.2.2.2.2.2.2.2.2.2.2.2.2.2.2.2.2.1 (rwF m) (pcN m - 1 + 1) 0) (pcN m - 1 + 1) w, (by simp only [MC, s_n, s_r, s_len, s_rem, s_pc, s_hd, s_at_, s_wr, s_cu, s_hs, s_sv, s_fr, s_fa, s_fb, s_fe, s_f1, s_f2, s_f3, s_f4, s_f5, s_f6, s_fp, s_fc, s_wd, s_bg, s_fi, s_fo, s_st, s_ss, s_fl, s_fm, s_fs, s_tnp, s_scr, s_f12, s_wr2, s_ls, s_lp, s_hfp]; exact ⟨(Ce.up (Ce.new (Ce.up hM.1 (by decide))) (by decide)), (Ce.up (Ce.up (Ce.up hM.2.1 (by decide)) (by decide)) (by decide)), (Ce.up (Ce.up (Ce.up hM.2.2.1 (by decide)) (by decide)) (by decide)), (Ce.up (Ce.up (Ce.up hM.2.2.2.1 (by decide)) (by decide)) (by decide)), (Ce.up (Ce.up (Ce.up hM.2.2.2.2.1 (by decide)) (by decide)) (by decide)), (Ce.up (Ce.up (Ce.up hM.2.2.2.2.2.1 (by decide)) (by decide)) (by decide)), (Ce.up (Ce.up (Ce.up hM.2.2.2.2.2.2.1 (by decide)) (by decide)) (by decide)), (Ce.up (Ce.up (Ce.up hM.2.2.2.2.2.2.2.1 (by decide)) (by decide)) (by decide)), (Ce.up (Ce.up (Ce.up hM.2.2.2.2.2.2.2.2.1 (by decide)) (by decide)) (by decide)), (Ce.up (Ce.up (Ce.up hM.2.2.2.2.2.2.2.2.2.1 (by decide)) (by decide)) (by decide)), (Ce.up (Ce.up (Ce.up hM.2.2.2.2.2.2.2.2.2.2.1 (by decide)) (by decide)) (by decide)), (Ce.new (Ce.up (Ce.up hM.2.2.2.2.2.2.2.2.2.2.2.1 (by decide)) (by decide))), (Ce.up (Ce.up (Ce.new hM.2.2.2.2.2.2.2.2.2.2.2.2.1) (by decide)) (by decide)), (Ce.up (Ce.up (Ce.up hM.2.2.2.2.2.2.2.2.2.2.2.2.2.1 (by decide)) (by decide)) (by decide)), (Ce.up (Ce.up (Ce.up hM.2.2.2.2.2.2.2.2.2.2.2.2.2.2.1 (by decide)) (by decide)) (by decide)), (Ce.up (Ce.up (Ce.up hM.2.2.2.2.2.2.2.2.2.2.2.2.2.2.2.1 (by decide)) (by decide)) (by decide)), (Ce.up (Ce.up (Ce.up hM.2.2.2.2.2.2.2.2.2.2.2.2.2.2.2.2.1 (by decide)) (by decide)) (by decide)), (Ce.up (Ce.up (Ce.up hM.2.2.2.2.2.2.2.2.2.2.2.2.2.2.2.2.2.1 (by decide)) (by decide)) (by decide)), (Ce.up (Ce.up (Ce.up hM.2.2.2.2.2.2.2.2.2.2.2.2.2.2.2.2.2.2.1 (by decide)) (by decide)) (by decide)), (Ce.up (Ce.up (Ce.up hM.2.2.2.2.2.2.2.2.2.2.2.2.2.2.2.2.2.2.2.1 (by decide)) (by decide)) (by decide)), (Ce.up (Ce.up (Ce.up hM.2.2.2.2.2.2.2.2.2.2.2.2.2.2.2.2.2.2.2.2.1 (by decide)) (by decide)) (by decide)), (Ce.up (Ce.up (Ce.up hM.2.2.2.2.2.2.2.2.2.2.2.2.2.2.2.2.2.2.2.2.2 (by decide)) (by decide)) (by decide))⟩), (by simp only [Sv, s_n, s_r, s_len, s_rem, s_pc, s_hd, s_at_, s_wr, s_cu, s_hs, s_sv, s_fr, s_fa, s_fb, s_fe, s_f1, s_f2, s_f3, s_f4, s_f5, s_f6, s_fp, s_fc, s_wd, s_bg, s_fi, s_fo, s_st, s_ss, s_fl, s_fm, s_fs, s_tnp, s_scr, s_f12, s_wr2, s_ls, s_lp, s_hfp, and_self])⟩, (((Fr.rf.up (by omega) (by omega)).up (by omega) (by omega)).up (by omega) (by omega))⟩)
            · have h53 := c_nle (by omega) (by omega) h53
              omega
          · show G M S E (0, 0) (va_up (va_up (va_up g 298 (xI S 16 (fun k => nI (rwF m (pcN m - 1) k)))) 286 (.inr (8, [.int (nI z.1), .int (nI z.2.1), .int z.2.2.1, .int (nI z.2.2.2.1), .ref (E.1 287), .ref (E.1 288), .ref (E.1 289), .ref (E.1 290), .ref (E.1 291), .ref (E.1 292), .ref (E.1 293), .ref (E.1 294), .ref (E.1 295), .ref (E.1 296), .ref (E.1 297), .ref (E.1 298), .int (nI (pcN m - 1)), .ref (E.1 299), .ref (E.1 300), .ref (E.1 301), .ref (E.1 302), .int (nI z.2.2.2.2.2.1), .int (nI z.2.2.2.2.2.2.1), .int (nI z.2.2.2.2.2.2.2.1), .ref (E.1 303), .ref (E.1 304), .ref (E.1 305), .ref (E.1 306), .ref (E.1 307), .int (nI z.2.2.2.2.2.2.2.2.1), .int (b2i z.2.2.2.2.2.2.2.2.2.1), .int (b2i z.2.2.2.2.2.2.2.2.2.2.1)]))) 297 (xI S 3696 (fun k => nI (lsI z.2.2.2.2.2.2.2.2.2.2.2.2.2.2.2.2.2.2.2.2.2.1 (rwF m) (pcN m - 1) t3 k)))) 50 [some (.ref (E.1 286)), some (.int (nI m)), some (.int (nI t3))] []
            refine r_iload_n (pc := 50) C dX8_listPartitions_50 rfl ?_
            refine r_bipush (pc := 51) (v := nI 16) C dX8_listPartitions_51 (by decide +kernel) ?_
            refine r_icmp_ge (pc := 53) (tgt := 82) C dX8_listPartitions_53 (by decide) (fun h53 => ?_) (fun h53 => ?_)
            · have h53 := c_le (by omega) (by omega) h53
              omega
            · have h53 := c_nle (by omega) (by omega) h53
              refine r_aload_n (pc := 56) C dX8_listPartitions_56 rfl ?_
              refine r_getf (pc := 57) C dX8_listPartitions_57 fl_RX8_52 (Ce.up (Ce.new (Ce.up hM.1 (by decide))) (by decide)) rfl ?_
              refine r_bipush (pc := 60) (v := nI 16) C dX8_listPartitions_60 (by decide +kernel) ?_
              refine r_aload_n (pc := 62) C dX8_listPartitions_62 rfl ?_
              refine r_getf (pc := 63) C dX8_listPartitions_63 fl_RX8_226 (Ce.up (Ce.new (Ce.up hM.1 (by decide))) (by decide)) rfl ?_
              refine r_imul (pc := 66) C dX8_listPartitions_66 ?_
              refine r_ti (nI (16 * (pcN m - 1))) (pk_mul _ _) ?_
              refine r_iload_n (pc := 67) C dX8_listPartitions_67 rfl ?_
              refine r_iadd (pc := 68) C dX8_listPartitions_68 ?_
              refine r_ti (nI (16 * (pcN m - 1) + t3)) (nI_add _ _) ?_
              refine r_aload_n (pc := 69) C dX8_listPartitions_69 rfl ?_
              refine r_getf (pc := 70) C dX8_listPartitions_70 fl_RX8_56 (Ce.up (Ce.new (Ce.up hM.1 (by decide))) (by decide)) rfl ?_
              refine r_iload_n (pc := 73) C dX8_listPartitions_73 rfl ?_
              refine r_iald (pc := 74) C dX8_listPartitions_74 (Ce.up (Ce.up (Ce.new hM.2.2.2.2.2.2.2.2.2.2.2.2.1) (by decide)) (by decide)) rfl (by omega) (by omega) ?_
              refine r_ti (nI (rwF m (pcN m - 1) t3)) rfl ?_
              refine r_iast2 (pc := 75) C dX8_listPartitions_75 hM.2.2.2.2.2.2.2.2.2.2.2.1.1 rfl (by omega) (by omega) ?_
              refine G.heap (show (va_up (va_up (va_up g 298 (xI S 16 (fun k => nI (rwF m (pcN m - 1) k)))) 286 (.inr (8, [.int (nI z.1), .int (nI z.2.1), .int z.2.2.1, .int (nI z.2.2.2.1), .ref (E.1 287), .ref (E.1 288), .ref (E.1 289), .ref (E.1 290), .ref (E.1 291), .ref (E.1 292), .ref (E.1 293), .ref (E.1 294), .ref (E.1 295), .ref (E.1 296), .ref (E.1 297), .ref (E.1 298), .int (nI (pcN m - 1)), .ref (E.1 299), .ref (E.1 300), .ref (E.1 301), .ref (E.1 302), .int (nI z.2.2.2.2.2.1), .int (nI z.2.2.2.2.2.2.1), .int (nI z.2.2.2.2.2.2.2.1), .ref (E.1 303), .ref (E.1 304), .ref (E.1 305), .ref (E.1 306), .ref (E.1 307), .int (nI z.2.2.2.2.2.2.2.2.1), .int (b2i z.2.2.2.2.2.2.2.2.2.1), .int (b2i z.2.2.2.2.2.2.2.2.2.2.1)]))) 297 (xI S 3696 (upd (fun k => nI (lsI z.2.2.2.2.2.2.2.2.2.2.2.2.2.2.2.2.2.2.2.2.2.1 (rwF m) (pcN m - 1) t3 k)) (16 * (pcN m - 1) + t3) (nI (rwF m (pcN m - 1) t3))))) = (va_up (va_up (va_up g 298 (xI S 16 (fun k => nI (rwF m (pcN m - 1) k)))) 286 (.inr (8, [.int (nI z.1), .int (nI z.2.1), .int z.2.2.1, .int (nI z.2.2.2.1), .ref (E.1 287), .ref (E.1 288), .ref (E.1 289), .ref (E.1 290), .ref (E.1 291), .ref (E.1 292), .ref (E.1 293), .ref (E.1 294), .ref (E.1 295), .ref (E.1 296), .ref (E.1 297), .ref (E.1 298), .int (nI (pcN m - 1)), .ref (E.1 299), .ref (E.1 300), .ref (E.1 301), .ref (E.1 302), .int (nI z.2.2.2.2.2.1), .int (nI z.2.2.2.2.2.2.1), .int (nI z.2.2.2.2.2.2.2.1), .ref (E.1 303), .ref (E.1 304), .ref (E.1 305), .ref (E.1 306), .ref (E.1 307), .int (nI z.2.2.2.2.2.2.2.2.1), .int (b2i z.2.2.2.2.2.2.2.2.2.1), .int (b2i z.2.2.2.2.2.2.2.2.2.2.1)]))) 297 (xI S 3696 (fun k => nI (lsI z.2.2.2.2.2.2.2.2.2.2.2.2.2.2.2.2.2.2.2.2.2.1 (rwF m) (pcN m - 1) (t3 + 1) k)))) from by rw [show xI S 3696 (upd (fun k => nI (lsI z.2.2.2.2.2.2.2.2.2.2.2.2.2.2.2.2.2.2.2.2.2.1 (rwF m) (pcN m - 1) t3 k)) (16 * (pcN m - 1) + t3) (nI (rwF m (pcN m - 1) t3))) = xI S 3696 (fun k => nI (lsI z.2.2.2.2.2.2.2.2.2.2.2.2.2.2.2.2.2.2.2.2.2.1 (rwF m) (pcN m - 1) (t3 + 1) k)) from congrArg (xI S 3696) (funext fun j => lsI_s z.2.2.2.2.2.2.2.2.2.2.2.2.2.2.2.2.2.2.2.2.2.1 (rwF m) (by omega) j)]) ?_
              refine r_iinc (pc := 76) (v := nI (t3 + 1)) C dX8_listPartitions_76 rfl (nI_i1 _) (by decide) ?_
              refine G.eq (pc' := 79) (vs' := [some (.ref (E.1 286)), some (.int (nI m)), some (.int (nI (t3 + 1)))]) (st' := []) ?_
              refine r_goto (pc := 79) (tgt := 50) C dX8_listPartitions_79 (by decide) ?_
              exact ih
        · show G M S E (0, 0) (va_up (va_up (va_up g 298 (xI S 16 (fun k => nI (rwF m t2 k)))) 286 (.inr (8, [.int (nI z.1), .int (nI z.2.1), .int z.2.2.1, .int (nI z.2.2.2.1), .ref (E.1 287), .ref (E.1 288), .ref (E.1 289), .ref (E.1 290), .ref (E.1 291), .ref (E.1 292), .ref (E.1 293), .ref (E.1 294), .ref (E.1 295), .ref (E.1 296), .ref (E.1 297), .ref (E.1 298), .int (nI t2), .ref (E.1 299), .ref (E.1 300), .ref (E.1 301), .ref (E.1 302), .int (nI z.2.2.2.2.2.1), .int (nI z.2.2.2.2.2.2.1), .int (nI z.2.2.2.2.2.2.2.1), .ref (E.1 303), .ref (E.1 304), .ref (E.1 305), .ref (E.1 306), .ref (E.1 307), .int (nI z.2.2.2.2.2.2.2.2.1), .int (b2i z.2.2.2.2.2.2.2.2.2.1), .int (b2i z.2.2.2.2.2.2.2.2.2.2.1)]))) 297 (xI S 3696 (fun k => nI (lsI z.2.2.2.2.2.2.2.2.2.2.2.2.2.2.2.2.2.2.2.2.2.1 (rwF m) t2 0 k)))) 48 [some (.ref (E.1 286)), some (.int (nI m)), none] []
          have htt := ht
          have ih2 := ih
          refine r_iconst (pc := 48) (v := nI 0) C dX8_listPartitions_48 (by decide +kernel) ?_
          refine r_istore_n (pc := 49) C dX8_listPartitions_49 (by decide) ?_
          refine G.eq (pc' := 50) (vs' := [some (.ref (E.1 286)), some (.int (nI m)), some (.int (nI 0))]) (st' := []) ?_
          refine bk (P := fun t3 => G M S E (0, 0) (va_up (va_up (va_up g 298 (xI S 16 (fun k => nI (rwF m t2 k)))) 286 (.inr (8, [.int (nI z.1), .int (nI z.2.1), .int z.2.2.1, .int (nI z.2.2.2.1), .ref (E.1 287), .ref (E.1 288), .ref (E.1 289), .ref (E.1 290), .ref (E.1 291), .ref (E.1 292), .ref (E.1 293), .ref (E.1 294), .ref (E.1 295), .ref (E.1 296), .ref (E.1 297), .ref (E.1 298), .int (nI t2), .ref (E.1 299), .ref (E.1 300), .ref (E.1 301), .ref (E.1 302), .int (nI z.2.2.2.2.2.1), .int (nI z.2.2.2.2.2.2.1), .int (nI z.2.2.2.2.2.2.2.1), .ref (E.1 303), .ref (E.1 304), .ref (E.1 305), .ref (E.1 306), .ref (E.1 307), .int (nI z.2.2.2.2.2.2.2.2.1), .int (b2i z.2.2.2.2.2.2.2.2.2.1), .int (b2i z.2.2.2.2.2.2.2.2.2.2.1)]))) 297 (xI S 3696 (fun k => nI (lsI z.2.2.2.2.2.2.2.2.2.2.2.2.2.2.2.2.2.2.2.2.2.1 (rwF m) t2 t3 k)))) 50 [some (.ref (E.1 286)), some (.int (nI m)), some (.int (nI t3))] []) (T := 16) ?_ (fun t3 ht ih => ?_)
          · show G M S E (0, 0) (va_up (va_up (va_up g 298 (xI S 16 (fun k => nI (rwF m t2 k)))) 286 (.inr (8, [.int (nI z.1), .int (nI z.2.1), .int z.2.2.1, .int (nI z.2.2.2.1), .ref (E.1 287), .ref (E.1 288), .ref (E.1 289), .ref (E.1 290), .ref (E.1 291), .ref (E.1 292), .ref (E.1 293), .ref (E.1 294), .ref (E.1 295), .ref (E.1 296), .ref (E.1 297), .ref (E.1 298), .int (nI t2), .ref (E.1 299), .ref (E.1 300), .ref (E.1 301), .ref (E.1 302), .int (nI z.2.2.2.2.2.1), .int (nI z.2.2.2.2.2.2.1), .int (nI z.2.2.2.2.2.2.2.1), .ref (E.1 303), .ref (E.1 304), .ref (E.1 305), .ref (E.1 306), .ref (E.1 307), .int (nI z.2.2.2.2.2.2.2.2.1), .int (b2i z.2.2.2.2.2.2.2.2.2.1), .int (b2i z.2.2.2.2.2.2.2.2.2.2.1)]))) 297 (xI S 3696 (fun k => nI (lsI z.2.2.2.2.2.2.2.2.2.2.2.2.2.2.2.2.2.2.2.2.2.1 (rwF m) t2 16 k)))) 50 [some (.ref (E.1 286)), some (.int (nI m)), some (.int (nI 16))] []
            refine r_iload_n (pc := 50) C dX8_listPartitions_50 rfl ?_
            refine r_bipush (pc := 51) (v := nI 16) C dX8_listPartitions_51 (by decide +kernel) ?_
            refine r_icmp_ge (pc := 53) (tgt := 82) C dX8_listPartitions_53 (by decide) (fun h53 => ?_) (fun h53 => ?_)
            · have h53 := c_le (by omega) (by omega) h53
              refine G.heap (show (va_up (va_up (va_up g 298 (xI S 16 (fun k => nI (rwF m t2 k)))) 286 (.inr (8, [.int (nI z.1), .int (nI z.2.1), .int z.2.2.1, .int (nI z.2.2.2.1), .ref (E.1 287), .ref (E.1 288), .ref (E.1 289), .ref (E.1 290), .ref (E.1 291), .ref (E.1 292), .ref (E.1 293), .ref (E.1 294), .ref (E.1 295), .ref (E.1 296), .ref (E.1 297), .ref (E.1 298), .int (nI t2), .ref (E.1 299), .ref (E.1 300), .ref (E.1 301), .ref (E.1 302), .int (nI z.2.2.2.2.2.1), .int (nI z.2.2.2.2.2.2.1), .int (nI z.2.2.2.2.2.2.2.1), .ref (E.1 303), .ref (E.1 304), .ref (E.1 305), .ref (E.1 306), .ref (E.1 307), .int (nI z.2.2.2.2.2.2.2.2.1), .int (b2i z.2.2.2.2.2.2.2.2.2.1), .int (b2i z.2.2.2.2.2.2.2.2.2.2.1)]))) 297 (xI S 3696 (fun k => nI (lsI z.2.2.2.2.2.2.2.2.2.2.2.2.2.2.2.2.2.2.2.2.2.1 (rwF m) t2 16 k)))) = (va_up (va_up (va_up g 298 (xI S 16 (fun k => nI (rwF m t2 k)))) 286 (.inr (8, [.int (nI z.1), .int (nI z.2.1), .int z.2.2.1, .int (nI z.2.2.2.1), .ref (E.1 287), .ref (E.1 288), .ref (E.1 289), .ref (E.1 290), .ref (E.1 291), .ref (E.1 292), .ref (E.1 293), .ref (E.1 294), .ref (E.1 295), .ref (E.1 296), .ref (E.1 297), .ref (E.1 298), .int (nI t2), .ref (E.1 299), .ref (E.1 300), .ref (E.1 301), .ref (E.1 302), .int (nI z.2.2.2.2.2.1), .int (nI z.2.2.2.2.2.2.1), .int (nI z.2.2.2.2.2.2.2.1), .ref (E.1 303), .ref (E.1 304), .ref (E.1 305), .ref (E.1 306), .ref (E.1 307), .int (nI z.2.2.2.2.2.2.2.2.1), .int (b2i z.2.2.2.2.2.2.2.2.2.1), .int (b2i z.2.2.2.2.2.2.2.2.2.2.1)]))) 297 (xI S 3696 (fun k => nI (lsI z.2.2.2.2.2.2.2.2.2.2.2.2.2.2.2.2.2.2.2.2.2.1 (rwF m) (t2 + 1) 0 k)))) from by rw [show (fun k => nI (lsI z.2.2.2.2.2.2.2.2.2.2.2.2.2.2.2.2.2.2.2.2.2.1 (rwF m) t2 16 k)) = (fun k => nI (lsI z.2.2.2.2.2.2.2.2.2.2.2.2.2.2.2.2.2.2.2.2.2.1 (rwF m) (t2 + 1) 0 k)) from funext fun j => congrArg nI (lsI_n z.2.2.2.2.2.2.2.2.2.2.2.2.2.2.2.2.2.2.2.2.2.1 (rwF m) t2 j)]) ?_
              refine r_aload_n (pc := 82) C dX8_listPartitions_82 rfl ?_
              refine r_dup (pc := 83) C dX8_listPartitions_83 rfl ?_
              refine r_getf (pc := 84) C dX8_listPartitions_84 fl_RX8_226 (Ce.up (Ce.new (Ce.up hM.1 (by decide))) (by decide)) rfl ?_
              refine r_iconst (pc := 87) (v := nI 1) C dX8_listPartitions_87 (by decide +kernel) ?_
              refine r_iadd (pc := 88) C dX8_listPartitions_88 ?_
              refine r_ti (nI (t2 + 1)) (nI_add _ _) ?_
              refine r_putf (pc := 89) C dX8_listPartitions_89 fp_RX8_226 (Ce.up (Ce.new (Ce.up hM.1 (by decide))) (by decide)) rfl rfl (Nat.le_of_ble_eq_true rfl) ?_
              refine r_aload_n (pc := 92) C dX8_listPartitions_92 rfl ?_
              obtain ⟨p, hp⟩ : ∃ p, lpN (rwF m t2) 16 = p + 1 := ⟨lpN (rwF m t2) 16 - 1, by have := hgo t2 htt; omega⟩
              refine r_callV (pc := 93) C dX8_listPartitions_93 cv_RX8_229 (c_X8_isNext_t (N := z.1) (r := z.2.1) ⟨_, (Ce.new (Ce.up (Ce.new (Ce.up hM.1 (by decide))) (by decide))), rfl, rfl, rfl, rfl, rfl, rfl, rfl, rfl, rfl, rfl, rfl, rfl, rfl, rfl, rfl, rfl, rfl, rfl, rfl, rfl, rfl, rfl, rfl⟩ hN hr (Ce.up (Ce.up (Ce.up (Ce.new hM.2.2.2.2.2.2.2.2.2.2.2.2.1) (by decide)) (by decide)) (by decide)) (hv t2 (by omega)) hp) ⟨rfl, rfl, by decide, by decide⟩ (Ce.new (Ce.up (Ce.new (Ce.up hM.1 (by decide))) (by decide))) rfl rfl (Nat.le_of_ble_eq_true rfl) ⟨Nat.zero_le _, Nat.zero_le _⟩ ?_
              rintro _ _ ⟨_, rfl, rfl, rfl⟩
              show G M S E (0, 0) (va_up (va_up (va_up (va_up (va_up g 298 (xI S 16 (fun k => nI (rwF m t2 k)))) 286 (.inr (8, [.int (nI z.1), .int (nI z.2.1), .int z.2.2.1, .int (nI z.2.2.2.1), .ref (E.1 287), .ref (E.1 288), .ref (E.1 289), .ref (E.1 290), .ref (E.1 291), .ref (E.1 292), .ref (E.1 293), .ref (E.1 294), .ref (E.1 295), .ref (E.1 296), .ref (E.1 297), .ref (E.1 298), .int (nI t2), .ref (E.1 299), .ref (E.1 300), .ref (E.1 301), .ref (E.1 302), .int (nI z.2.2.2.2.2.1), .int (nI z.2.2.2.2.2.2.1), .int (nI z.2.2.2.2.2.2.2.1), .ref (E.1 303), .ref (E.1 304), .ref (E.1 305), .ref (E.1 306), .ref (E.1 307), .int (nI z.2.2.2.2.2.2.2.2.1), .int (b2i z.2.2.2.2.2.2.2.2.2.1), .int (b2i z.2.2.2.2.2.2.2.2.2.2.1)]))) 297 (xI S 3696 (fun k => nI (lsI z.2.2.2.2.2.2.2.2.2.2.2.2.2.2.2.2.2.2.2.2.2.1 (rwF m) (t2 + 1) 0 k)))) 286 (.inr (8, [.int (nI z.1), .int (nI z.2.1), .int z.2.2.1, .int (nI z.2.2.2.1), .ref (E.1 287), .ref (E.1 288), .ref (E.1 289), .ref (E.1 290), .ref (E.1 291), .ref (E.1 292), .ref (E.1 293), .ref (E.1 294), .ref (E.1 295), .ref (E.1 296), .ref (E.1 297), .ref (E.1 298), .int (nI (t2 + 1)), .ref (E.1 299), .ref (E.1 300), .ref (E.1 301), .ref (E.1 302), .int (nI z.2.2.2.2.2.1), .int (nI z.2.2.2.2.2.2.1), .int (nI z.2.2.2.2.2.2.2.1), .ref (E.1 303), .ref (E.1 304), .ref (E.1 305), .ref (E.1 306), .ref (E.1 307), .int (nI z.2.2.2.2.2.2.2.2.1), .int (b2i z.2.2.2.2.2.2.2.2.2.1), .int (b2i z.2.2.2.2.2.2.2.2.2.2.1)]))) 298 (xI S 16 (fun k => nI (rwF m (t2 + 1) k)))) 96 [some (.ref (E.1 286)), some (.int (nI m)), some (.int (nI 16))] [.int (b2i true)]
              refine G.heap (show (va_up (va_up (va_up (va_up (va_up g 298 (xI S 16 (fun k => nI (rwF m t2 k)))) 286 (.inr (8, [.int (nI z.1), .int (nI z.2.1), .int z.2.2.1, .int (nI z.2.2.2.1), .ref (E.1 287), .ref (E.1 288), .ref (E.1 289), .ref (E.1 290), .ref (E.1 291), .ref (E.1 292), .ref (E.1 293), .ref (E.1 294), .ref (E.1 295), .ref (E.1 296), .ref (E.1 297), .ref (E.1 298), .int (nI t2), .ref (E.1 299), .ref (E.1 300), .ref (E.1 301), .ref (E.1 302), .int (nI z.2.2.2.2.2.1), .int (nI z.2.2.2.2.2.2.1), .int (nI z.2.2.2.2.2.2.2.1), .ref (E.1 303), .ref (E.1 304), .ref (E.1 305), .ref (E.1 306), .ref (E.1 307), .int (nI z.2.2.2.2.2.2.2.2.1), .int (b2i z.2.2.2.2.2.2.2.2.2.1), .int (b2i z.2.2.2.2.2.2.2.2.2.2.1)]))) 297 (xI S 3696 (fun k => nI (lsI z.2.2.2.2.2.2.2.2.2.2.2.2.2.2.2.2.2.2.2.2.2.1 (rwF m) (t2 + 1) 0 k)))) 286 (.inr (8, [.int (nI z.1), .int (nI z.2.1), .int z.2.2.1, .int (nI z.2.2.2.1), .ref (E.1 287), .ref (E.1 288), .ref (E.1 289), .ref (E.1 290), .ref (E.1 291), .ref (E.1 292), .ref (E.1 293), .ref (E.1 294), .ref (E.1 295), .ref (E.1 296), .ref (E.1 297), .ref (E.1 298), .int (nI (t2 + 1)), .ref (E.1 299), .ref (E.1 300), .ref (E.1 301), .ref (E.1 302), .int (nI z.2.2.2.2.2.1), .int (nI z.2.2.2.2.2.2.1), .int (nI z.2.2.2.2.2.2.2.1), .ref (E.1 303), .ref (E.1 304), .ref (E.1 305), .ref (E.1 306), .ref (E.1 307), .int (nI z.2.2.2.2.2.2.2.2.1), .int (b2i z.2.2.2.2.2.2.2.2.2.1), .int (b2i z.2.2.2.2.2.2.2.2.2.2.1)]))) 298 (xI S 16 (fun k => nI (rwF m (t2 + 1) k)))) = (va_up (va_up (va_up g 298 (xI S 16 (fun k => nI (rwF m (t2 + 1) k)))) 286 (.inr (8, [.int (nI z.1), .int (nI z.2.1), .int z.2.2.1, .int (nI z.2.2.2.1), .ref (E.1 287), .ref (E.1 288), .ref (E.1 289), .ref (E.1 290), .ref (E.1 291), .ref (E.1 292), .ref (E.1 293), .ref (E.1 294), .ref (E.1 295), .ref (E.1 296), .ref (E.1 297), .ref (E.1 298), .int (nI (t2 + 1)), .ref (E.1 299), .ref (E.1 300), .ref (E.1 301), .ref (E.1 302), .int (nI z.2.2.2.2.2.1), .int (nI z.2.2.2.2.2.2.1), .int (nI z.2.2.2.2.2.2.2.1), .ref (E.1 303), .ref (E.1 304), .ref (E.1 305), .ref (E.1 306), .ref (E.1 307), .int (nI z.2.2.2.2.2.2.2.2.1), .int (b2i z.2.2.2.2.2.2.2.2.2.1), .int (b2i z.2.2.2.2.2.2.2.2.2.2.1)]))) 297 (xI S 3696 (fun k => nI (lsI z.2.2.2.2.2.2.2.2.2.2.2.2.2.2.2.2.2.2.2.2.2.1 (rwF m) (t2 + 1) 0 k)))) from by funext q; simp only [va_up]; (repeat' split) <;> first | rfl | omega) ?_
              refine r_if_ne (pc := 96) (tgt := 48) C dX8_listPartitions_96 (by decide) (fun h96 => ?_) (fun h96 => ?_)
              · have h96 := b_t h96
                refine G.wk (vs' := [some (.ref (E.1 286)), some (.int (nI m)), none]) ⟨rfl, rfl, trivial⟩ ?_
                exact ih2
              · have h96 := b_f h96
                cases h96
            · have h53 := c_nle (by omega) (by omega) h53
              omega
          · show G M S E (0, 0) (va_up (va_up (va_up g 298 (xI S 16 (fun k => nI (rwF m t2 k)))) 286 (.inr (8, [.int (nI z.1), .int (nI z.2.1), .int z.2.2.1, .int (nI z.2.2.2.1), .ref (E.1 287), .ref (E.1 288), .ref (E.1 289), .ref (E.1 290), .ref (E.1 291), .ref (E.1 292), .ref (E.1 293), .ref (E.1 294), .ref (E.1 295), .ref (E.1 296), .ref (E.1 297), .ref (E.1 298), .int (nI t2), .ref (E.1 299), .ref (E.1 300), .ref (E.1 301), .ref (E.1 302), .int (nI z.2.2.2.2.2.1), .int (nI z.2.2.2.2.2.2.1), .int (nI z.2.2.2.2.2.2.2.1), .ref (E.1 303), .ref (E.1 304), .ref (E.1 305), .ref (E.1 306), .ref (E.1 307), .int (nI z.2.2.2.2.2.2.2.2.1), .int (b2i z.2.2.2.2.2.2.2.2.2.1), .int (b2i z.2.2.2.2.2.2.2.2.2.2.1)]))) 297 (xI S 3696 (fun k => nI (lsI z.2.2.2.2.2.2.2.2.2.2.2.2.2.2.2.2.2.2.2.2.2.1 (rwF m) t2 t3 k)))) 50 [some (.ref (E.1 286)), some (.int (nI m)), some (.int (nI t3))] []
            refine r_iload_n (pc := 50) C dX8_listPartitions_50 rfl ?_
            refine r_bipush (pc := 51) (v := nI 16) C dX8_listPartitions_51 (by decide +kernel) ?_
            refine r_icmp_ge (pc := 53) (tgt := 82) C dX8_listPartitions_53 (by decide) (fun h53 => ?_) (fun h53 => ?_)
            · have h53 := c_le (by omega) (by omega) h53
              omega
            · have h53 := c_nle (by omega) (by omega) h53
              refine r_aload_n (pc := 56) C dX8_listPartitions_56 rfl ?_
              refine r_getf (pc := 57) C dX8_listPartitions_57 fl_RX8_52 (Ce.up (Ce.new (Ce.up hM.1 (by decide))) (by decide)) rfl ?_
              refine r_bipush (pc := 60) (v := nI 16) C dX8_listPartitions_60 (by decide +kernel) ?_
              refine r_aload_n (pc := 62) C dX8_listPartitions_62 rfl ?_
              refine r_getf (pc := 63) C dX8_listPartitions_63 fl_RX8_226 (Ce.up (Ce.new (Ce.up hM.1 (by decide))) (by decide)) rfl ?_
              refine r_imul (pc := 66) C dX8_listPartitions_66 ?_
              refine r_ti (nI (16 * t2)) (pk_mul _ _) ?_
              refine r_iload_n (pc := 67) C dX8_listPartitions_67 rfl ?_
              refine r_iadd (pc := 68) C dX8_listPartitions_68 ?_
              refine r_ti (nI (16 * t2 + t3)) (nI_add _ _) ?_
              refine r_aload_n (pc := 69) C dX8_listPartitions_69 rfl ?_
              refine r_getf (pc := 70) C dX8_listPartitions_70 fl_RX8_56 (Ce.up (Ce.new (Ce.up hM.1 (by decide))) (by decide)) rfl ?_
              refine r_iload_n (pc := 73) C dX8_listPartitions_73 rfl ?_
              refine r_iald (pc := 74) C dX8_listPartitions_74 (Ce.up (Ce.up (Ce.new hM.2.2.2.2.2.2.2.2.2.2.2.2.1) (by decide)) (by decide)) rfl (by omega) (by omega) ?_
              refine r_ti (nI (rwF m t2 t3)) rfl ?_
              refine r_iast2 (pc := 75) C dX8_listPartitions_75 hM.2.2.2.2.2.2.2.2.2.2.2.1.1 rfl (by omega) (by omega) ?_
              refine G.heap (show (va_up (va_up (va_up g 298 (xI S 16 (fun k => nI (rwF m t2 k)))) 286 (.inr (8, [.int (nI z.1), .int (nI z.2.1), .int z.2.2.1, .int (nI z.2.2.2.1), .ref (E.1 287), .ref (E.1 288), .ref (E.1 289), .ref (E.1 290), .ref (E.1 291), .ref (E.1 292), .ref (E.1 293), .ref (E.1 294), .ref (E.1 295), .ref (E.1 296), .ref (E.1 297), .ref (E.1 298), .int (nI t2), .ref (E.1 299), .ref (E.1 300), .ref (E.1 301), .ref (E.1 302), .int (nI z.2.2.2.2.2.1), .int (nI z.2.2.2.2.2.2.1), .int (nI z.2.2.2.2.2.2.2.1), .ref (E.1 303), .ref (E.1 304), .ref (E.1 305), .ref (E.1 306), .ref (E.1 307), .int (nI z.2.2.2.2.2.2.2.2.1), .int (b2i z.2.2.2.2.2.2.2.2.2.1), .int (b2i z.2.2.2.2.2.2.2.2.2.2.1)]))) 297 (xI S 3696 (upd (fun k => nI (lsI z.2.2.2.2.2.2.2.2.2.2.2.2.2.2.2.2.2.2.2.2.2.1 (rwF m) t2 t3 k)) (16 * t2 + t3) (nI (rwF m t2 t3))))) = (va_up (va_up (va_up g 298 (xI S 16 (fun k => nI (rwF m t2 k)))) 286 (.inr (8, [.int (nI z.1), .int (nI z.2.1), .int z.2.2.1, .int (nI z.2.2.2.1), .ref (E.1 287), .ref (E.1 288), .ref (E.1 289), .ref (E.1 290), .ref (E.1 291), .ref (E.1 292), .ref (E.1 293), .ref (E.1 294), .ref (E.1 295), .ref (E.1 296), .ref (E.1 297), .ref (E.1 298), .int (nI t2), .ref (E.1 299), .ref (E.1 300), .ref (E.1 301), .ref (E.1 302), .int (nI z.2.2.2.2.2.1), .int (nI z.2.2.2.2.2.2.1), .int (nI z.2.2.2.2.2.2.2.1), .ref (E.1 303), .ref (E.1 304), .ref (E.1 305), .ref (E.1 306), .ref (E.1 307), .int (nI z.2.2.2.2.2.2.2.2.1), .int (b2i z.2.2.2.2.2.2.2.2.2.1), .int (b2i z.2.2.2.2.2.2.2.2.2.2.1)]))) 297 (xI S 3696 (fun k => nI (lsI z.2.2.2.2.2.2.2.2.2.2.2.2.2.2.2.2.2.2.2.2.2.1 (rwF m) t2 (t3 + 1) k)))) from by rw [show xI S 3696 (upd (fun k => nI (lsI z.2.2.2.2.2.2.2.2.2.2.2.2.2.2.2.2.2.2.2.2.2.1 (rwF m) t2 t3 k)) (16 * t2 + t3) (nI (rwF m t2 t3))) = xI S 3696 (fun k => nI (lsI z.2.2.2.2.2.2.2.2.2.2.2.2.2.2.2.2.2.2.2.2.2.1 (rwF m) t2 (t3 + 1) k)) from congrArg (xI S 3696) (funext fun j => lsI_s z.2.2.2.2.2.2.2.2.2.2.2.2.2.2.2.2.2.2.2.2.2.1 (rwF m) (by omega) j)]) ?_
              refine r_iinc (pc := 76) (v := nI (t3 + 1)) C dX8_listPartitions_76 rfl (nI_i1 _) (by decide) ?_
              refine G.eq (pc' := 79) (vs' := [some (.ref (E.1 286)), some (.int (nI m)), some (.int (nI (t3 + 1)))]) (st' := []) ?_
              refine r_goto (pc := 79) (tgt := 50) C dX8_listPartitions_79 (by decide) ?_
              exact ih
      · have h19 := c_nle (by omega) (by omega) h19
        omega
    · show G M S E (0, 0) (va_up g 298 (xI S 16 (it (fun t h => upd h t (nI (row0 m t))) t2 (fun k => nI (z.2.2.2.2.2.2.2.2.2.2.2.2.2.2.2.2.2.2.2.2.2.2.1 k))))) 16 [some (.ref (E.1 286)), some (.int (nI m)), some (.int (nI t2))] []
      refine r_iload_n (pc := 16) C dX8_listPartitions_16 rfl ?_
      refine r_bipush (pc := 17) (v := nI 16) C dX8_listPartitions_17 (by decide +kernel) ?_
      refine r_icmp_ge (pc := 19) (tgt := 43) C dX8_listPartitions_19 (by decide) (fun h19 => ?_) (fun h19 => ?_)
      · have h19 := c_le (by omega) (by omega) h19
        omega
      · have h19 := c_nle (by omega) (by omega) h19
        refine r_aload_n (pc := 22) C dX8_listPartitions_22 rfl ?_
        refine r_getf (pc := 23) C dX8_listPartitions_23 fl_RX8_56 (Ce.up hM.1 (by decide)) rfl ?_
        refine r_iload_n (pc := 26) C dX8_listPartitions_26 rfl ?_
        refine r_iload_n (pc := 27) C dX8_listPartitions_27 rfl ?_
        refine r_if_ne (pc := 28) (tgt := 35) C dX8_listPartitions_28 (by decide) (fun h28 => ?_) (fun h28 => ?_)
        · have h28 := z_ne (by omega) h28
          refine r_iconst (pc := 35) (v := nI 0) C dX8_listPartitions_35 (by decide +kernel) ?_
          refine r_ti (nI (row0 m t2)) (congrArg nI (if_neg h28).symm) ?_
          refine r_iast2 (pc := 36) C dX8_listPartitions_36 hM.2.2.2.2.2.2.2.2.2.2.2.2.1.1 rfl (by omega) (by omega) ?_
          refine r_iinc (pc := 37) (v := nI (t2 + 1)) C dX8_listPartitions_37 rfl (nI_i1 _) (by decide) ?_
          refine G.eq (pc' := 40) (vs' := [some (.ref (E.1 286)), some (.int (nI m)), some (.int (nI (t2 + 1)))]) (st' := []) ?_
          refine r_goto (pc := 40) (tgt := 16) C dX8_listPartitions_40 (by decide) ?_
          exact ih
        · have h28 := z_eq (by omega) h28
          refine r_iload_n (pc := 31) C dX8_listPartitions_31 rfl ?_
          refine r_goto (pc := 32) (tgt := 36) C dX8_listPartitions_32 (by decide) ?_
          refine r_ti (nI (row0 m t2)) (congrArg nI (if_pos h28).symm) ?_
          refine r_iast2 (pc := 36) C dX8_listPartitions_36 hM.2.2.2.2.2.2.2.2.2.2.2.2.1.1 rfl (by omega) (by omega) ?_
          refine r_iinc (pc := 37) (v := nI (t2 + 1)) C dX8_listPartitions_37 rfl (nI_i1 _) (by decide) ?_
          refine G.eq (pc' := 40) (vs' := [some (.ref (E.1 286)), some (.int (nI m)), some (.int (nI (t2 + 1)))]) (st' := []) ?_
          refine r_goto (pc := 40) (tgt := 16) C dX8_listPartitions_40 (by decide) ?_
          exact ih
  · have h9 := b_f h9
    refine r_iconst (pc := 12) (v := (-1)) C dX8_listPartitions_12 (by decide +kernel) ?_
    exact r_iret (pc := 13) C Z dX8_listPartitions_13 rfl (by rw [show qLst z x = (-1, z) by simp only [qLst, h9, cond_true, cond_false, if_true, if_false, not_true_eq_false, not_false_eq_true, ↓reduceIte]]; exact ⟨rfl, ⟨z, hM, Sv.rf⟩, Fr.rf⟩)
set_option maxHeartbeats 4000000 in
set_option maxRecDepth 100000 in
theorem c_X8_isSelfConjugate {S : ST} {E : ET} {g : Nat → va_E} {N r : Nat} (hMB : MB E g N r) (hN : N ≤ 24) (hr : r ≤ 1) {y : Nat → Nat} (c297 : Ce E g 297 (xI S 3696 (fun k => nI (y k)))) (hb : ∀ k, y k ≤ 16) (i : Nat) (hi : i < 231) : CtI S E yX8_isSelfConjugate cX8_isSelfConjugate 6 (Option.some FieldType.boolean) rmX8_isSelfConjugate [.ref (E.1 286), .int (nI i)] g (fun u g' => u = b2i (scZ (fun k => y (16 * i + k))) ∧ g = g') := by
  refine Ct.of RX8 (by decide +kernel) rfl (Nat.le_of_ble_eq_true rfl) (fun M C Z => ?_)
  obtain ⟨fs, hb_⟩ := id hMB
  refine G.eq (pc' := 0) (vs' := [some (.ref (E.1 286)), some (.int (nI i)), none, none, none, none]) (st' := []) ?_
  have hpl := pcF_le (fun k => y (16 * i + k))
  have hzl : ∀ k, zx (fun k => y (16 * i + k)) k ≤ 16 := fun k => by unfold zx; split; exact Nat.zero_le _; exact hb _
  refine r_iconst (pc := 0) (v := nI 1) C dX8_isSelfConjugate_0 (by decide +kernel) ?_
  refine r_istore_n (pc := 1) C dX8_isSelfConjugate_1 (by decide) ?_
  refine G.eq (pc' := 2) (vs' := [some (.ref (E.1 286)), some (.int (nI i)), some (.int (nI 1)), none, none, none]) (st' := []) ?_
  refine r_iconst (pc := 2) (v := nI 1) C dX8_isSelfConjugate_2 (by decide +kernel) ?_
  refine r_istore_n (pc := 3) C dX8_isSelfConjugate_3 (by decide) ?_
  refine G.eq (pc' := 4) (vs' := [some (.ref (E.1 286)), some (.int (nI i)), some (.int (nI 1)), some (.int (nI 1)), none, none]) (st' := []) ?_
  refine bk (P := fun t2 => G M S E (0, 0) g 4 [some (.ref (E.1 286)), some (.int (nI i)), some (.int (b2i (allB (fun t => decide (cntN (fun k => decide (1 + t ≤ (fun k => y (16 * i + k)) k)) (pcF (fun k => y (16 * i + k))) = (fun k => y (16 * i + k)) t)) t2))), some (.int (nI (1 + t2))), none, none] []) (T := 16) ?_ (fun t2 ht ih => ?_)
  · show G M S E (0, 0) g 4 [some (.ref (E.1 286)), some (.int (nI i)), some (.int (b2i (allB (fun t => decide (cntN (fun k => decide (1 + t ≤ (fun k => y (16 * i + k)) k)) (pcF (fun k => y (16 * i + k))) = (fun k => y (16 * i + k)) t)) 16))), some (.int (nI (1 + 16))), none, none] []
    refine r_iload_n (pc := 4) C dX8_isSelfConjugate_4 rfl ?_
    refine r_bipush (pc := 5) (v := nI 16) C dX8_isSelfConjugate_5 (by decide +kernel) ?_
    refine r_icmp_gt (pc := 7) (tgt := 80) C dX8_isSelfConjugate_7 (by decide) (fun h7 => ?_) (fun h7 => ?_)
    · have h7 := c_lt (by omega) (by omega) h7
      refine r_iload_n (pc := 80) C dX8_isSelfConjugate_80 rfl ?_
      exact r_iret (pc := 81) C Z dX8_isSelfConjugate_81 (b_n _) (⟨rfl, rfl⟩)
    · have h7 := c_nlt (by omega) (by omega) h7
      omega
  · show G M S E (0, 0) g 4 [some (.ref (E.1 286)), some (.int (nI i)), some (.int (b2i (allB (fun t => decide (cntN (fun k => decide (1 + t ≤ (fun k => y (16 * i + k)) k)) (pcF (fun k => y (16 * i + k))) = (fun k => y (16 * i + k)) t)) t2))), some (.int (nI (1 + t2))), none, none] []
    refine r_iload_n (pc := 4) C dX8_isSelfConjugate_4 rfl ?_
    refine r_bipush (pc := 5) (v := nI 16) C dX8_isSelfConjugate_5 (by decide +kernel) ?_
    refine r_icmp_gt (pc := 7) (tgt := 80) C dX8_isSelfConjugate_7 (by decide) (fun h7 => ?_) (fun h7 => ?_)
    · have h7 := c_lt (by omega) (by omega) h7
      omega
    · have h7 := c_nlt (by omega) (by omega) h7
      refine r_iconst (pc := 10) (v := nI 0) C dX8_isSelfConjugate_10 (by decide +kernel) ?_
      refine r_istore (pc := 11) C dX8_isSelfConjugate_11 (by decide) ?_
      refine G.eq (pc' := 13) (vs' := [some (.ref (E.1 286)), some (.int (nI i)), some (.int (b2i (allB (fun t => decide (cntN (fun k => decide (1 + t ≤ (fun k => y (16 * i + k)) k)) (pcF (fun k => y (16 * i + k))) = (fun k => y (16 * i + k)) t)) t2))), some (.int (nI (1 + t2))), some (.int (nI 0)), none]) (st' := []) ?_
      refine r_iconst (pc := 13) (v := nI 0) C dX8_isSelfConjugate_13 (by decide +kernel) ?_
      refine r_istore (pc := 14) C dX8_isSelfConjugate_14 (by decide) ?_
      refine G.eq (pc' := 16) (vs' := [some (.ref (E.1 286)), some (.int (nI i)), some (.int (b2i (allB (fun t => decide (cntN (fun k => decide (1 + t ≤ (fun k => y (16 * i + k)) k)) (pcF (fun k => y (16 * i + k))) = (fun k => y (16 * i + k)) t)) t2))), some (.int (nI (1 + t2))), some (.int (nI 0)), some (.int (nI 0))]) (st' := []) ?_
      have ih2 := ih
      refine bk (P := fun t3 => G M S E (0, 0) g 16 [some (.ref (E.1 286)), some (.int (nI i)), some (.int (b2i (allB (fun t => decide (cntN (fun k => decide (1 + t ≤ (fun k => y (16 * i + k)) k)) (pcF (fun k => y (16 * i + k))) = (fun k => y (16 * i + k)) t)) t2))), some (.int (nI (1 + t2))), some (.int (nI (it (cntF (fun k => decide (1 + t2 ≤ (fun k => y (16 * i + k)) k))) t3 0))), some (.int (nI t3))] []) (T := pcF (fun k => y (16 * i + k))) ?_ (fun t3 ht ih => ?_)
      · show G M S E (0, 0) g 16 [some (.ref (E.1 286)), some (.int (nI i)), some (.int (b2i (allB (fun t => decide (cntN (fun k => decide (1 + t ≤ (fun k => y (16 * i + k)) k)) (pcF (fun k => y (16 * i + k))) = (fun k => y (16 * i + k)) t)) t2))), some (.int (nI (1 + t2))), some (.int (nI (it (cntF (fun k => decide (1 + t2 ≤ (fun k => y (16 * i + k)) k))) (pcF (fun k => y (16 * i + k))) 0))), some (.int (nI (pcF (fun k => y (16 * i + k)))))] []
        refine r_iload (pc := 16) C dX8_isSelfConjugate_16 rfl ?_
        refine r_aload_n (pc := 18) C dX8_isSelfConjugate_18 rfl ?_
        refine r_iload_n (pc := 19) C dX8_isSelfConjugate_19 rfl ?_
        refine r_callV (pc := 20) C dX8_isSelfConjugate_20 cv_RX8_236 (c_X8_partCount ⟨fs, hb_.1, hb_.2⟩ hN hr c297 hb i (by omega)) ⟨rfl, rfl, by decide, by decide⟩ hb_.1 rfl rfl (Nat.le_of_ble_eq_true rfl) ⟨Nat.zero_le _, Nat.zero_le _⟩ ?_
        rintro _ _ ⟨_, rfl, rfl, rfl⟩
        show G M S E (0, 0) g 23 [some (.ref (E.1 286)), some (.int (nI i)), some (.int (b2i (allB (fun t => decide (cntN (fun k => decide (1 + t ≤ (fun k => y (16 * i + k)) k)) (pcF (fun k => y (16 * i + k))) = (fun k => y (16 * i + k)) t)) t2))), some (.int (nI (1 + t2))), some (.int (nI (it (cntF (fun k => decide (1 + t2 ≤ (fun k => y (16 * i + k)) k))) (pcF (fun k => y (16 * i + k))) 0))), some (.int (nI (pcF (fun k => y (16 * i + k)))))] [.int (nI (pcF (fun k => y (16 * i + k)))), .int (nI (pcF (fun k => y (16 * i + k))))]
        refine r_icmp_ge (pc := 23) (tgt := 53) C dX8_isSelfConjugate_23 (by decide) (fun h23 => ?_) (fun h23 => ?_)
        · have h23 := c_le (by omega) (by omega) h23
          have hcl := cntF_le (fun k => decide (1 + t2 ≤ (fun k => y (16 * i + k)) k)) (pcF (fun k => y (16 * i + k)))
          have hz3 : zx (fun k => y (16 * i + k)) (1 + t2 - 1) = y (16 * i + t2) := by rw [show 1 + t2 - 1 = t2 by omega]; exact if_neg (by omega)
          have hzb := hzl (1 + t2 - 1)
          refine r_iload_n (pc := 53) C dX8_isSelfConjugate_53 rfl ?_
          refine r_iload (pc := 54) C dX8_isSelfConjugate_54 rfl ?_
          refine r_aload_n (pc := 56) C dX8_isSelfConjugate_56 rfl ?_
          refine r_iload_n (pc := 57) C dX8_isSelfConjugate_57 rfl ?_
          refine r_iload_n (pc := 58) C dX8_isSelfConjugate_58 rfl ?_
          refine r_iconst (pc := 59) (v := nI 1) C dX8_isSelfConjugate_59 (by decide +kernel) ?_
          refine r_isub (pc := 60) C dX8_isSelfConjugate_60 ?_
          refine r_ti (nI (1 + t2 - 1)) (pk_sub (by omega)) ?_
          refine r_callV (pc := 61) C dX8_isSelfConjugate_61 cv_RX8_232 (c_X8_partAt2 ⟨fs, hb_.1, hb_.2⟩ hN hr c297 hb i (1 + t2 - 1) (by omega) (by omega)) ⟨rfl, rfl, by decide, by decide⟩ hb_.1 rfl rfl (Nat.le_of_ble_eq_true rfl) ⟨Nat.zero_le _, Nat.zero_le _⟩ ?_
          rintro _ _ ⟨_, rfl, rfl, rfl⟩
          show G M S E (0, 0) g 64 [some (.ref (E.1 286)), some (.int (nI i)), some (.int (b2i (allB (fun t => decide (cntN (fun k => decide (1 + t ≤ (fun k => y (16 * i + k)) k)) (pcF (fun k => y (16 * i + k))) = (fun k => y (16 * i + k)) t)) t2))), some (.int (nI (1 + t2))), some (.int (nI (it (cntF (fun k => decide (1 + t2 ≤ (fun k => y (16 * i + k)) k))) (pcF (fun k => y (16 * i + k))) 0))), some (.int (nI (pcF (fun k => y (16 * i + k)))))] [.int (nI (zx (fun k => y (16 * i + k)) (1 + t2 - 1))), .int (nI (it (cntF (fun k => decide (1 + t2 ≤ (fun k => y (16 * i + k)) k))) (pcF (fun k => y (16 * i + k))) 0)), .int (b2i (allB (fun t => decide (cntN (fun k => decide (1 + t ≤ (fun k => y (16 * i + k)) k)) (pcF (fun k => y (16 * i + k))) = (fun k => y (16 * i + k)) t)) t2))]
          refine r_icmp_ne (pc := 64) (tgt := 71) C dX8_isSelfConjugate_64 (by decide) (fun h64 => ?_) (fun h64 => ?_)
          · have h64 := c_ne (by omega) (by omega) h64
            refine r_iconst (pc := 71) (v := nI 0) C dX8_isSelfConjugate_71 (by decide +kernel) ?_
            refine r_ti (b2i ((fun t => decide (cntN (fun k => decide (1 + t ≤ (fun k => y (16 * i + k)) k)) (pcF (fun k => y (16 * i + k))) = (fun k => y (16 * i + k)) t)) t2)) (by rw [show (fun t => decide (cntN (fun k => decide (1 + t ≤ (fun k => y (16 * i + k)) k)) (pcF (fun k => y (16 * i + k))) = (fun k => y (16 * i + k)) t)) t2 = false from decide_eq_false (by show ¬ it (cntF (fun k => decide (1 + t2 ≤ (fun k => y (16 * i + k)) k))) (pcF (fun k => y (16 * i + k))) 0 = y (16 * i + t2); omega)]; rfl) ?_
            refine r_iand (pc := 72) C dX8_isSelfConjugate_72 ?_
            refine r_ti (b2i ((allB (fun t => decide (cntN (fun k => decide (1 + t ≤ (fun k => y (16 * i + k)) k)) (pcF (fun k => y (16 * i + k))) = (fun k => y (16 * i + k)) t)) t2) && ((fun t => decide (cntN (fun k => decide (1 + t ≤ (fun k => y (16 * i + k)) k)) (pcF (fun k => y (16 * i + k))) = (fun k => y (16 * i + k)) t)) t2))) (b2i_and _ _) ?_
            refine r_istore_n (pc := 73) C dX8_isSelfConjugate_73 (by decide) ?_
            refine G.eq (pc' := 74) (vs' := [some (.ref (E.1 286)), some (.int (nI i)), some (.int (b2i ((allB (fun t => decide (cntN (fun k => decide (1 + t ≤ (fun k => y (16 * i + k)) k)) (pcF (fun k => y (16 * i + k))) = (fun k => y (16 * i + k)) t)) t2) && ((fun t => decide (cntN (fun k => decide (1 + t ≤ (fun k => y (16 * i + k)) k)) (pcF (fun k => y (16 * i + k))) = (fun k => y (16 * i + k)) t)) t2)))), some (.int (nI (1 + t2))), some (.int (nI (it (cntF (fun k => decide (1 + t2 ≤ (fun k => y (16 * i + k)) k))) (pcF (fun k => y (16 * i + k))) 0))), some (.int (nI (pcF (fun k => y (16 * i + k)))))]) (st' := []) ?_
            refine r_iinc (pc := 74) (v := nI (1 + t2 + 1)) C dX8_isSelfConjugate_74 rfl (nI_i1 _) (by decide) ?_
            refine G.eq (pc' := 77) (vs' := [some (.ref (E.1 286)), some (.int (nI i)), some (.int (b2i ((allB (fun t => decide (cntN (fun k => decide (1 + t ≤ (fun k => y (16 * i + k)) k)) (pcF (fun k => y (16 * i + k))) = (fun k => y (16 * i + k)) t)) t2) && ((fun t => decide (cntN (fun k => decide (1 + t ≤ (fun k => y (16 * i + k)) k)) (pcF (fun k => y (16 * i + k))) = (fun k => y (16 * i + k)) t)) t2)))), some (.int (nI (1 + t2 + 1))), some (.int (nI (it (cntF (fun k => decide (1 + t2 ≤ (fun k => y (16 * i + k)) k))) (pcF (fun k => y (16 * i + k))) 0))), some (.int (nI (pcF (fun k => y (16 * i + k)))))]) (st' := []) ?_
            refine r_goto (pc := 77) (tgt := 4) C dX8_isSelfConjugate_77 (by decide) ?_
            refine G.wk (vs' := [some (.ref (E.1 286)), some (.int (nI i)), some (.int (b2i ((allB (fun t => decide (cntN (fun k => decide (1 + t ≤ (fun k => y (16 * i + k)) k)) (pcF (fun k => y (16 * i + k))) = (fun k => y (16 * i + k)) t)) t2) && ((fun t => decide (cntN (fun k => decide (1 + t ≤ (fun k => y (16 * i + k)) k)) (pcF (fun k => y (16 * i + k))) = (fun k => y (16 * i + k)) t)) t2)))), some (.int (nI (1 + t2 + 1))), none, none]) ⟨rfl, rfl, rfl, rfl, trivial⟩ ?_
            exact ih2
          · have h64 := c_eq (by omega) (by omega) h64
            refine r_iconst (pc := 67) (v := nI 1) C dX8_isSelfConjugate_67 (by decide +kernel) ?_
            refine r_goto (pc := 68) (tgt := 72) C dX8_isSelfConjugate_68 (by decide) ?_
            refine r_ti (b2i ((fun t => decide (cntN (fun k => decide (1 + t ≤ (fun k => y (16 * i + k)) k)) (pcF (fun k => y (16 * i + k))) = (fun k => y (16 * i + k)) t)) t2)) (by rw [show (fun t => decide (cntN (fun k => decide (1 + t ≤ (fun k => y (16 * i + k)) k)) (pcF (fun k => y (16 * i + k))) = (fun k => y (16 * i + k)) t)) t2 = true from decide_eq_true (by show it (cntF (fun k => decide (1 + t2 ≤ (fun k => y (16 * i + k)) k))) (pcF (fun k => y (16 * i + k))) 0 = y (16 * i + t2); omega)]; rfl) ?_
            refine r_iand (pc := 72) C dX8_isSelfConjugate_72 ?_
            refine r_ti (b2i ((allB (fun t => decide (cntN (fun k => decide (1 + t ≤ (fun k => y (16 * i + k)) k)) (pcF (fun k => y (16 * i + k))) = (fun k => y (16 * i + k)) t)) t2) && ((fun t => decide (cntN (fun k => decide (1 + t ≤ (fun k => y (16 * i + k)) k)) (pcF (fun k => y (16 * i + k))) = (fun k => y (16 * i + k)) t)) t2))) (b2i_and _ _) ?_
            refine r_istore_n (pc := 73) C dX8_isSelfConjugate_73 (by decide) ?_
            refine G.eq (pc' := 74) (vs' := [some (.ref (E.1 286)), some (.int (nI i)), some (.int (b2i ((allB (fun t => decide (cntN (fun k => decide (1 + t ≤ (fun k => y (16 * i + k)) k)) (pcF (fun k => y (16 * i + k))) = (fun k => y (16 * i + k)) t)) t2) && ((fun t => decide (cntN (fun k => decide (1 + t ≤ (fun k => y (16 * i + k)) k)) (pcF (fun k => y (16 * i + k))) = (fun k => y (16 * i + k)) t)) t2)))), some (.int (nI (1 + t2))), some (.int (nI (it (cntF (fun k => decide (1 + t2 ≤ (fun k => y (16 * i + k)) k))) (pcF (fun k => y (16 * i + k))) 0))), some (.int (nI (pcF (fun k => y (16 * i + k)))))]) (st' := []) ?_
            refine r_iinc (pc := 74) (v := nI (1 + t2 + 1)) C dX8_isSelfConjugate_74 rfl (nI_i1 _) (by decide) ?_
            refine G.eq (pc' := 77) (vs' := [some (.ref (E.1 286)), some (.int (nI i)), some (.int (b2i ((allB (fun t => decide (cntN (fun k => decide (1 + t ≤ (fun k => y (16 * i + k)) k)) (pcF (fun k => y (16 * i + k))) = (fun k => y (16 * i + k)) t)) t2) && ((fun t => decide (cntN (fun k => decide (1 + t ≤ (fun k => y (16 * i + k)) k)) (pcF (fun k => y (16 * i + k))) = (fun k => y (16 * i + k)) t)) t2)))), some (.int (nI (1 + t2 + 1))), some (.int (nI (it (cntF (fun k => decide (1 + t2 ≤ (fun k => y (16 * i + k)) k))) (pcF (fun k => y (16 * i + k))) 0))), some (.int (nI (pcF (fun k => y (16 * i + k)))))]) (st' := []) ?_
            refine r_goto (pc := 77) (tgt := 4) C dX8_isSelfConjugate_77 (by decide) ?_
            refine G.wk (vs' := [some (.ref (E.1 286)), some (.int (nI i)), some (.int (b2i ((allB (fun t => decide (cntN (fun k => decide (1 + t ≤ (fun k => y (16 * i + k)) k)) (pcF (fun k => y (16 * i + k))) = (fun k => y (16 * i + k)) t)) t2) && ((fun t => decide (cntN (fun k => decide (1 + t ≤ (fun k => y (16 * i + k)) k)) (pcF (fun k => y (16 * i + k))) = (fun k => y (16 * i + k)) t)) t2)))), some (.int (nI (1 + t2 + 1))), none, none]) ⟨rfl, rfl, rfl, rfl, trivial⟩ ?_
            exact ih2
        · have h23 := c_nle (by omega) (by omega) h23
          omega
      · show G M S E (0, 0) g 16 [some (.ref (E.1 286)), some (.int (nI i)), some (.int (b2i (allB (fun t => decide (cntN (fun k => decide (1 + t ≤ (fun k => y (16 * i + k)) k)) (pcF (fun k => y (16 * i + k))) = (fun k => y (16 * i + k)) t)) t2))), some (.int (nI (1 + t2))), some (.int (nI (it (cntF (fun k => decide (1 + t2 ≤ (fun k => y (16 * i + k)) k))) t3 0))), some (.int (nI t3))] []
        refine r_iload (pc := 16) C dX8_isSelfConjugate_16 rfl ?_
        refine r_aload_n (pc := 18) C dX8_isSelfConjugate_18 rfl ?_
        refine r_iload_n (pc := 19) C dX8_isSelfConjugate_19 rfl ?_
        refine r_callV (pc := 20) C dX8_isSelfConjugate_20 cv_RX8_236 (c_X8_partCount ⟨fs, hb_.1, hb_.2⟩ hN hr c297 hb i (by omega)) ⟨rfl, rfl, by decide, by decide⟩ hb_.1 rfl rfl (Nat.le_of_ble_eq_true rfl) ⟨Nat.zero_le _, Nat.zero_le _⟩ ?_
        rintro _ _ ⟨_, rfl, rfl, rfl⟩
        show G M S E (0, 0) g 23 [some (.ref (E.1 286)), some (.int (nI i)), some (.int (b2i (allB (fun t => decide (cntN (fun k => decide (1 + t ≤ (fun k => y (16 * i + k)) k)) (pcF (fun k => y (16 * i + k))) = (fun k => y (16 * i + k)) t)) t2))), some (.int (nI (1 + t2))), some (.int (nI (it (cntF (fun k => decide (1 + t2 ≤ (fun k => y (16 * i + k)) k))) t3 0))), some (.int (nI t3))] [.int (nI (pcF (fun k => y (16 * i + k)))), .int (nI t3)]
        refine r_icmp_ge (pc := 23) (tgt := 53) C dX8_isSelfConjugate_23 (by decide) (fun h23 => ?_) (fun h23 => ?_)
        · have h23 := c_le (by omega) (by omega) h23
          omega
        · have h23 := c_nle (by omega) (by omega) h23
          have hz3 : zx (fun k => y (16 * i + k)) t3 = y (16 * i + t3) := if_neg (by omega)
          have hzb := hzl t3
          refine r_iload (pc := 26) C dX8_isSelfConjugate_26 rfl ?_
          refine r_aload_n (pc := 28) C dX8_isSelfConjugate_28 rfl ?_
          refine r_iload_n (pc := 29) C dX8_isSelfConjugate_29 rfl ?_
          refine r_iload (pc := 30) C dX8_isSelfConjugate_30 rfl ?_
          refine r_callV (pc := 32) C dX8_isSelfConjugate_32 cv_RX8_232 (c_X8_partAt2 ⟨fs, hb_.1, hb_.2⟩ hN hr c297 hb i t3 (by omega) (by omega)) ⟨rfl, rfl, by decide, by decide⟩ hb_.1 rfl rfl (Nat.le_of_ble_eq_true rfl) ⟨Nat.zero_le _, Nat.zero_le _⟩ ?_
          rintro _ _ ⟨_, rfl, rfl, rfl⟩
          show G M S E (0, 0) g 35 [some (.ref (E.1 286)), some (.int (nI i)), some (.int (b2i (allB (fun t => decide (cntN (fun k => decide (1 + t ≤ (fun k => y (16 * i + k)) k)) (pcF (fun k => y (16 * i + k))) = (fun k => y (16 * i + k)) t)) t2))), some (.int (nI (1 + t2))), some (.int (nI (it (cntF (fun k => decide (1 + t2 ≤ (fun k => y (16 * i + k)) k))) t3 0))), some (.int (nI t3))] [.int (nI (zx (fun k => y (16 * i + k)) t3)), .int (nI (it (cntF (fun k => decide (1 + t2 ≤ (fun k => y (16 * i + k)) k))) t3 0))]
          refine r_iload_n (pc := 35) C dX8_isSelfConjugate_35 rfl ?_
          refine r_icmp_lt (pc := 36) (tgt := 43) C dX8_isSelfConjugate_36 (by decide) (fun h36 => ?_) (fun h36 => ?_)
          · have h36 := c_lt (by omega) (by omega) h36
            refine r_iconst (pc := 43) (v := nI 0) C dX8_isSelfConjugate_43 (by decide +kernel) ?_
            refine r_iadd (pc := 44) C dX8_isSelfConjugate_44 ?_
            refine r_ti (nI (it (cntF (fun k => decide (1 + t2 ≤ (fun k => y (16 * i + k)) k))) t3 0 + 0)) (nI_add _ _) ?_
            refine r_ti (nI (it (cntF (fun k => decide (1 + t2 ≤ (fun k => y (16 * i + k)) k))) (t3 + 1) 0)) (congrArg nI (cnt_f (p := (fun k => decide (1 + t2 ≤ (fun k => y (16 * i + k)) k))) (decide_eq_false (by show ¬ 1 + t2 ≤ y (16 * i + t3); omega)))) ?_
            refine r_istore (pc := 45) C dX8_isSelfConjugate_45 (by decide) ?_
            refine G.eq (pc' := 47) (vs' := [some (.ref (E.1 286)), some (.int (nI i)), some (.int (b2i (allB (fun t => decide (cntN (fun k => decide (1 + t ≤ (fun k => y (16 * i + k)) k)) (pcF (fun k => y (16 * i + k))) = (fun k => y (16 * i + k)) t)) t2))), some (.int (nI (1 + t2))), some (.int (nI (it (cntF (fun k => decide (1 + t2 ≤ (fun k => y (16 * i + k)) k))) (t3 + 1) 0))), some (.int (nI t3))]) (st' := []) ?_
            refine r_iinc (pc := 47) (v := nI (t3 + 1)) C dX8_isSelfConjugate_47 rfl (nI_i1 _) (by decide) ?_
            refine G.eq (pc' := 50) (vs' := [some (.ref (E.1 286)), some (.int (nI i)), some (.int (b2i (allB (fun t => decide (cntN (fun k => decide (1 + t ≤ (fun k => y (16 * i + k)) k)) (pcF (fun k => y (16 * i + k))) = (fun k => y (16 * i + k)) t)) t2))), some (.int (nI (1 + t2))), some (.int (nI (it (cntF (fun k => decide (1 + t2 ≤ (fun k => y (16 * i + k)) k))) (t3 + 1) 0))), some (.int (nI (t3 + 1)))]) (st' := []) ?_
            refine r_goto (pc := 50) (tgt := 16) C dX8_isSelfConjugate_50 (by decide) ?_
            exact ih
          · have h36 := c_nlt (by omega) (by omega) h36
            refine r_iconst (pc := 39) (v := nI 1) C dX8_isSelfConjugate_39 (by decide +kernel) ?_
            refine r_goto (pc := 40) (tgt := 44) C dX8_isSelfConjugate_40 (by decide) ?_
            refine r_iadd (pc := 44) C dX8_isSelfConjugate_44 ?_
            refine r_ti (nI (it (cntF (fun k => decide (1 + t2 ≤ (fun k => y (16 * i + k)) k))) t3 0 + 1)) (nI_add _ _) ?_
            refine r_ti (nI (it (cntF (fun k => decide (1 + t2 ≤ (fun k => y (16 * i + k)) k))) (t3 + 1) 0)) (congrArg nI (cnt_t (p := (fun k => decide (1 + t2 ≤ (fun k => y (16 * i + k)) k))) (decide_eq_true (by show 1 + t2 ≤ y (16 * i + t3); omega)))) ?_
            refine r_istore (pc := 45) C dX8_isSelfConjugate_45 (by decide) ?_
            refine G.eq (pc' := 47) (vs' := [some (.ref (E.1 286)), some (.int (nI i)), some (.int (b2i (allB (fun t => decide (cntN (fun k => decide (1 + t ≤ (fun k => y (16 * i + k)) k)) (pcF (fun k => y (16 * i + k))) = (fun k => y (16 * i + k)) t)) t2))), some (.int (nI (1 + t2))), some (.int (nI (it (cntF (fun k => decide (1 + t2 ≤ (fun k => y (16 * i + k)) k))) (t3 + 1) 0))), some (.int (nI t3))]) (st' := []) ?_
            refine r_iinc (pc := 47) (v := nI (t3 + 1)) C dX8_isSelfConjugate_47 rfl (nI_i1 _) (by decide) ?_
            refine G.eq (pc' := 50) (vs' := [some (.ref (E.1 286)), some (.int (nI i)), some (.int (b2i (allB (fun t => decide (cntN (fun k => decide (1 + t ≤ (fun k => y (16 * i + k)) k)) (pcF (fun k => y (16 * i + k))) = (fun k => y (16 * i + k)) t)) t2))), some (.int (nI (1 + t2))), some (.int (nI (it (cntF (fun k => decide (1 + t2 ≤ (fun k => y (16 * i + k)) k))) (t3 + 1) 0))), some (.int (nI (t3 + 1)))]) (st' := []) ?_
            refine r_goto (pc := 50) (tgt := 16) C dX8_isSelfConjugate_50 (by decide) ?_
            exact ih
set_option maxHeartbeats 4000000 in
set_option maxRecDepth 100000 in
theorem c_X8_passes {S : ST} {E : ET} {g : Nat → va_E} {N r : Nat} (hMB : MB E g N r) (hN : N ≤ 24) (hr : r ≤ 1) {y : Nat → Nat} (c297 : Ce E g 297 (xI S 3696 (fun k => nI (y k)))) (hb : ∀ k, y k ≤ 16) (i w : Nat) (hi : i < 231) (hw : w < 6) : CtI S E yX8_passes cX8_passes 7 (Option.some FieldType.boolean) rmX8_passes [.ref (E.1 286), .int (nI i), .int (nI w)] g (fun u g' => u = b2i (mpB w (fun k => y (16 * i + k))) ∧ g = g') := by
  refine Ct.of RX8 (by decide +kernel) rfl (Nat.le_of_ble_eq_true rfl) (fun M C Z => ?_)
  obtain ⟨fs, hb_⟩ := id hMB
  refine G.eq (pc' := 0) (vs' := [some (.ref (E.1 286)), some (.int (nI i)), some (.int (nI w)), none, none, none, none]) (st' := []) ?_
  have hpl := pcF_le (fun k => y (16 * i + k))
  have hzl : ∀ k, zx (fun k => y (16 * i + k)) k ≤ 16 := fun k => by unfold zx; split; exact Nat.zero_le _; exact hb _
  refine r_iload_n (pc := 0) C dX8_passes_0 rfl ?_
  refine r_iconst (pc := 1) (v := nI 4) C dX8_passes_1 (by decide +kernel) ?_
  refine r_icmp_ne (pc := 2) (tgt := 21) C dX8_passes_2 (by decide) (fun h2 => ?_) (fun h2 => ?_)
  · have h2 := c_ne (by omega) (by omega) h2
    refine r_iload_n (pc := 21) C dX8_passes_21 rfl ?_
    refine r_iconst (pc := 22) (v := nI 5) C dX8_passes_22 (by decide +kernel) ?_
    refine r_icmp_ne (pc := 23) (tgt := 32) C dX8_passes_23 (by decide) (fun h23 => ?_) (fun h23 => ?_)
    · have h23 := c_ne (by omega) (by omega) h23
      refine r_iconst (pc := 32) (v := nI 1) C dX8_passes_32 (by decide +kernel) ?_
      refine r_istore_n (pc := 33) C dX8_passes_33 (by decide) ?_
      refine G.eq (pc' := 34) (vs' := [some (.ref (E.1 286)), some (.int (nI i)), some (.int (nI w)), some (.int (nI 1)), none, none, none]) (st' := []) ?_
      refine r_iconst (pc := 34) (v := nI 0) C dX8_passes_34 (by decide +kernel) ?_
      refine r_istore (pc := 35) C dX8_passes_35 (by decide) ?_
      refine G.eq (pc' := 37) (vs' := [some (.ref (E.1 286)), some (.int (nI i)), some (.int (nI w)), some (.int (nI 1)), some (.int (nI 0)), none, none]) (st' := []) ?_
      refine bk (P := fun t => G M S E (0, 0) g 37 [some (.ref (E.1 286)), some (.int (nI i)), some (.int (nI w)), some (.int (b2i (allB (mpP w (fun k => y (16 * i + k))) t))), some (.int (nI t)), none, none] []) (T := pcF (fun k => y (16 * i + k))) ?_ (fun t ht ih => ?_)
      · show G M S E (0, 0) g 37 [some (.ref (E.1 286)), some (.int (nI i)), some (.int (nI w)), some (.int (b2i (allB (mpP w (fun k => y (16 * i + k))) (pcF (fun k => y (16 * i + k)))))), some (.int (nI (pcF (fun k => y (16 * i + k))))), none, none] []
        refine r_iload (pc := 37) C dX8_passes_37 rfl ?_
        refine r_aload_n (pc := 39) C dX8_passes_39 rfl ?_
        refine r_iload_n (pc := 40) C dX8_passes_40 rfl ?_
        refine r_callV (pc := 41) C dX8_passes_41 cv_RX8_236 (c_X8_partCount ⟨fs, hb_.1, hb_.2⟩ hN hr c297 hb i (by omega)) ⟨rfl, rfl, by decide, by decide⟩ hb_.1 rfl rfl (Nat.le_of_ble_eq_true rfl) ⟨Nat.zero_le _, Nat.zero_le _⟩ ?_
        rintro _ _ ⟨_, rfl, rfl, rfl⟩
        show G M S E (0, 0) g 44 [some (.ref (E.1 286)), some (.int (nI i)), some (.int (nI w)), some (.int (b2i (allB (mpP w (fun k => y (16 * i + k))) (pcF (fun k => y (16 * i + k)))))), some (.int (nI (pcF (fun k => y (16 * i + k))))), none, none] [.int (nI (pcF (fun k => y (16 * i + k)))), .int (nI (pcF (fun k => y (16 * i + k))))]
        refine r_icmp_ge (pc := 44) (tgt := 159) C dX8_passes_44 (by decide) (fun h44 => ?_) (fun h44 => ?_)
        · have h44 := c_le (by omega) (by omega) h44
          refine r_iload_n (pc := 159) C dX8_passes_159 rfl ?_
          exact r_iret (pc := 160) C Z dX8_passes_160 (b_n _) (⟨by rw [show mpB w (fun k => y (16 * i + k)) = allB (mpP w (fun k => y (16 * i + k))) (pcF (fun k => y (16 * i + k))) by unfold mpB; rw [if_neg h2, if_neg h23]], rfl⟩)
        · have h44 := c_nle (by omega) (by omega) h44
          omega
      · show G M S E (0, 0) g 37 [some (.ref (E.1 286)), some (.int (nI i)), some (.int (nI w)), some (.int (b2i (allB (mpP w (fun k => y (16 * i + k))) t))), some (.int (nI t)), none, none] []
        refine r_iload (pc := 37) C dX8_passes_37 rfl ?_
        refine r_aload_n (pc := 39) C dX8_passes_39 rfl ?_
        refine r_iload_n (pc := 40) C dX8_passes_40 rfl ?_
        refine r_callV (pc := 41) C dX8_passes_41 cv_RX8_236 (c_X8_partCount ⟨fs, hb_.1, hb_.2⟩ hN hr c297 hb i (by omega)) ⟨rfl, rfl, by decide, by decide⟩ hb_.1 rfl rfl (Nat.le_of_ble_eq_true rfl) ⟨Nat.zero_le _, Nat.zero_le _⟩ ?_
        rintro _ _ ⟨_, rfl, rfl, rfl⟩
        show G M S E (0, 0) g 44 [some (.ref (E.1 286)), some (.int (nI i)), some (.int (nI w)), some (.int (b2i (allB (mpP w (fun k => y (16 * i + k))) t))), some (.int (nI t)), none, none] [.int (nI (pcF (fun k => y (16 * i + k)))), .int (nI t)]
        refine r_icmp_ge (pc := 44) (tgt := 159) C dX8_passes_44 (by decide) (fun h44 => ?_) (fun h44 => ?_)
        · have h44 := c_le (by omega) (by omega) h44
          omega
        · have h44 := c_nle (by omega) (by omega) h44
          have hz3 : zx (fun k => y (16 * i + k)) t = y (16 * i + t) := if_neg (by omega)
          have hzb := hzl t
          have hzc := hzl (t + 1)
          have hps : 0 < y (16 * i + t) := pcF_pos (z := (fun k => y (16 * i + k))) ht
          refine r_aload_n (pc := 47) C dX8_passes_47 rfl ?_
          refine r_iload_n (pc := 48) C dX8_passes_48 rfl ?_
          refine r_iload (pc := 49) C dX8_passes_49 rfl ?_
          refine r_callV (pc := 51) C dX8_passes_51 cv_RX8_232 (c_X8_partAt2 ⟨fs, hb_.1, hb_.2⟩ hN hr c297 hb i t (by omega) (by omega)) ⟨rfl, rfl, by decide, by decide⟩ hb_.1 rfl rfl (Nat.le_of_ble_eq_true rfl) ⟨Nat.zero_le _, Nat.zero_le _⟩ ?_
          rintro _ _ ⟨_, rfl, rfl, rfl⟩
          show G M S E (0, 0) g 54 [some (.ref (E.1 286)), some (.int (nI i)), some (.int (nI w)), some (.int (b2i (allB (mpP w (fun k => y (16 * i + k))) t))), some (.int (nI t)), none, none] [.int (nI (zx (fun k => y (16 * i + k)) t))]
          refine r_istore (pc := 54) C dX8_passes_54 (by decide) ?_
          refine G.eq (pc' := 56) (vs' := [some (.ref (E.1 286)), some (.int (nI i)), some (.int (nI w)), some (.int (b2i (allB (mpP w (fun k => y (16 * i + k))) t))), some (.int (nI t)), some (.int (nI (zx (fun k => y (16 * i + k)) t))), none]) (st' := []) ?_
          refine r_aload_n (pc := 56) C dX8_passes_56 rfl ?_
          refine r_iload_n (pc := 57) C dX8_passes_57 rfl ?_
          refine r_iload (pc := 58) C dX8_passes_58 rfl ?_
          refine r_iconst (pc := 60) (v := nI 1) C dX8_passes_60 (by decide +kernel) ?_
          refine r_iadd (pc := 61) C dX8_passes_61 ?_
          refine r_ti (nI (t + 1)) (nI_add _ _) ?_
          refine r_callV (pc := 62) C dX8_passes_62 cv_RX8_232 (c_X8_partAt2 ⟨fs, hb_.1, hb_.2⟩ hN hr c297 hb i (t + 1) (by omega) (by omega)) ⟨rfl, rfl, by decide, by decide⟩ hb_.1 rfl rfl (Nat.le_of_ble_eq_true rfl) ⟨Nat.zero_le _, Nat.zero_le _⟩ ?_
          rintro _ _ ⟨_, rfl, rfl, rfl⟩
          show G M S E (0, 0) g 65 [some (.ref (E.1 286)), some (.int (nI i)), some (.int (nI w)), some (.int (b2i (allB (mpP w (fun k => y (16 * i + k))) t))), some (.int (nI t)), some (.int (nI (zx (fun k => y (16 * i + k)) t))), none] [.int (nI (zx (fun k => y (16 * i + k)) (t + 1)))]
          refine r_istore (pc := 65) C dX8_passes_65 (by decide) ?_
          refine G.eq (pc' := 67) (vs' := [some (.ref (E.1 286)), some (.int (nI i)), some (.int (nI w)), some (.int (b2i (allB (mpP w (fun k => y (16 * i + k))) t))), some (.int (nI t)), some (.int (nI (zx (fun k => y (16 * i + k)) t))), some (.int (nI (zx (fun k => y (16 * i + k)) (t + 1))))]) (st' := []) ?_
          have k151 : G M S E (0, 0) g 151 [some (.ref (E.1 286)), some (.int (nI i)), some (.int (nI w)), some (.int (b2i (allB (mpP w (fun k => y (16 * i + k))) t))), some (.int (nI t)), some (.int (nI (zx (fun k => y (16 * i + k)) t))), some (.int (nI (zx (fun k => y (16 * i + k)) (t + 1))))] [.int (b2i ((mpP w (fun k => y (16 * i + k))) t)), .int (b2i (allB (mpP w (fun k => y (16 * i + k))) t))] := by
            refine r_iand (pc := 151) C dX8_passes_151 ?_
            refine r_ti (b2i ((allB (mpP w (fun k => y (16 * i + k))) t) && ((mpP w (fun k => y (16 * i + k))) t))) (b2i_and _ _) ?_
            refine r_istore_n (pc := 152) C dX8_passes_152 (by decide) ?_
            refine G.eq (pc' := 153) (vs' := [some (.ref (E.1 286)), some (.int (nI i)), some (.int (nI w)), some (.int (b2i ((allB (mpP w (fun k => y (16 * i + k))) t) && ((mpP w (fun k => y (16 * i + k))) t)))), some (.int (nI t)), some (.int (nI (zx (fun k => y (16 * i + k)) t))), some (.int (nI (zx (fun k => y (16 * i + k)) (t + 1))))]) (st' := []) ?_
            refine r_iinc (pc := 153) (v := nI (t + 1)) C dX8_passes_153 rfl (nI_i1 _) (by decide) ?_
            refine G.eq (pc' := 156) (vs' := [some (.ref (E.1 286)), some (.int (nI i)), some (.int (nI w)), some (.int (b2i ((allB (mpP w (fun k => y (16 * i + k))) t) && ((mpP w (fun k => y (16 * i + k))) t)))), some (.int (nI (t + 1))), some (.int (nI (zx (fun k => y (16 * i + k)) t))), some (.int (nI (zx (fun k => y (16 * i + k)) (t + 1))))]) (st' := []) ?_
            refine r_goto (pc := 156) (tgt := 37) C dX8_passes_156 (by decide) ?_
            refine G.wk (vs' := [some (.ref (E.1 286)), some (.int (nI i)), some (.int (nI w)), some (.int (b2i ((allB (mpP w (fun k => y (16 * i + k))) t) && ((mpP w (fun k => y (16 * i + k))) t)))), some (.int (nI (t + 1))), none, none]) ⟨rfl, rfl, rfl, rfl, rfl, trivial⟩ ?_
            exact ih
          refine r_iload_n (pc := 67) C dX8_passes_67 rfl ?_
          refine r_iload_n (pc := 68) C dX8_passes_68 rfl ?_
          refine r_if_ne (pc := 69) (tgt := 92) C dX8_passes_69 (by decide) (fun h69 => ?_) (fun h69 => ?_)
          · have h69 := z_ne (by omega) h69
            refine r_iload_n (pc := 92) C dX8_passes_92 rfl ?_
            refine r_iconst (pc := 93) (v := nI 1) C dX8_passes_93 (by decide +kernel) ?_
            refine r_icmp_ne (pc := 94) (tgt := 113) C dX8_passes_94 (by decide) (fun h94 => ?_) (fun h94 => ?_)
            · have h94 := c_ne (by omega) (by omega) h94
              refine r_iload_n (pc := 113) C dX8_passes_113 rfl ?_
              refine r_iconst (pc := 114) (v := nI 2) C dX8_passes_114 (by decide +kernel) ?_
              refine r_icmp_ne (pc := 115) (tgt := 140) C dX8_passes_115 (by decide) (fun h115 => ?_) (fun h115 => ?_)
              · have h115 := c_ne (by omega) (by omega) h115
                refine r_iload (pc := 140) C dX8_passes_140 rfl ?_
                refine r_iconst (pc := 142) (v := nI 1) C dX8_passes_142 (by decide +kernel) ?_
                refine r_icmp_eq (pc := 143) (tgt := 150) C dX8_passes_143 (by decide) (fun h143 => ?_) (fun h143 => ?_)
                · have h143 := c_eq (by omega) (by omega) h143
                  refine r_iconst (pc := 150) (v := nI 0) C dX8_passes_150 (by decide +kernel) ?_
                  refine r_ti (b2i ((mpP w (fun k => y (16 * i + k))) t)) (by rw [show (mpP w (fun k => y (16 * i + k))) t = false by unfold mpP; rw [if_neg h69, if_neg h94, if_neg h115]; exact decide_eq_false (fun q => q (by show y (16 * i + t) = 1; omega))]; rfl) ?_
                  exact k151
                · have h143 := c_ne (by omega) (by omega) h143
                  refine r_iconst (pc := 146) (v := nI 1) C dX8_passes_146 (by decide +kernel) ?_
                  refine r_goto (pc := 147) (tgt := 151) C dX8_passes_147 (by decide) ?_
                  refine r_ti (b2i ((mpP w (fun k => y (16 * i + k))) t)) (by rw [show (mpP w (fun k => y (16 * i + k))) t = true by unfold mpP; rw [if_neg h69, if_neg h94, if_neg h115]; exact decide_eq_true (by show ¬ y (16 * i + t) = 1; omega)]; rfl) ?_
                  exact k151
              · have h115 := c_eq (by omega) (by omega) h115
                refine r_iload (pc := 118) C dX8_passes_118 rfl ?_
                refine r_if_eq (pc := 120) (tgt := 132) C dX8_passes_120 (by decide) (fun h120 => ?_) (fun h120 => ?_)
                · have h120 := z_eq (by omega) h120
                  refine r_iconst (pc := 132) (v := nI 1) C dX8_passes_132 (by decide +kernel) ?_
                  refine r_goto (pc := 133) (tgt := 151) C dX8_passes_133 (by decide) ?_
                  refine r_ti (b2i ((mpP w (fun k => y (16 * i + k))) t)) (by rw [show (mpP w (fun k => y (16 * i + k))) t = true by unfold mpP; rw [if_neg h69, if_neg h94, if_pos h115, show decide (zx (fun k => y (16 * i + k)) (t + 1) = 0) = true from decide_eq_true h120]; rfl]; rfl) ?_
                  exact k151
                · have h120 := z_ne (by omega) h120
                  refine r_iload (pc := 123) C dX8_passes_123 rfl ?_
                  refine r_iload (pc := 125) C dX8_passes_125 rfl ?_
                  refine r_isub (pc := 127) C dX8_passes_127 ?_
                  refine r_iconst (pc := 128) (v := nI 2) C dX8_passes_128 (by decide +kernel) ?_
                  refine r_icmp_lt (pc := 129) (tgt := 136) C dX8_passes_129 (by decide) (fun h129 => ?_) (fun h129 => ?_)
                  · refine r_iconst (pc := 136) (v := nI 0) C dX8_passes_136 (by decide +kernel) ?_
                    refine r_goto (pc := 137) (tgt := 151) C dX8_passes_137 (by decide) ?_
                    refine r_ti (b2i ((mpP w (fun k => y (16 * i + k))) t)) (by rw [show (mpP w (fun k => y (16 * i + k))) t = false by unfold mpP; rw [if_neg h69, if_neg h94, if_pos h115, show decide (zx (fun k => y (16 * i + k)) (t + 1) = 0) = false from decide_eq_false h120, show decide (¬ nI (y (16 * i + t)) - nI (zx (fun k => y (16 * i + k)) (t + 1)) < nI 2) = false from decide_eq_false (fun q => q (by rw [← hz3]; exact h129))]; rfl]; rfl) ?_
                    exact k151
                  · refine r_iconst (pc := 132) (v := nI 1) C dX8_passes_132 (by decide +kernel) ?_
                    refine r_goto (pc := 133) (tgt := 151) C dX8_passes_133 (by decide) ?_
                    refine r_ti (b2i ((mpP w (fun k => y (16 * i + k))) t)) (by rw [show (mpP w (fun k => y (16 * i + k))) t = true by unfold mpP; rw [if_neg h69, if_neg h94, if_pos h115, show decide (¬ nI (y (16 * i + t)) - nI (zx (fun k => y (16 * i + k)) (t + 1)) < nI 2) = true from decide_eq_true (by rw [← hz3]; exact h129), Bool.or_true]]; rfl) ?_
                    exact k151
            · have h94 := c_eq (by omega) (by omega) h94
              refine r_iload (pc := 97) C dX8_passes_97 rfl ?_
              refine r_iconst (pc := 99) (v := nI 2) C dX8_passes_99 (by decide +kernel) ?_
              refine r_irem (pc := 100) C dX8_passes_100 (nI_ne0 (by omega) (by omega)) ?_
              refine r_ti (nI ((zx (fun k => y (16 * i + k)) t) % 2)) (pk_rem (by omega) (by omega) (by omega)) ?_
              refine r_iconst (pc := 101) (v := nI 1) C dX8_passes_101 (by decide +kernel) ?_
              refine r_icmp_ne (pc := 102) (tgt := 109) C dX8_passes_102 (by decide) (fun h102 => ?_) (fun h102 => ?_)
              · have h102 := c_ne (by omega) (by omega) h102
                refine r_iconst (pc := 109) (v := nI 0) C dX8_passes_109 (by decide +kernel) ?_
                refine r_goto (pc := 110) (tgt := 151) C dX8_passes_110 (by decide) ?_
                refine r_ti (b2i ((mpP w (fun k => y (16 * i + k))) t)) (by rw [show (mpP w (fun k => y (16 * i + k))) t = false by unfold mpP; rw [if_neg h69, if_pos h94]; exact decide_eq_false (by show ¬ y (16 * i + t) % 2 = 1; omega)]; rfl) ?_
                exact k151
              · have h102 := c_eq (by omega) (by omega) h102
                refine r_iconst (pc := 105) (v := nI 1) C dX8_passes_105 (by decide +kernel) ?_
                refine r_goto (pc := 106) (tgt := 151) C dX8_passes_106 (by decide) ?_
                refine r_ti (b2i ((mpP w (fun k => y (16 * i + k))) t)) (by rw [show (mpP w (fun k => y (16 * i + k))) t = true by unfold mpP; rw [if_neg h69, if_pos h94]; exact decide_eq_true (by show y (16 * i + t) % 2 = 1; omega)]; rfl) ?_
                exact k151
          · have h69 := z_eq (by omega) h69
            refine r_iload (pc := 72) C dX8_passes_72 rfl ?_
            refine r_if_eq (pc := 74) (tgt := 84) C dX8_passes_74 (by decide) (fun h74 => ?_) (fun h74 => ?_)
            · have h74 := z_eq (by omega) h74
              refine r_iconst (pc := 84) (v := nI 1) C dX8_passes_84 (by decide +kernel) ?_
              refine r_goto (pc := 85) (tgt := 151) C dX8_passes_85 (by decide) ?_
              refine r_ti (b2i ((mpP w (fun k => y (16 * i + k))) t)) (by rw [show (mpP w (fun k => y (16 * i + k))) t = true by unfold mpP; rw [if_pos h69, show decide (zx (fun k => y (16 * i + k)) (t + 1) = 0) = true from decide_eq_true h74]; rfl]; rfl) ?_
              exact k151
            · have h74 := z_ne (by omega) h74
              refine r_iload (pc := 77) C dX8_passes_77 rfl ?_
              refine r_iload (pc := 79) C dX8_passes_79 rfl ?_
              refine r_icmp_le (pc := 81) (tgt := 88) C dX8_passes_81 (by decide) (fun h81 => ?_) (fun h81 => ?_)
              · have h81 := c_le (by omega) (by omega) h81
                refine r_iconst (pc := 88) (v := nI 0) C dX8_passes_88 (by decide +kernel) ?_
                refine r_goto (pc := 89) (tgt := 151) C dX8_passes_89 (by decide) ?_
                refine r_ti (b2i ((mpP w (fun k => y (16 * i + k))) t)) (by rw [show (mpP w (fun k => y (16 * i + k))) t = false by unfold mpP; rw [if_pos h69, show decide (zx (fun k => y (16 * i + k)) (t + 1) = 0) = false from decide_eq_false h74, show decide (zx (fun k => y (16 * i + k)) (t + 1) < y (16 * i + t)) = false from decide_eq_false (by omega)]; rfl]; rfl) ?_
                exact k151
              · have h81 := c_nle (by omega) (by omega) h81
                refine r_iconst (pc := 84) (v := nI 1) C dX8_passes_84 (by decide +kernel) ?_
                refine r_goto (pc := 85) (tgt := 151) C dX8_passes_85 (by decide) ?_
                refine r_ti (b2i ((mpP w (fun k => y (16 * i + k))) t)) (by rw [show (mpP w (fun k => y (16 * i + k))) t = true by unfold mpP; rw [if_pos h69, show decide (zx (fun k => y (16 * i + k)) (t + 1) < y (16 * i + t)) = true from decide_eq_true (by omega), Bool.or_true]]; rfl) ?_
                exact k151
    · have h23 := c_eq (by omega) (by omega) h23
      refine r_aload_n (pc := 26) C dX8_passes_26 rfl ?_
      refine r_iload_n (pc := 27) C dX8_passes_27 rfl ?_
      refine r_callV (pc := 28) C dX8_passes_28 cv_RX8_239 (c_X8_isSelfConjugate ⟨fs, hb_.1, hb_.2⟩ hN hr c297 hb i hi) ⟨rfl, rfl, by decide, by decide⟩ hb_.1 rfl rfl (Nat.le_of_ble_eq_true rfl) ⟨Nat.zero_le _, Nat.zero_le _⟩ ?_
      rintro _ _ ⟨_, rfl, rfl, rfl⟩
      show G M S E (0, 0) g 31 [some (.ref (E.1 286)), some (.int (nI i)), some (.int (nI w)), none, none, none, none] [.int (b2i (scZ (fun k => y (16 * i + k))))]
      exact r_iret (pc := 31) C Z dX8_passes_31 (b_n _) (⟨by rw [show mpB w (fun k => y (16 * i + k)) = scZ (fun k => y (16 * i + k)) by unfold mpB; rw [if_neg h2, if_pos h23]], rfl⟩)
  · have h2 := c_eq (by omega) (by omega) h2
    refine r_aload_n (pc := 5) C dX8_passes_5 rfl ?_
    refine r_iload_n (pc := 6) C dX8_passes_6 rfl ?_
    refine r_callV (pc := 7) C dX8_passes_7 cv_RX8_236 (c_X8_partCount ⟨fs, hb_.1, hb_.2⟩ hN hr c297 hb i (by omega)) ⟨rfl, rfl, by decide, by decide⟩ hb_.1 rfl rfl (Nat.le_of_ble_eq_true rfl) ⟨Nat.zero_le _, Nat.zero_le _⟩ ?_
    rintro _ _ ⟨_, rfl, rfl, rfl⟩
    show G M S E (0, 0) g 10 [some (.ref (E.1 286)), some (.int (nI i)), some (.int (nI w)), none, none, none, none] [.int (nI (pcF (fun k => y (16 * i + k))))]
    refine r_iconst (pc := 10) (v := nI 2) C dX8_passes_10 (by decide +kernel) ?_
    refine r_irem (pc := 11) C dX8_passes_11 (nI_ne0 (by omega) (by omega)) ?_
    refine r_ti (nI ((pcF (fun k => y (16 * i + k))) % 2)) (pk_rem (by omega) (by omega) (by omega)) ?_
    refine r_if_ne (pc := 12) (tgt := 19) C dX8_passes_12 (by decide) (fun h12 => ?_) (fun h12 => ?_)
    · have h12 := z_ne (by omega) h12
      refine r_iconst (pc := 19) (v := nI 0) C dX8_passes_19 (by decide +kernel) ?_
      exact r_iret (pc := 20) C Z dX8_passes_20 rfl (⟨by rw [show mpB w (fun k => y (16 * i + k)) = false by unfold mpB; rw [if_pos h2]; exact decide_eq_false h12]; rfl, rfl⟩)
    · have h12 := z_eq (by omega) h12
      refine r_iconst (pc := 15) (v := nI 1) C dX8_passes_15 (by decide +kernel) ?_
      refine r_goto (pc := 16) (tgt := 20) C dX8_passes_16 (by decide) ?_
      exact r_iret (pc := 20) C Z dX8_passes_20 rfl (⟨by rw [show mpB w (fun k => y (16 * i + k)) = true by unfold mpB; rw [if_pos h2]; exact decide_eq_true h12]; rfl, rfl⟩)
