def adW (N : Nat) (b c : Nat → Int64) : Nat → Int64 := it (fun t f => vp_updL f t (f t + b t)) N c
def suZ (N r : Nat) (f : Nat → Int64) (t : Nat) : Nat → Int64 := it (fun i c => adW N (swZ N (r * i + i * i) f i) c) t (fun _ => 0)
def rmL (v : Int64) : Int64 := if 0 ≤ v - v / 1000003 * 1000003 then v - v / 1000003 * 1000003 else v - v / 1000003 * 1000003 + 1000003
def abL (v : Int64) : Int64 := if 0 ≤ v then v else -v
def rsZ (m x : Int32) : Bool := btw m.toInt64 1 12 && btw x.toInt64 0 ((1 : Int32) <<< (m &&& 31) - nI 1).toInt64
def loZ (N : Nat) (fr : Nat → Int64) (t : Nat) : Int32 := if 0 ≤ lowZ N fr t then lowZ N fr t else nI 24
def rkZ (N : Nat) (fr : Nat → Int64) (a b : Nat) : Bool := if loZ N fr a = loZ N fr b then (if hiZ fr a N = hiZ fr b N then decide (a < b) else decide (¬ hiZ fr a N ≤ hiZ fr b N)) else decide (¬ loZ N fr b ≤ loZ N fr a)
def chZ (f fr : Nat → Int64) (i t k : Nat) : Int32 := it (fun k s => if f (24 * i + k) = fr (24 * t + k) then s else nI 1) k (nI 0)
def s_tnp (z : MZ) (x_fa : (Nat → Int64)) (x_fb : (Nat → Int64)) (x_len : Int32) (x_rem : Nat) : MZ := (z.1, z.2.1, x_len, x_rem, z.2.2.2.2.1, z.2.2.2.2.2.1, z.2.2.2.2.2.2.1, z.2.2.2.2.2.2.2.1, z.2.2.2.2.2.2.2.2.1, z.2.2.2.2.2.2.2.2.2.1, z.2.2.2.2.2.2.2.2.2.2.1, z.2.2.2.2.2.2.2.2.2.2.2.1, x_fa, x_fb, z.2.2.2.2.2.2.2.2.2.2.2.2.2.2.1, z.2.2.2.2.2.2.2.2.2.2.2.2.2.2.2.1, z.2.2.2.2.2.2.2.2.2.2.2.2.2.2.2.2.1, z.2.2.2.2.2.2.2.2.2.2.2.2.2.2.2.2.2.1, z.2.2.2.2.2.2.2.2.2.2.2.2.2.2.2.2.2.2.1, z.2.2.2.2.2.2.2.2.2.2.2.2.2.2.2.2.2.2.2.1, z.2.2.2.2.2.2.2.2.2.2.2.2.2.2.2.2.2.2.2.2.1, z.2.2.2.2.2.2.2.2.2.2.2.2.2.2.2.2.2.2.2.2.2.1, z.2.2.2.2.2.2.2.2.2.2.2.2.2.2.2.2.2.2.2.2.2.2.1, z.2.2.2.2.2.2.2.2.2.2.2.2.2.2.2.2.2.2.2.2.2.2.2.1, z.2.2.2.2.2.2.2.2.2.2.2.2.2.2.2.2.2.2.2.2.2.2.2.2.1, z.2.2.2.2.2.2.2.2.2.2.2.2.2.2.2.2.2.2.2.2.2.2.2.2.2.1, z.2.2.2.2.2.2.2.2.2.2.2.2.2.2.2.2.2.2.2.2.2.2.2.2.2.2.1, z.2.2.2.2.2.2.2.2.2.2.2.2.2.2.2.2.2.2.2.2.2.2.2.2.2.2.2.1, z.2.2.2.2.2.2.2.2.2.2.2.2.2.2.2.2.2.2.2.2.2.2.2.2.2.2.2.2.1, z.2.2.2.2.2.2.2.2.2.2.2.2.2.2.2.2.2.2.2.2.2.2.2.2.2.2.2.2.2.1, z.2.2.2.2.2.2.2.2.2.2.2.2.2.2.2.2.2.2.2.2.2.2.2.2.2.2.2.2.2.2.1, z.2.2.2.2.2.2.2.2.2.2.2.2.2.2.2.2.2.2.2.2.2.2.2.2.2.2.2.2.2.2.2)
def s_scr (z : MZ) (x_f2 : (Nat → Int64)) (x_f3 : (Nat → Int64)) (x_f4 : (Nat → Int64)) (x_f5 : (Nat → Int64)) : MZ := (z.1, z.2.1, z.2.2.1, z.2.2.2.1, z.2.2.2.2.1, z.2.2.2.2.2.1, z.2.2.2.2.2.2.1, z.2.2.2.2.2.2.2.1, z.2.2.2.2.2.2.2.2.1, z.2.2.2.2.2.2.2.2.2.1, z.2.2.2.2.2.2.2.2.2.2.1, z.2.2.2.2.2.2.2.2.2.2.2.1, z.2.2.2.2.2.2.2.2.2.2.2.2.1, z.2.2.2.2.2.2.2.2.2.2.2.2.2.1, z.2.2.2.2.2.2.2.2.2.2.2.2.2.2.1, z.2.2.2.2.2.2.2.2.2.2.2.2.2.2.2.1, x_f2, x_f3, x_f4, x_f5, z.2.2.2.2.2.2.2.2.2.2.2.2.2.2.2.2.2.2.2.2.1, z.2.2.2.2.2.2.2.2.2.2.2.2.2.2.2.2.2.2.2.2.2.1, z.2.2.2.2.2.2.2.2.2.2.2.2.2.2.2.2.2.2.2.2.2.2.1, z.2.2.2.2.2.2.2.2.2.2.2.2.2.2.2.2.2.2.2.2.2.2.2.1, z.2.2.2.2.2.2.2.2.2.2.2.2.2.2.2.2.2.2.2.2.2.2.2.2.1, z.2.2.2.2.2.2.2.2.2.2.2.2.2.2.2.2.2.2.2.2.2.2.2.2.2.1, z.2.2.2.2.2.2.2.2.2.2.2.2.2.2.2.2.2.2.2.2.2.2.2.2.2.2.1, z.2.2.2.2.2.2.2.2.2.2.2.2.2.2.2.2.2.2.2.2.2.2.2.2.2.2.2.1, z.2.2.2.2.2.2.2.2.2.2.2.2.2.2.2.2.2.2.2.2.2.2.2.2.2.2.2.2.1, z.2.2.2.2.2.2.2.2.2.2.2.2.2.2.2.2.2.2.2.2.2.2.2.2.2.2.2.2.2.1, z.2.2.2.2.2.2.2.2.2.2.2.2.2.2.2.2.2.2.2.2.2.2.2.2.2.2.2.2.2.2.1, z.2.2.2.2.2.2.2.2.2.2.2.2.2.2.2.2.2.2.2.2.2.2.2.2.2.2.2.2.2.2.2)
set_option maxHeartbeats 4000000 in
set_option maxRecDepth 100000 in
theorem c_X8_loadWeighted {S : ST} {E : ET} {g : Nat → va_E} {N r : Nat} (hMB : MB E g N r) (hN : N ≤ 24) (hr : r ≤ 1) {ia ic : Nat} {f c : Nat → Int64} (ha : Ce E g ia (xJ S 120 f)) (hc : Ce E g ic (xJ S 24 c)) (hna : ia ≠ ic) (hic : 286 < ic) (hia : 286 < ia) (i : Nat) (hi : i < 5) : CtV S E yX8_loadWeighted cX8_loadWeighted 4 none rmX8_loadWeighted [.ref (E.1 286), .ref (E.1 ia), .int (nI i), .ref (E.1 ic)] g (fun g' => g' = va_up g ic (xJ S 24 (swZ N (r * i + i * i) f i))) := by
  refine Ct.of RX8 (by decide +kernel) rfl (Nat.le_of_ble_eq_true rfl) (fun M C Z => ?_)
  obtain ⟨fs, hb⟩ := id hMB
  refine G.eq (pc' := 0) (vs' := [some (.ref (E.1 286)), some (.ref (E.1 ia)), some (.int (nI i)), some (.ref (E.1 ic))]) (st' := []) ?_
  refine r_aload_n (pc := 0) C dX8_loadWeighted_0 rfl ?_
  refine r_aload_n (pc := 1) C dX8_loadWeighted_1 rfl ?_
  refine r_bipush (pc := 2) (v := nI 24) C dX8_loadWeighted_2 (by decide +kernel) ?_
  refine r_iload_n (pc := 4) C dX8_loadWeighted_4 rfl ?_
  refine r_imul (pc := 5) C dX8_loadWeighted_5 ?_
  refine r_ti (nI (24 * i)) (pk_mul _ _) ?_
  refine r_aload_n (pc := 6) C dX8_loadWeighted_6 rfl ?_
  refine r_callV (pc := 7) C dX8_loadWeighted_7 cv_RX8_129 (c_X8_load hb.1 hb.2.1 hN hc (by omega) ha hna (24 * i) (by omega) (by decide)) ⟨rfl, rfl, by decide, by decide⟩ hb.1 rfl rfl (Nat.le_of_ble_eq_true rfl) ⟨Nat.zero_le _, Nat.zero_le _⟩ ?_
  rintro _ _ ⟨rfl, rfl⟩
  show G M S E (0, 0) (va_up g ic (xJ S 24 (ldF N f (24 * i)))) 10 [some (.ref (E.1 286)), some (.ref (E.1 ia)), some (.int (nI i)), some (.ref (E.1 ic))] []
  refine r_aload_n (pc := 10) C dX8_loadWeighted_10 rfl ?_
  refine r_aload_n (pc := 11) C dX8_loadWeighted_11 rfl ?_
  refine r_aload_n (pc := 12) C dX8_loadWeighted_12 rfl ?_
  refine r_getf (pc := 13) C dX8_loadWeighted_13 fl_RX8_109 (Ce.up hb.1 (by omega)) hb.2.2.1 ?_
  refine r_iload_n (pc := 16) C dX8_loadWeighted_16 rfl ?_
  refine r_imul (pc := 17) C dX8_loadWeighted_17 ?_
  refine r_ti (nI (r * i)) (pk_mul _ _) ?_
  refine r_iload_n (pc := 18) C dX8_loadWeighted_18 rfl ?_
  refine r_iload_n (pc := 19) C dX8_loadWeighted_19 rfl ?_
  refine r_imul (pc := 20) C dX8_loadWeighted_20 ?_
  refine r_ti (nI (i * i)) (pk_mul _ _) ?_
  refine r_iadd (pc := 21) C dX8_loadWeighted_21 ?_
  refine r_ti (nI (r * i + (i * i))) (nI_add _ _) ?_
  have h1 : r * i ≤ 1 * 4 := Nat.mul_le_mul hr (by omega)
  have h2 : i * i ≤ 4 * 4 := Nat.mul_le_mul (by omega) (by omega)
  refine r_callV (pc := 22) C dX8_loadWeighted_22 cv_RX8_144 (c_X8_shiftBy (Ce.up hb.1 (by omega)) hb.2.1 hN (Ce.new hc) (by omega) (r * i + i * i) (by omega)) ⟨rfl, rfl, by decide, by decide⟩ (Ce.up hb.1 (by omega)) rfl rfl (Nat.le_of_ble_eq_true rfl) ⟨Nat.zero_le _, Nat.zero_le _⟩ ?_
  rintro _ _ ⟨rfl, rfl⟩
  rw [bx_uu]
  show G M S E (0, 0) (va_up g ic (xJ S 24 (swZ N (r * i + i * i) f i))) 25 [some (.ref (E.1 286)), some (.ref (E.1 ia)), some (.int (nI i)), some (.ref (E.1 ic))] []
  exact r_vret (pc := 25) C Z dX8_loadWeighted_25 rfl
set_option maxHeartbeats 4000000 in
set_option maxRecDepth 100000 in
theorem c_X8_sumWeighted {S : ST} {E : ET} {g : Nat → va_E} {N r : Nat} (hMB : MB E g N r) (hN : N ≤ 24) (hr : r ≤ 1) {ia : Nat} {f a1 a2 : Nat → Int64} (ha : Ce E g ia (xJ S 120 f)) (hi1 : ia ≠ 291) (hi2 : ia ≠ 292) (hia : 286 < ia) (c291 : Ce E g 291 (xJ S 24 a1)) (c292 : Ce E g 292 (xJ S 24 a2)) : CtV S E yX8_sumWeighted cX8_sumWeighted 4 none rmX8_sumWeighted [.ref (E.1 286), .ref (E.1 ia)] g (fun g' => ∃ a : Nat → Int64, g' = va_up (va_up g 291 (xJ S 24 (suZ N r f 5))) 292 (xJ S 24 a)) := by
  refine Ct.of RX8 (by decide +kernel) rfl (Nat.le_of_ble_eq_true rfl) (fun M C Z => ?_)
  obtain ⟨fs, hb⟩ := id hMB
  refine G.eq (pc' := 0) (vs' := [some (.ref (E.1 286)), some (.ref (E.1 ia)), none, none]) (st' := []) ?_
  refine r_aload_n (pc := 0) C dX8_sumWeighted_0 rfl ?_
  refine r_aload_n (pc := 1) C dX8_sumWeighted_1 rfl ?_
  refine r_getf (pc := 2) C dX8_sumWeighted_2 fl_RX8_34 hb.1 hb.2.2.2.2.2.2.2.1 ?_
  refine r_callV (pc := 5) C dX8_sumWeighted_5 cv_RX8_136 (c_X8_makeZero (iq := 286) c291 (by decide)) ⟨rfl, rfl, by decide, by decide⟩ hb.1 rfl rfl (Nat.le_of_ble_eq_true rfl) ⟨Nat.zero_le _, Nat.zero_le _⟩ ?_
  rintro _ _ ⟨rfl, rfl⟩
  show G M S E (0, 0) (va_up g 291 (xJ S 24 (fun _ => 0))) 8 [some (.ref (E.1 286)), some (.ref (E.1 ia)), none, none] []
  refine r_iconst (pc := 8) (v := nI 0) C dX8_sumWeighted_8 (by decide +kernel) ?_
  refine r_istore_n (pc := 9) C dX8_sumWeighted_9 (by decide) ?_
  refine G.eq (pc' := 10) (vs' := [some (.ref (E.1 286)), some (.ref (E.1 ia)), some (.int (nI 0)), none]) (st' := []) ?_
  refine G.heap (Ce.id (Ce.up c292 (by decide))) ?_
  refine bk (P := fun t => G M S E (0, 0) (va_up (va_up g 291 (xJ S 24 (suZ N r f t))) 292 (xJ S 24 (prv a2 (fun i => swZ N (r * i + i * i) f i) t))) 10 [some (.ref (E.1 286)), some (.ref (E.1 ia)), some (.int (nI t)), none] []) (T := 5) ?_ (fun t ht ih => ?_)
  · show G M S E (0, 0) (va_up (va_up g 291 (xJ S 24 (suZ N r f 5))) 292 (xJ S 24 (prv a2 (fun i => swZ N (r * i + i * i) f i) 5))) 10 [some (.ref (E.1 286)), some (.ref (E.1 ia)), some (.int (nI 5)), none] []
    refine r_iload_n (pc := 10) C dX8_sumWeighted_10 rfl ?_
    refine r_iconst (pc := 11) (v := nI 5) C dX8_sumWeighted_11 (by decide +kernel) ?_
    refine r_icmp_ge (pc := 12) (tgt := 62) C dX8_sumWeighted_12 (by decide) (fun h12 => ?_) (fun h12 => ?_)
    · have h12 := c_le (by omega) (by omega) h12
      exact r_vret (pc := 62) C Z dX8_sumWeighted_62 (⟨_, rfl⟩)
    · have h12 := c_nle (by omega) (by omega) h12
      omega
  · show G M S E (0, 0) (va_up (va_up g 291 (xJ S 24 (suZ N r f t))) 292 (xJ S 24 (prv a2 (fun i => swZ N (r * i + i * i) f i) t))) 10 [some (.ref (E.1 286)), some (.ref (E.1 ia)), some (.int (nI t)), none] []
    refine r_iload_n (pc := 10) C dX8_sumWeighted_10 rfl ?_
    refine r_iconst (pc := 11) (v := nI 5) C dX8_sumWeighted_11 (by decide +kernel) ?_
    refine r_icmp_ge (pc := 12) (tgt := 62) C dX8_sumWeighted_12 (by decide) (fun h12 => ?_) (fun h12 => ?_)
    · have h12 := c_le (by omega) (by omega) h12
      omega
    · have h12 := c_nle (by omega) (by omega) h12
      refine r_aload_n (pc := 15) C dX8_sumWeighted_15 rfl ?_
      refine r_aload_n (pc := 16) C dX8_sumWeighted_16 rfl ?_
      refine r_iload_n (pc := 17) C dX8_sumWeighted_17 rfl ?_
      refine r_aload_n (pc := 18) C dX8_sumWeighted_18 rfl ?_
      refine r_getf (pc := 19) C dX8_sumWeighted_19 fl_RX8_37 (Ce.up (Ce.up hb.1 (by decide)) (by decide)) hb.2.2.2.2.2.2.2.2.1 ?_
      refine r_callV (pc := 22) C dX8_sumWeighted_22 cv_RX8_210 (c_X8_loadWeighted ⟨fs, (Ce.up (Ce.up hb.1 (by decide)) (by decide)), hb.2⟩ hN hr (Ce.up (Ce.up ha (by omega)) (by omega)) (Ce.new (Ce.up c292 (by decide))) (by omega) (by omega) (by omega) t (by omega)) ⟨rfl, rfl, by decide, by decide⟩ (Ce.up (Ce.up hb.1 (by decide)) (by decide)) rfl rfl (Nat.le_of_ble_eq_true rfl) ⟨Nat.zero_le _, Nat.zero_le _⟩ ?_
      rintro _ _ ⟨rfl, rfl⟩
      rw [bx_uu]
      show G M S E (0, 0) (va_up (va_up g 291 (xJ S 24 (suZ N r f t))) 292 (xJ S 24 (swZ N (r * t + t * t) f t))) 25 [some (.ref (E.1 286)), some (.ref (E.1 ia)), some (.int (nI t)), none] []
      refine r_iconst (pc := 25) (v := nI 0) C dX8_sumWeighted_25 (by decide +kernel) ?_
      refine r_istore_n (pc := 26) C dX8_sumWeighted_26 (by decide) ?_
      refine G.eq (pc' := 27) (vs' := [some (.ref (E.1 286)), some (.ref (E.1 ia)), some (.int (nI t)), some (.int (nI 0))]) (st' := []) ?_
      refine bk (P := fun t2 => G M S E (0, 0) (va_up (va_up g 291 (xJ S 24 (it (fun t1 h => vp_updL h t1 (h t1 + (swZ N (r * t + t * t) f t) t1)) t2 (suZ N r f t)))) 292 (xJ S 24 (swZ N (r * t + t * t) f t))) 27 [some (.ref (E.1 286)), some (.ref (E.1 ia)), some (.int (nI t)), some (.int (nI t2))] []) (T := N) ?_ (fun t2 ht ih => ?_)
      · show G M S E (0, 0) (va_up (va_up g 291 (xJ S 24 (it (fun t1 h => vp_updL h t1 (h t1 + (swZ N (r * t + t * t) f t) t1)) N (suZ N r f t)))) 292 (xJ S 24 (swZ N (r * t + t * t) f t))) 27 [some (.ref (E.1 286)), some (.ref (E.1 ia)), some (.int (nI t)), some (.int (nI N))] []
        refine r_iload_n (pc := 27) C dX8_sumWeighted_27 rfl ?_
        refine r_aload_n (pc := 28) C dX8_sumWeighted_28 rfl ?_
        refine r_getf (pc := 29) C dX8_sumWeighted_29 fl_RX8_17 (Ce.up (Ce.up hb.1 (by decide)) (by decide)) hb.2.1 ?_
        refine r_icmp_ge (pc := 32) (tgt := 56) C dX8_sumWeighted_32 (by decide) (fun h32 => ?_) (fun h32 => ?_)
        · have h32 := c_le (by omega) (by omega) h32
          refine r_iinc (pc := 56) (v := nI (t + 1)) C dX8_sumWeighted_56 rfl (nI_i1 _) (by decide) ?_
          refine G.eq (pc' := 59) (vs' := [some (.ref (E.1 286)), some (.ref (E.1 ia)), some (.int (nI (t + 1))), some (.int (nI N))]) (st' := []) ?_
          refine r_goto (pc := 59) (tgt := 10) C dX8_sumWeighted_59 (by decide) ?_
          refine G.wk (vs' := [some (.ref (E.1 286)), some (.ref (E.1 ia)), some (.int (nI (t + 1))), none]) ⟨rfl, rfl, rfl, trivial⟩ ?_
          exact ih
        · have h32 := c_nle (by omega) (by omega) h32
          omega
      · show G M S E (0, 0) (va_up (va_up g 291 (xJ S 24 (it (fun t1 h => vp_updL h t1 (h t1 + (swZ N (r * t + t * t) f t) t1)) t2 (suZ N r f t)))) 292 (xJ S 24 (swZ N (r * t + t * t) f t))) 27 [some (.ref (E.1 286)), some (.ref (E.1 ia)), some (.int (nI t)), some (.int (nI t2))] []
        refine r_iload_n (pc := 27) C dX8_sumWeighted_27 rfl ?_
        refine r_aload_n (pc := 28) C dX8_sumWeighted_28 rfl ?_
        refine r_getf (pc := 29) C dX8_sumWeighted_29 fl_RX8_17 (Ce.up (Ce.up hb.1 (by decide)) (by decide)) hb.2.1 ?_
        refine r_icmp_ge (pc := 32) (tgt := 56) C dX8_sumWeighted_32 (by decide) (fun h32 => ?_) (fun h32 => ?_)
        · have h32 := c_le (by omega) (by omega) h32
          omega
        · have h32 := c_nle (by omega) (by omega) h32
          refine r_aload_n (pc := 35) C dX8_sumWeighted_35 rfl ?_
          refine r_getf (pc := 36) C dX8_sumWeighted_36 fl_RX8_34 (Ce.up (Ce.up hb.1 (by decide)) (by decide)) hb.2.2.2.2.2.2.2.1 ?_
          refine r_iload_n (pc := 39) C dX8_sumWeighted_39 rfl ?_
          refine r_dup2 (pc := 40) C dX8_sumWeighted_40 rfl rfl ?_
          refine r_lald (pc := 41) C dX8_sumWeighted_41 (Ce.up (Ce.new c291) (by decide)) rfl (by omega) (by omega) ?_
          refine r_aload_n (pc := 42) C dX8_sumWeighted_42 rfl ?_
          refine r_getf (pc := 43) C dX8_sumWeighted_43 fl_RX8_37 (Ce.up (Ce.up hb.1 (by decide)) (by decide)) hb.2.2.2.2.2.2.2.2.1 ?_
          refine r_iload_n (pc := 46) C dX8_sumWeighted_46 rfl ?_
          refine r_lald (pc := 47) C dX8_sumWeighted_47 (Ce.new (Ce.up c292 (by decide))) rfl (by omega) (by omega) ?_
          refine r_ladd (pc := 48) C dX8_sumWeighted_48 ?_
          refine r_last (pc := 49) C dX8_sumWeighted_49 (Ce.up (Ce.new c291) (by decide)) rfl (by omega) (by omega) ?_
          refine r_iinc (pc := 50) (v := nI (t2 + 1)) C dX8_sumWeighted_50 rfl (nI_i1 _) (by decide) ?_
          refine G.eq (pc' := 53) (vs' := [some (.ref (E.1 286)), some (.ref (E.1 ia)), some (.int (nI t)), some (.int (nI (t2 + 1)))]) (st' := []) ?_
          refine r_goto (pc := 53) (tgt := 27) C dX8_sumWeighted_53 (by decide) ?_
          refine G.heap (show (va_up (va_up (va_up g 291 (xJ S 24 (it (fun t1 h => vp_updL h t1 (h t1 + (swZ N (r * t + t * t) f t) t1)) t2 (suZ N r f t)))) 292 (xJ S 24 (swZ N (r * t + t * t) f t))) 291 (xJ S 24 (vp_updL (it (fun t1 h => vp_updL h t1 (h t1 + (swZ N (r * t + t * t) f t) t1)) t2 (suZ N r f t)) t2 (((it (fun t1 h => vp_updL h t1 (h t1 + (swZ N (r * t + t * t) f t) t1)) t2 (suZ N r f t)) t2) + ((swZ N (r * t + t * t) f t) t2))))) = (va_up (va_up g 291 (xJ S 24 (vp_updL (it (fun t1 h => vp_updL h t1 (h t1 + (swZ N (r * t + t * t) f t) t1)) t2 (suZ N r f t)) t2 (((it (fun t1 h => vp_updL h t1 (h t1 + (swZ N (r * t + t * t) f t) t1)) t2 (suZ N r f t)) t2) + ((swZ N (r * t + t * t) f t) t2))))) 292 (xJ S 24 (swZ N (r * t + t * t) f t))) from by funext q; simp only [va_up]; (repeat' split) <;> first | rfl | omega) ?_
          exact ih
set_option maxHeartbeats 4000000 in
set_option maxRecDepth 100000 in
theorem c_X8_remainder {S : ST} {E : ET} {g : Nat → va_E} (v : Int64) : CtL S E yX8_remainder cX8_remainder 4 (Option.some FieldType.long) rmX8_remainder [.long v] g (fun u g' => u = rmL v ∧ g = g') := by
  refine Ct.of RX8 (by decide +kernel) rfl (Nat.le_of_ble_eq_true rfl) (fun M C Z => ?_)
  refine G.eq (pc' := 0) (vs' := [some (.long v), none, none, none]) (st' := []) ?_
  refine r_lload_n (pc := 0) C dX8_remainder_0 rfl ?_
  refine r_ldc2 (pc := 1) C dX8_remainder_1 qK_RX8_163 ?_
  refine r_lrem (pc := 4) C dX8_remainder_4 (by decide +kernel) ?_
  refine r_lstore_n (pc := 5) C dX8_remainder_5 (by decide) ?_
  refine G.eq (pc' := 6) (vs' := [some (.long v), none, some (.long (v - v / (1000003) * (1000003))), none]) (st' := []) ?_
  refine r_lload_n (pc := 6) C dX8_remainder_6 rfl ?_
  refine r_lconst (pc := 7) (v := 0) C dX8_remainder_7 rfl ?_
  refine r_lcmp (pc := 8) C dX8_remainder_8 ?_
  refine r_if_ge (pc := 9) (tgt := 20) C dX8_remainder_9 (by decide) (fun h9 => ?_) (fun h9 => ?_)
  · have h9 := k_ge h9
    refine r_lload_n (pc := 20) C dX8_remainder_20 rfl ?_
    exact r_lret (pc := 21) C Z dX8_remainder_21 (⟨(if_pos h9).symm, rfl⟩)
  · have h9 := k_nge h9
    refine r_lload_n (pc := 12) C dX8_remainder_12 rfl ?_
    refine r_ldc2 (pc := 13) C dX8_remainder_13 qK_RX8_163 ?_
    refine r_ladd (pc := 16) C dX8_remainder_16 ?_
    refine r_goto (pc := 17) (tgt := 21) C dX8_remainder_17 (by decide) ?_
    exact r_lret (pc := 21) C Z dX8_remainder_21 (⟨(if_neg h9).symm, rfl⟩)
set_option maxHeartbeats 4000000 in
set_option maxRecDepth 100000 in
theorem c_X8_absolute {S : ST} {E : ET} {g : Nat → va_E} (v : Int64) : CtL S E yX8_absolute cX8_absolute 2 (Option.some FieldType.long) rmX8_absolute [.long v] g (fun u g' => u = abL v ∧ g = g') := by
  refine Ct.of RX8 (by decide +kernel) rfl (Nat.le_of_ble_eq_true rfl) (fun M C Z => ?_)
  refine G.eq (pc' := 0) (vs' := [some (.long v), none]) (st' := []) ?_
  refine r_lload_n (pc := 0) C dX8_absolute_0 rfl ?_
  refine r_lconst (pc := 1) (v := 0) C dX8_absolute_1 rfl ?_
  refine r_lcmp (pc := 2) C dX8_absolute_2 ?_
  refine r_if_ge (pc := 3) (tgt := 11) C dX8_absolute_3 (by decide) (fun h3 => ?_) (fun h3 => ?_)
  · have h3 := k_ge h3
    refine r_lload_n (pc := 11) C dX8_absolute_11 rfl ?_
    exact r_lret (pc := 12) C Z dX8_absolute_12 (⟨(if_pos h3).symm, rfl⟩)
  · have h3 := k_nge h3
    refine r_lload_n (pc := 6) C dX8_absolute_6 rfl ?_
    refine r_lneg (pc := 7) C dX8_absolute_7 ?_
    refine r_goto (pc := 8) (tgt := 12) C dX8_absolute_8 (by decide) ?_
    exact r_lret (pc := 12) C Z dX8_absolute_12 (⟨(if_neg h3).symm, rfl⟩)
set_option maxHeartbeats 4000000 in
set_option maxRecDepth 100000 in
theorem c_X8_isResidueSet {S : ST} {E : ET} {g : Nat → va_E} (m x : Int32) : CtI S E yX8_isResidueSet cX8_isResidueSet 2 (Option.some FieldType.boolean) rmX8_isResidueSet [.int m, .int x] g (fun u g' => u = b2i (rsZ m x) ∧ g = g') := by
  refine Ct.of RX8 (by decide +kernel) rfl (Nat.le_of_ble_eq_true rfl) (fun M C Z => ?_)
  refine G.eq (pc' := 0) (vs' := [some (.int m), some (.int x)]) (st' := []) ?_
  refine r_iload_n (pc := 0) C dX8_isResidueSet_0 rfl ?_
  refine r_i2l (pc := 1) C dX8_isResidueSet_1 ?_
  refine r_lconst (pc := 2) (v := 1) C dX8_isResidueSet_2 rfl ?_
  refine r_ldc2 (pc := 3) C dX8_isResidueSet_3 qK_RX8_150 ?_
  refine r_callS (pc := 6) C dX8_isResidueSet_6 cs_RX8_7 (c_X8_isBetween m.toInt64 1 12) ⟨rfl, rfl, by decide, by decide⟩ rfl rfl (Nat.le_of_ble_eq_true rfl) ⟨Nat.zero_le _, Nat.zero_le _⟩ ?_
  rintro _ _ ⟨_, rfl, rfl, rfl⟩
  show G M S E (0, 0) g 9 [some (.int m), some (.int x)] [.int (b2i (btw m.toInt64 1 12))]
  refine r_if_eq (pc := 9) (tgt := 31) C dX8_isResidueSet_9 (by decide) (fun h9 => ?_) (fun h9 => ?_)
  · have h9 := b_f h9
    refine r_iconst (pc := 31) (v := nI 0) C dX8_isResidueSet_31 (by decide +kernel) ?_
    exact r_iret (pc := 32) C Z dX8_isResidueSet_32 rfl (⟨by rw [show rsZ m x = false by unfold rsZ; rw [h9]; rfl]; rfl, rfl⟩)
  · have h9 := b_t h9
    refine r_iload_n (pc := 12) C dX8_isResidueSet_12 rfl ?_
    refine r_i2l (pc := 13) C dX8_isResidueSet_13 ?_
    refine r_lconst (pc := 14) (v := 0) C dX8_isResidueSet_14 rfl ?_
    refine r_iconst (pc := 15) (v := nI 1) C dX8_isResidueSet_15 (by decide +kernel) ?_
    refine r_iload_n (pc := 16) C dX8_isResidueSet_16 rfl ?_
    refine r_ishl (pc := 17) C dX8_isResidueSet_17 ?_
    refine r_iconst (pc := 18) (v := nI 1) C dX8_isResidueSet_18 (by decide +kernel) ?_
    refine r_isub (pc := 19) C dX8_isResidueSet_19 ?_
    refine r_i2l (pc := 20) C dX8_isResidueSet_20 ?_
    refine r_callS (pc := 21) C dX8_isResidueSet_21 cs_RX8_7 (c_X8_isBetween x.toInt64 0 (((1 : Int32) <<< (m &&& 31) - nI 1).toInt64)) ⟨rfl, rfl, by decide, by decide⟩ rfl rfl (Nat.le_of_ble_eq_true rfl) ⟨Nat.zero_le _, Nat.zero_le _⟩ ?_
    rintro _ _ ⟨_, rfl, rfl, rfl⟩
    show G M S E (0, 0) g 24 [some (.int m), some (.int x)] [.int (b2i (btw x.toInt64 0 (((1 : Int32) <<< (m &&& 31) - nI 1).toInt64)))]
    refine r_if_eq (pc := 24) (tgt := 31) C dX8_isResidueSet_24 (by decide) (fun h24 => ?_) (fun h24 => ?_)
    · have h24 := b_f h24
      refine r_iconst (pc := 31) (v := nI 0) C dX8_isResidueSet_31 (by decide +kernel) ?_
      exact r_iret (pc := 32) C Z dX8_isResidueSet_32 rfl (⟨by rw [show rsZ m x = false by unfold rsZ; rw [h9, h24]; rfl]; rfl, rfl⟩)
    · have h24 := b_t h24
      refine r_iconst (pc := 27) (v := nI 1) C dX8_isResidueSet_27 (by decide +kernel) ?_
      refine r_goto (pc := 28) (tgt := 32) C dX8_isResidueSet_28 (by decide) ?_
      exact r_iret (pc := 32) C Z dX8_isResidueSet_32 rfl (⟨by rw [show rsZ m x = true by unfold rsZ; rw [h9, h24]; rfl]; rfl, rfl⟩)
set_option maxHeartbeats 4000000 in
set_option maxRecDepth 100000 in
theorem c_X8_narrow {S : ST} {E : ET} {g : Nat → va_E} (ty : Nat) (hty : ty < 4) (v : Int64) : CtL S E yX8_narrow cX8_narrow 3 (Option.some FieldType.long) rmX8_narrow [.int (nI ty), .long v] g (fun u g' => u = nrw ty v ∧ g = g') := by
  refine Ct.of RX8 (by decide +kernel) rfl (Nat.le_of_ble_eq_true rfl) (fun M C Z => ?_)
  refine G.eq (pc' := 0) (vs' := [some (.int (nI ty)), some (.long v), none]) (st' := []) ?_
  refine r_iload_n (pc := 0) C dX8_narrow_0 rfl ?_
  refine r_if_ne (pc := 1) (tgt := 11) C dX8_narrow_1 (by decide) (fun h1 => ?_) (fun h1 => ?_)
  · have h1 := z_ne (by omega) h1
    refine r_iload_n (pc := 11) C dX8_narrow_11 rfl ?_
    refine r_iconst (pc := 12) (v := nI 1) C dX8_narrow_12 (by decide +kernel) ?_
    refine r_icmp_ne (pc := 13) (tgt := 23) C dX8_narrow_13 (by decide) (fun h13 => ?_) (fun h13 => ?_)
    · have h13 := c_ne (by omega) (by omega) h13
      refine r_iload_n (pc := 23) C dX8_narrow_23 rfl ?_
      refine r_iconst (pc := 24) (v := nI 2) C dX8_narrow_24 (by decide +kernel) ?_
      refine r_icmp_ne (pc := 25) (tgt := 34) C dX8_narrow_25 (by decide) (fun h25 => ?_) (fun h25 => ?_)
      · have h25 := c_ne (by omega) (by omega) h25
        refine r_lload_n (pc := 34) C dX8_narrow_34 rfl ?_
        exact r_lret (pc := 35) C Z dX8_narrow_35 (⟨by unfold nrw; rw [if_neg h1, if_neg h13, if_neg h25], rfl⟩)
      · have h25 := c_eq (by omega) (by omega) h25
        refine r_lload_n (pc := 28) C dX8_narrow_28 rfl ?_
        refine r_l2i (pc := 29) C dX8_narrow_29 ?_
        refine r_i2l (pc := 30) C dX8_narrow_30 ?_
        refine r_goto (pc := 31) (tgt := 35) C dX8_narrow_31 (by decide) ?_
        exact r_lret (pc := 35) C Z dX8_narrow_35 (⟨by unfold nrw; rw [if_neg h1, if_neg h13, if_pos h25], rfl⟩)
    · have h13 := c_eq (by omega) (by omega) h13
      refine r_lload_n (pc := 16) C dX8_narrow_16 rfl ?_
      refine r_l2i (pc := 17) C dX8_narrow_17 ?_
      refine r_i2s (pc := 18) C dX8_narrow_18 ?_
      refine r_i2l (pc := 19) C dX8_narrow_19 ?_
      refine r_goto (pc := 20) (tgt := 35) C dX8_narrow_20 (by decide) ?_
      exact r_lret (pc := 35) C Z dX8_narrow_35 (⟨by unfold nrw; rw [if_neg h1, if_pos h13], rfl⟩)
  · have h1 := z_eq (by omega) h1
    refine r_lload_n (pc := 4) C dX8_narrow_4 rfl ?_
    refine r_l2i (pc := 5) C dX8_narrow_5 ?_
    refine r_i2b (pc := 6) C dX8_narrow_6 ?_
    refine r_i2l (pc := 7) C dX8_narrow_7 ?_
    refine r_goto (pc := 8) (tgt := 35) C dX8_narrow_8 (by decide) ?_
    exact r_lret (pc := 35) C Z dX8_narrow_35 (⟨by unfold nrw; rw [if_pos h1], rfl⟩)
set_option maxHeartbeats 4000000 in
set_option maxRecDepth 100000 in
theorem c_X8_isRankedBefore {S : ST} {E : ET} {g : Nat → va_E} {z : MZ} (hM : MC S E g z) (hN : z.1 ≤ 24) (a b : Nat) (ha : a < 6) (hb : b < 6) : CtI S E yX8_isRankedBefore cX8_isRankedBefore 5 (Option.some FieldType.boolean) rmX8_isRankedBefore [.ref (E.1 286), .int (nI a), .int (nI b)] g (fun u g' => u = b2i (rkZ z.1 z.2.2.2.2.2.2.2.2.2.2.2.1 a b) ∧ g = g') := by
  refine Ct.of RX8 (by decide +kernel) rfl (Nat.le_of_ble_eq_true rfl) (fun M C Z => ?_)
  refine G.eq (pc' := 0) (vs' := [some (.ref (E.1 286)), some (.int (nI a)), some (.int (nI b)), none, none]) (st' := []) ?_
  refine r_aload_n (pc := 0) C dX8_isRankedBefore_0 rfl ?_
  refine r_iload_n (pc := 1) C dX8_isRankedBefore_1 rfl ?_
  refine r_callV (pc := 2) C dX8_isRankedBefore_2 cv_RX8_118 (c_X8_lowest hM hN a ha) ⟨rfl, rfl, by decide, by decide⟩ hM.1 rfl rfl (Nat.le_of_ble_eq_true rfl) ⟨Nat.zero_le _, Nat.zero_le _⟩ ?_
  rintro _ _ ⟨_, rfl, rfl, rfl⟩
  show G M S E (0, 0) g 5 [some (.ref (E.1 286)), some (.int (nI a)), some (.int (nI b)), none, none] [.int (lowZ z.1 z.2.2.2.2.2.2.2.2.2.2.2.1 a)]
  refine r_if_ge (pc := 5) (tgt := 13) C dX8_isRankedBefore_5 (by decide) (fun h5 => ?_) (fun h5 => ?_)
  · refine r_aload_n (pc := 13) C dX8_isRankedBefore_13 rfl ?_
    refine r_iload_n (pc := 14) C dX8_isRankedBefore_14 rfl ?_
    refine r_callV (pc := 15) C dX8_isRankedBefore_15 cv_RX8_118 (c_X8_lowest hM hN a ha) ⟨rfl, rfl, by decide, by decide⟩ hM.1 rfl rfl (Nat.le_of_ble_eq_true rfl) ⟨Nat.zero_le _, Nat.zero_le _⟩ ?_
    rintro _ _ ⟨_, rfl, rfl, rfl⟩
    show G M S E (0, 0) g 18 [some (.ref (E.1 286)), some (.int (nI a)), some (.int (nI b)), none, none] [.int (lowZ z.1 z.2.2.2.2.2.2.2.2.2.2.2.1 a)]
    refine r_ti (loZ z.1 z.2.2.2.2.2.2.2.2.2.2.2.1 a) (if_pos h5).symm ?_
    refine r_istore_n (pc := 18) C dX8_isRankedBefore_18 (by decide) ?_
    refine G.eq (pc' := 19) (vs' := [some (.ref (E.1 286)), some (.int (nI a)), some (.int (nI b)), some (.int (loZ z.1 z.2.2.2.2.2.2.2.2.2.2.2.1 a)), none]) (st' := []) ?_
    refine r_aload_n (pc := 19) C dX8_isRankedBefore_19 rfl ?_
    refine r_iload_n (pc := 20) C dX8_isRankedBefore_20 rfl ?_
    refine r_callV (pc := 21) C dX8_isRankedBefore_21 cv_RX8_118 (c_X8_lowest hM hN b hb) ⟨rfl, rfl, by decide, by decide⟩ hM.1 rfl rfl (Nat.le_of_ble_eq_true rfl) ⟨Nat.zero_le _, Nat.zero_le _⟩ ?_
    rintro _ _ ⟨_, rfl, rfl, rfl⟩
    show G M S E (0, 0) g 24 [some (.ref (E.1 286)), some (.int (nI a)), some (.int (nI b)), some (.int (loZ z.1 z.2.2.2.2.2.2.2.2.2.2.2.1 a)), none] [.int (lowZ z.1 z.2.2.2.2.2.2.2.2.2.2.2.1 b)]
    refine r_if_ge (pc := 24) (tgt := 32) C dX8_isRankedBefore_24 (by decide) (fun h24 => ?_) (fun h24 => ?_)
    · refine r_aload_n (pc := 32) C dX8_isRankedBefore_32 rfl ?_
      refine r_iload_n (pc := 33) C dX8_isRankedBefore_33 rfl ?_
      refine r_callV (pc := 34) C dX8_isRankedBefore_34 cv_RX8_118 (c_X8_lowest hM hN b hb) ⟨rfl, rfl, by decide, by decide⟩ hM.1 rfl rfl (Nat.le_of_ble_eq_true rfl) ⟨Nat.zero_le _, Nat.zero_le _⟩ ?_
      rintro _ _ ⟨_, rfl, rfl, rfl⟩
      show G M S E (0, 0) g 37 [some (.ref (E.1 286)), some (.int (nI a)), some (.int (nI b)), some (.int (loZ z.1 z.2.2.2.2.2.2.2.2.2.2.2.1 a)), none] [.int (lowZ z.1 z.2.2.2.2.2.2.2.2.2.2.2.1 b)]
      refine r_ti (loZ z.1 z.2.2.2.2.2.2.2.2.2.2.2.1 b) (if_pos h24).symm ?_
      refine r_istore (pc := 37) C dX8_isRankedBefore_37 (by decide) ?_
      refine G.eq (pc' := 39) (vs' := [some (.ref (E.1 286)), some (.int (nI a)), some (.int (nI b)), some (.int (loZ z.1 z.2.2.2.2.2.2.2.2.2.2.2.1 a)), some (.int (loZ z.1 z.2.2.2.2.2.2.2.2.2.2.2.1 b))]) (st' := []) ?_
      refine r_iload_n (pc := 39) C dX8_isRankedBefore_39 rfl ?_
      refine r_iload (pc := 40) C dX8_isRankedBefore_40 rfl ?_
      refine r_icmp_eq (pc := 42) (tgt := 57) C dX8_isRankedBefore_42 (by decide) (fun h42 => ?_) (fun h42 => ?_)
      · refine r_aload_n (pc := 57) C dX8_isRankedBefore_57 rfl ?_
        refine r_iload_n (pc := 58) C dX8_isRankedBefore_58 rfl ?_
        refine r_callV (pc := 59) C dX8_isRankedBefore_59 cv_RX8_122 (c_X8_highest hM hN a ha) ⟨rfl, rfl, by decide, by decide⟩ hM.1 rfl rfl (Nat.le_of_ble_eq_true rfl) ⟨Nat.zero_le _, Nat.zero_le _⟩ ?_
        rintro _ _ ⟨_, rfl, rfl, rfl⟩
        show G M S E (0, 0) g 62 [some (.ref (E.1 286)), some (.int (nI a)), some (.int (nI b)), some (.int (loZ z.1 z.2.2.2.2.2.2.2.2.2.2.2.1 a)), some (.int (loZ z.1 z.2.2.2.2.2.2.2.2.2.2.2.1 b))] [.int (hiZ z.2.2.2.2.2.2.2.2.2.2.2.1 a z.1)]
        refine r_aload_n (pc := 62) C dX8_isRankedBefore_62 rfl ?_
        refine r_iload_n (pc := 63) C dX8_isRankedBefore_63 rfl ?_
        refine r_callV (pc := 64) C dX8_isRankedBefore_64 cv_RX8_122 (c_X8_highest hM hN b hb) ⟨rfl, rfl, by decide, by decide⟩ hM.1 rfl rfl (Nat.le_of_ble_eq_true rfl) ⟨Nat.zero_le _, Nat.zero_le _⟩ ?_
        rintro _ _ ⟨_, rfl, rfl, rfl⟩
        show G M S E (0, 0) g 67 [some (.ref (E.1 286)), some (.int (nI a)), some (.int (nI b)), some (.int (loZ z.1 z.2.2.2.2.2.2.2.2.2.2.2.1 a)), some (.int (loZ z.1 z.2.2.2.2.2.2.2.2.2.2.2.1 b))] [.int (hiZ z.2.2.2.2.2.2.2.2.2.2.2.1 b z.1), .int (hiZ z.2.2.2.2.2.2.2.2.2.2.2.1 a z.1)]
        refine r_icmp_eq (pc := 67) (tgt := 91) C dX8_isRankedBefore_67 (by decide) (fun h67 => ?_) (fun h67 => ?_)
        · refine r_iload_n (pc := 91) C dX8_isRankedBefore_91 rfl ?_
          refine r_iload_n (pc := 92) C dX8_isRankedBefore_92 rfl ?_
          refine r_icmp_ge (pc := 93) (tgt := 100) C dX8_isRankedBefore_93 (by decide) (fun h93 => ?_) (fun h93 => ?_)
          · have h93 := c_le (by omega) (by omega) h93
            refine r_iconst (pc := 100) (v := nI 0) C dX8_isRankedBefore_100 (by decide +kernel) ?_
            exact r_iret (pc := 101) C Z dX8_isRankedBefore_101 rfl (⟨by rw [show rkZ z.1 z.2.2.2.2.2.2.2.2.2.2.2.1 a b = false by unfold rkZ; rw [if_pos h42, if_pos h67]; exact decide_eq_false (by omega)]; rfl, rfl⟩)
          · have h93 := c_nle (by omega) (by omega) h93
            refine r_iconst (pc := 96) (v := nI 1) C dX8_isRankedBefore_96 (by decide +kernel) ?_
            refine r_goto (pc := 97) (tgt := 101) C dX8_isRankedBefore_97 (by decide) ?_
            exact r_iret (pc := 101) C Z dX8_isRankedBefore_101 rfl (⟨by rw [show rkZ z.1 z.2.2.2.2.2.2.2.2.2.2.2.1 a b = true by unfold rkZ; rw [if_pos h42, if_pos h67]; exact decide_eq_true (by omega)]; rfl, rfl⟩)
        · refine r_aload_n (pc := 70) C dX8_isRankedBefore_70 rfl ?_
          refine r_iload_n (pc := 71) C dX8_isRankedBefore_71 rfl ?_
          refine r_callV (pc := 72) C dX8_isRankedBefore_72 cv_RX8_122 (c_X8_highest hM hN a ha) ⟨rfl, rfl, by decide, by decide⟩ hM.1 rfl rfl (Nat.le_of_ble_eq_true rfl) ⟨Nat.zero_le _, Nat.zero_le _⟩ ?_
          rintro _ _ ⟨_, rfl, rfl, rfl⟩
          show G M S E (0, 0) g 75 [some (.ref (E.1 286)), some (.int (nI a)), some (.int (nI b)), some (.int (loZ z.1 z.2.2.2.2.2.2.2.2.2.2.2.1 a)), some (.int (loZ z.1 z.2.2.2.2.2.2.2.2.2.2.2.1 b))] [.int (hiZ z.2.2.2.2.2.2.2.2.2.2.2.1 a z.1)]
          refine r_aload_n (pc := 75) C dX8_isRankedBefore_75 rfl ?_
          refine r_iload_n (pc := 76) C dX8_isRankedBefore_76 rfl ?_
          refine r_callV (pc := 77) C dX8_isRankedBefore_77 cv_RX8_122 (c_X8_highest hM hN b hb) ⟨rfl, rfl, by decide, by decide⟩ hM.1 rfl rfl (Nat.le_of_ble_eq_true rfl) ⟨Nat.zero_le _, Nat.zero_le _⟩ ?_
          rintro _ _ ⟨_, rfl, rfl, rfl⟩
          show G M S E (0, 0) g 80 [some (.ref (E.1 286)), some (.int (nI a)), some (.int (nI b)), some (.int (loZ z.1 z.2.2.2.2.2.2.2.2.2.2.2.1 a)), some (.int (loZ z.1 z.2.2.2.2.2.2.2.2.2.2.2.1 b))] [.int (hiZ z.2.2.2.2.2.2.2.2.2.2.2.1 b z.1), .int (hiZ z.2.2.2.2.2.2.2.2.2.2.2.1 a z.1)]
          refine r_icmp_le (pc := 80) (tgt := 87) C dX8_isRankedBefore_80 (by decide) (fun h80 => ?_) (fun h80 => ?_)
          · refine r_iconst (pc := 87) (v := nI 0) C dX8_isRankedBefore_87 (by decide +kernel) ?_
            refine r_goto (pc := 88) (tgt := 101) C dX8_isRankedBefore_88 (by decide) ?_
            exact r_iret (pc := 101) C Z dX8_isRankedBefore_101 rfl (⟨by rw [show rkZ z.1 z.2.2.2.2.2.2.2.2.2.2.2.1 a b = false by unfold rkZ; rw [if_pos h42, if_neg h67]; exact decide_eq_false (fun p => p h80)]; rfl, rfl⟩)
          · refine r_iconst (pc := 83) (v := nI 1) C dX8_isRankedBefore_83 (by decide +kernel) ?_
            refine r_goto (pc := 84) (tgt := 101) C dX8_isRankedBefore_84 (by decide) ?_
            exact r_iret (pc := 101) C Z dX8_isRankedBefore_101 rfl (⟨by rw [show rkZ z.1 z.2.2.2.2.2.2.2.2.2.2.2.1 a b = true by unfold rkZ; rw [if_pos h42, if_neg h67]; exact decide_eq_true h80]; rfl, rfl⟩)
      · refine r_iload_n (pc := 45) C dX8_isRankedBefore_45 rfl ?_
        refine r_iload (pc := 46) C dX8_isRankedBefore_46 rfl ?_
        refine r_icmp_ge (pc := 48) (tgt := 55) C dX8_isRankedBefore_48 (by decide) (fun h48 => ?_) (fun h48 => ?_)
        · refine r_iconst (pc := 55) (v := nI 0) C dX8_isRankedBefore_55 (by decide +kernel) ?_
          exact r_iret (pc := 56) C Z dX8_isRankedBefore_56 rfl (⟨by rw [show rkZ z.1 z.2.2.2.2.2.2.2.2.2.2.2.1 a b = false by unfold rkZ; rw [if_neg h42]; exact decide_eq_false (fun p => p h48)]; rfl, rfl⟩)
        · refine r_iconst (pc := 51) (v := nI 1) C dX8_isRankedBefore_51 (by decide +kernel) ?_
          refine r_goto (pc := 52) (tgt := 56) C dX8_isRankedBefore_52 (by decide) ?_
          exact r_iret (pc := 56) C Z dX8_isRankedBefore_56 rfl (⟨by rw [show rkZ z.1 z.2.2.2.2.2.2.2.2.2.2.2.1 a b = true by unfold rkZ; rw [if_neg h42]; exact decide_eq_true h48]; rfl, rfl⟩)
    · refine r_bipush (pc := 27) (v := nI 24) C dX8_isRankedBefore_27 (by decide +kernel) ?_
      refine r_goto (pc := 29) (tgt := 37) C dX8_isRankedBefore_29 (by decide) ?_
      refine r_ti (loZ z.1 z.2.2.2.2.2.2.2.2.2.2.2.1 b) (if_neg h24).symm ?_
      refine r_istore (pc := 37) C dX8_isRankedBefore_37 (by decide) ?_
      refine G.eq (pc' := 39) (vs' := [some (.ref (E.1 286)), some (.int (nI a)), some (.int (nI b)), some (.int (loZ z.1 z.2.2.2.2.2.2.2.2.2.2.2.1 a)), some (.int (loZ z.1 z.2.2.2.2.2.2.2.2.2.2.2.1 b))]) (st' := []) ?_
      refine r_iload_n (pc := 39) C dX8_isRankedBefore_39 rfl ?_
      refine r_iload (pc := 40) C dX8_isRankedBefore_40 rfl ?_
      refine r_icmp_eq (pc := 42) (tgt := 57) C dX8_isRankedBefore_42 (by decide) (fun h42 => ?_) (fun h42 => ?_)
      · refine r_aload_n (pc := 57) C dX8_isRankedBefore_57 rfl ?_
        refine r_iload_n (pc := 58) C dX8_isRankedBefore_58 rfl ?_
        refine r_callV (pc := 59) C dX8_isRankedBefore_59 cv_RX8_122 (c_X8_highest hM hN a ha) ⟨rfl, rfl, by decide, by decide⟩ hM.1 rfl rfl (Nat.le_of_ble_eq_true rfl) ⟨Nat.zero_le _, Nat.zero_le _⟩ ?_
        rintro _ _ ⟨_, rfl, rfl, rfl⟩
        show G M S E (0, 0) g 62 [some (.ref (E.1 286)), some (.int (nI a)), some (.int (nI b)), some (.int (loZ z.1 z.2.2.2.2.2.2.2.2.2.2.2.1 a)), some (.int (loZ z.1 z.2.2.2.2.2.2.2.2.2.2.2.1 b))] [.int (hiZ z.2.2.2.2.2.2.2.2.2.2.2.1 a z.1)]
        refine r_aload_n (pc := 62) C dX8_isRankedBefore_62 rfl ?_
        refine r_iload_n (pc := 63) C dX8_isRankedBefore_63 rfl ?_
        refine r_callV (pc := 64) C dX8_isRankedBefore_64 cv_RX8_122 (c_X8_highest hM hN b hb) ⟨rfl, rfl, by decide, by decide⟩ hM.1 rfl rfl (Nat.le_of_ble_eq_true rfl) ⟨Nat.zero_le _, Nat.zero_le _⟩ ?_
        rintro _ _ ⟨_, rfl, rfl, rfl⟩
        show G M S E (0, 0) g 67 [some (.ref (E.1 286)), some (.int (nI a)), some (.int (nI b)), some (.int (loZ z.1 z.2.2.2.2.2.2.2.2.2.2.2.1 a)), some (.int (loZ z.1 z.2.2.2.2.2.2.2.2.2.2.2.1 b))] [.int (hiZ z.2.2.2.2.2.2.2.2.2.2.2.1 b z.1), .int (hiZ z.2.2.2.2.2.2.2.2.2.2.2.1 a z.1)]
        refine r_icmp_eq (pc := 67) (tgt := 91) C dX8_isRankedBefore_67 (by decide) (fun h67 => ?_) (fun h67 => ?_)
        · refine r_iload_n (pc := 91) C dX8_isRankedBefore_91 rfl ?_
          refine r_iload_n (pc := 92) C dX8_isRankedBefore_92 rfl ?_
          refine r_icmp_ge (pc := 93) (tgt := 100) C dX8_isRankedBefore_93 (by decide) (fun h93 => ?_) (fun h93 => ?_)
          · have h93 := c_le (by omega) (by omega) h93
            refine r_iconst (pc := 100) (v := nI 0) C dX8_isRankedBefore_100 (by decide +kernel) ?_
            exact r_iret (pc := 101) C Z dX8_isRankedBefore_101 rfl (⟨by rw [show rkZ z.1 z.2.2.2.2.2.2.2.2.2.2.2.1 a b = false by unfold rkZ; rw [if_pos h42, if_pos h67]; exact decide_eq_false (by omega)]; rfl, rfl⟩)
          · have h93 := c_nle (by omega) (by omega) h93
            refine r_iconst (pc := 96) (v := nI 1) C dX8_isRankedBefore_96 (by decide +kernel) ?_
            refine r_goto (pc := 97) (tgt := 101) C dX8_isRankedBefore_97 (by decide) ?_
            exact r_iret (pc := 101) C Z dX8_isRankedBefore_101 rfl (⟨by rw [show rkZ z.1 z.2.2.2.2.2.2.2.2.2.2.2.1 a b = true by unfold rkZ; rw [if_pos h42, if_pos h67]; exact decide_eq_true (by omega)]; rfl, rfl⟩)
        · refine r_aload_n (pc := 70) C dX8_isRankedBefore_70 rfl ?_
          refine r_iload_n (pc := 71) C dX8_isRankedBefore_71 rfl ?_
          refine r_callV (pc := 72) C dX8_isRankedBefore_72 cv_RX8_122 (c_X8_highest hM hN a ha) ⟨rfl, rfl, by decide, by decide⟩ hM.1 rfl rfl (Nat.le_of_ble_eq_true rfl) ⟨Nat.zero_le _, Nat.zero_le _⟩ ?_
          rintro _ _ ⟨_, rfl, rfl, rfl⟩
          show G M S E (0, 0) g 75 [some (.ref (E.1 286)), some (.int (nI a)), some (.int (nI b)), some (.int (loZ z.1 z.2.2.2.2.2.2.2.2.2.2.2.1 a)), some (.int (loZ z.1 z.2.2.2.2.2.2.2.2.2.2.2.1 b))] [.int (hiZ z.2.2.2.2.2.2.2.2.2.2.2.1 a z.1)]
          refine r_aload_n (pc := 75) C dX8_isRankedBefore_75 rfl ?_
          refine r_iload_n (pc := 76) C dX8_isRankedBefore_76 rfl ?_
          refine r_callV (pc := 77) C dX8_isRankedBefore_77 cv_RX8_122 (c_X8_highest hM hN b hb) ⟨rfl, rfl, by decide, by decide⟩ hM.1 rfl rfl (Nat.le_of_ble_eq_true rfl) ⟨Nat.zero_le _, Nat.zero_le _⟩ ?_
          rintro _ _ ⟨_, rfl, rfl, rfl⟩
          show G M S E (0, 0) g 80 [some (.ref (E.1 286)), some (.int (nI a)), some (.int (nI b)), some (.int (loZ z.1 z.2.2.2.2.2.2.2.2.2.2.2.1 a)), some (.int (loZ z.1 z.2.2.2.2.2.2.2.2.2.2.2.1 b))] [.int (hiZ z.2.2.2.2.2.2.2.2.2.2.2.1 b z.1), .int (hiZ z.2.2.2.2.2.2.2.2.2.2.2.1 a z.1)]
          refine r_icmp_le (pc := 80) (tgt := 87) C dX8_isRankedBefore_80 (by decide) (fun h80 => ?_) (fun h80 => ?_)
          · refine r_iconst (pc := 87) (v := nI 0) C dX8_isRankedBefore_87 (by decide +kernel) ?_
            refine r_goto (pc := 88) (tgt := 101) C dX8_isRankedBefore_88 (by decide) ?_
            exact r_iret (pc := 101) C Z dX8_isRankedBefore_101 rfl (⟨by rw [show rkZ z.1 z.2.2.2.2.2.2.2.2.2.2.2.1 a b = false by unfold rkZ; rw [if_pos h42, if_neg h67]; exact decide_eq_false (fun p => p h80)]; rfl, rfl⟩)
          · refine r_iconst (pc := 83) (v := nI 1) C dX8_isRankedBefore_83 (by decide +kernel) ?_
            refine r_goto (pc := 84) (tgt := 101) C dX8_isRankedBefore_84 (by decide) ?_
            exact r_iret (pc := 101) C Z dX8_isRankedBefore_101 rfl (⟨by rw [show rkZ z.1 z.2.2.2.2.2.2.2.2.2.2.2.1 a b = true by unfold rkZ; rw [if_pos h42, if_neg h67]; exact decide_eq_true h80]; rfl, rfl⟩)
      · refine r_iload_n (pc := 45) C dX8_isRankedBefore_45 rfl ?_
        refine r_iload (pc := 46) C dX8_isRankedBefore_46 rfl ?_
        refine r_icmp_ge (pc := 48) (tgt := 55) C dX8_isRankedBefore_48 (by decide) (fun h48 => ?_) (fun h48 => ?_)
        · refine r_iconst (pc := 55) (v := nI 0) C dX8_isRankedBefore_55 (by decide +kernel) ?_
          exact r_iret (pc := 56) C Z dX8_isRankedBefore_56 rfl (⟨by rw [show rkZ z.1 z.2.2.2.2.2.2.2.2.2.2.2.1 a b = false by unfold rkZ; rw [if_neg h42]; exact decide_eq_false (fun p => p h48)]; rfl, rfl⟩)
        · refine r_iconst (pc := 51) (v := nI 1) C dX8_isRankedBefore_51 (by decide +kernel) ?_
          refine r_goto (pc := 52) (tgt := 56) C dX8_isRankedBefore_52 (by decide) ?_
          exact r_iret (pc := 56) C Z dX8_isRankedBefore_56 rfl (⟨by rw [show rkZ z.1 z.2.2.2.2.2.2.2.2.2.2.2.1 a b = true by unfold rkZ; rw [if_neg h42]; exact decide_eq_true h48]; rfl, rfl⟩)
  · refine r_bipush (pc := 8) (v := nI 24) C dX8_isRankedBefore_8 (by decide +kernel) ?_
    refine r_goto (pc := 10) (tgt := 18) C dX8_isRankedBefore_10 (by decide) ?_
    refine r_ti (loZ z.1 z.2.2.2.2.2.2.2.2.2.2.2.1 a) (if_neg h5).symm ?_
    refine r_istore_n (pc := 18) C dX8_isRankedBefore_18 (by decide) ?_
    refine G.eq (pc' := 19) (vs' := [some (.ref (E.1 286)), some (.int (nI a)), some (.int (nI b)), some (.int (loZ z.1 z.2.2.2.2.2.2.2.2.2.2.2.1 a)), none]) (st' := []) ?_
    refine r_aload_n (pc := 19) C dX8_isRankedBefore_19 rfl ?_
    refine r_iload_n (pc := 20) C dX8_isRankedBefore_20 rfl ?_
    refine r_callV (pc := 21) C dX8_isRankedBefore_21 cv_RX8_118 (c_X8_lowest hM hN b hb) ⟨rfl, rfl, by decide, by decide⟩ hM.1 rfl rfl (Nat.le_of_ble_eq_true rfl) ⟨Nat.zero_le _, Nat.zero_le _⟩ ?_
    rintro _ _ ⟨_, rfl, rfl, rfl⟩
    show G M S E (0, 0) g 24 [some (.ref (E.1 286)), some (.int (nI a)), some (.int (nI b)), some (.int (loZ z.1 z.2.2.2.2.2.2.2.2.2.2.2.1 a)), none] [.int (lowZ z.1 z.2.2.2.2.2.2.2.2.2.2.2.1 b)]
    refine r_if_ge (pc := 24) (tgt := 32) C dX8_isRankedBefore_24 (by decide) (fun h24 => ?_) (fun h24 => ?_)
    · refine r_aload_n (pc := 32) C dX8_isRankedBefore_32 rfl ?_
      refine r_iload_n (pc := 33) C dX8_isRankedBefore_33 rfl ?_
      refine r_callV (pc := 34) C dX8_isRankedBefore_34 cv_RX8_118 (c_X8_lowest hM hN b hb) ⟨rfl, rfl, by decide, by decide⟩ hM.1 rfl rfl (Nat.le_of_ble_eq_true rfl) ⟨Nat.zero_le _, Nat.zero_le _⟩ ?_
      rintro _ _ ⟨_, rfl, rfl, rfl⟩
      show G M S E (0, 0) g 37 [some (.ref (E.1 286)), some (.int (nI a)), some (.int (nI b)), some (.int (loZ z.1 z.2.2.2.2.2.2.2.2.2.2.2.1 a)), none] [.int (lowZ z.1 z.2.2.2.2.2.2.2.2.2.2.2.1 b)]
      refine r_ti (loZ z.1 z.2.2.2.2.2.2.2.2.2.2.2.1 b) (if_pos h24).symm ?_
      refine r_istore (pc := 37) C dX8_isRankedBefore_37 (by decide) ?_
      refine G.eq (pc' := 39) (vs' := [some (.ref (E.1 286)), some (.int (nI a)), some (.int (nI b)), some (.int (loZ z.1 z.2.2.2.2.2.2.2.2.2.2.2.1 a)), some (.int (loZ z.1 z.2.2.2.2.2.2.2.2.2.2.2.1 b))]) (st' := []) ?_
      refine r_iload_n (pc := 39) C dX8_isRankedBefore_39 rfl ?_
      refine r_iload (pc := 40) C dX8_isRankedBefore_40 rfl ?_
      refine r_icmp_eq (pc := 42) (tgt := 57) C dX8_isRankedBefore_42 (by decide) (fun h42 => ?_) (fun h42 => ?_)
      · refine r_aload_n (pc := 57) C dX8_isRankedBefore_57 rfl ?_
        refine r_iload_n (pc := 58) C dX8_isRankedBefore_58 rfl ?_
        refine r_callV (pc := 59) C dX8_isRankedBefore_59 cv_RX8_122 (c_X8_highest hM hN a ha) ⟨rfl, rfl, by decide, by decide⟩ hM.1 rfl rfl (Nat.le_of_ble_eq_true rfl) ⟨Nat.zero_le _, Nat.zero_le _⟩ ?_
        rintro _ _ ⟨_, rfl, rfl, rfl⟩
        show G M S E (0, 0) g 62 [some (.ref (E.1 286)), some (.int (nI a)), some (.int (nI b)), some (.int (loZ z.1 z.2.2.2.2.2.2.2.2.2.2.2.1 a)), some (.int (loZ z.1 z.2.2.2.2.2.2.2.2.2.2.2.1 b))] [.int (hiZ z.2.2.2.2.2.2.2.2.2.2.2.1 a z.1)]
        refine r_aload_n (pc := 62) C dX8_isRankedBefore_62 rfl ?_
        refine r_iload_n (pc := 63) C dX8_isRankedBefore_63 rfl ?_
        refine r_callV (pc := 64) C dX8_isRankedBefore_64 cv_RX8_122 (c_X8_highest hM hN b hb) ⟨rfl, rfl, by decide, by decide⟩ hM.1 rfl rfl (Nat.le_of_ble_eq_true rfl) ⟨Nat.zero_le _, Nat.zero_le _⟩ ?_
        rintro _ _ ⟨_, rfl, rfl, rfl⟩
        show G M S E (0, 0) g 67 [some (.ref (E.1 286)), some (.int (nI a)), some (.int (nI b)), some (.int (loZ z.1 z.2.2.2.2.2.2.2.2.2.2.2.1 a)), some (.int (loZ z.1 z.2.2.2.2.2.2.2.2.2.2.2.1 b))] [.int (hiZ z.2.2.2.2.2.2.2.2.2.2.2.1 b z.1), .int (hiZ z.2.2.2.2.2.2.2.2.2.2.2.1 a z.1)]
        refine r_icmp_eq (pc := 67) (tgt := 91) C dX8_isRankedBefore_67 (by decide) (fun h67 => ?_) (fun h67 => ?_)
        · refine r_iload_n (pc := 91) C dX8_isRankedBefore_91 rfl ?_
          refine r_iload_n (pc := 92) C dX8_isRankedBefore_92 rfl ?_
          refine r_icmp_ge (pc := 93) (tgt := 100) C dX8_isRankedBefore_93 (by decide) (fun h93 => ?_) (fun h93 => ?_)
          · have h93 := c_le (by omega) (by omega) h93
            refine r_iconst (pc := 100) (v := nI 0) C dX8_isRankedBefore_100 (by decide +kernel) ?_
            exact r_iret (pc := 101) C Z dX8_isRankedBefore_101 rfl (⟨by rw [show rkZ z.1 z.2.2.2.2.2.2.2.2.2.2.2.1 a b = false by unfold rkZ; rw [if_pos h42, if_pos h67]; exact decide_eq_false (by omega)]; rfl, rfl⟩)
          · have h93 := c_nle (by omega) (by omega) h93
            refine r_iconst (pc := 96) (v := nI 1) C dX8_isRankedBefore_96 (by decide +kernel) ?_
            refine r_goto (pc := 97) (tgt := 101) C dX8_isRankedBefore_97 (by decide) ?_
            exact r_iret (pc := 101) C Z dX8_isRankedBefore_101 rfl (⟨by rw [show rkZ z.1 z.2.2.2.2.2.2.2.2.2.2.2.1 a b = true by unfold rkZ; rw [if_pos h42, if_pos h67]; exact decide_eq_true (by omega)]; rfl, rfl⟩)
        · refine r_aload_n (pc := 70) C dX8_isRankedBefore_70 rfl ?_
          refine r_iload_n (pc := 71) C dX8_isRankedBefore_71 rfl ?_
          refine r_callV (pc := 72) C dX8_isRankedBefore_72 cv_RX8_122 (c_X8_highest hM hN a ha) ⟨rfl, rfl, by decide, by decide⟩ hM.1 rfl rfl (Nat.le_of_ble_eq_true rfl) ⟨Nat.zero_le _, Nat.zero_le _⟩ ?_
          rintro _ _ ⟨_, rfl, rfl, rfl⟩
          show G M S E (0, 0) g 75 [some (.ref (E.1 286)), some (.int (nI a)), some (.int (nI b)), some (.int (loZ z.1 z.2.2.2.2.2.2.2.2.2.2.2.1 a)), some (.int (loZ z.1 z.2.2.2.2.2.2.2.2.2.2.2.1 b))] [.int (hiZ z.2.2.2.2.2.2.2.2.2.2.2.1 a z.1)]
          refine r_aload_n (pc := 75) C dX8_isRankedBefore_75 rfl ?_
          refine r_iload_n (pc := 76) C dX8_isRankedBefore_76 rfl ?_
          refine r_callV (pc := 77) C dX8_isRankedBefore_77 cv_RX8_122 (c_X8_highest hM hN b hb) ⟨rfl, rfl, by decide, by decide⟩ hM.1 rfl rfl (Nat.le_of_ble_eq_true rfl) ⟨Nat.zero_le _, Nat.zero_le _⟩ ?_
          rintro _ _ ⟨_, rfl, rfl, rfl⟩
          show G M S E (0, 0) g 80 [some (.ref (E.1 286)), some (.int (nI a)), some (.int (nI b)), some (.int (loZ z.1 z.2.2.2.2.2.2.2.2.2.2.2.1 a)), some (.int (loZ z.1 z.2.2.2.2.2.2.2.2.2.2.2.1 b))] [.int (hiZ z.2.2.2.2.2.2.2.2.2.2.2.1 b z.1), .int (hiZ z.2.2.2.2.2.2.2.2.2.2.2.1 a z.1)]
          refine r_icmp_le (pc := 80) (tgt := 87) C dX8_isRankedBefore_80 (by decide) (fun h80 => ?_) (fun h80 => ?_)
          · refine r_iconst (pc := 87) (v := nI 0) C dX8_isRankedBefore_87 (by decide +kernel) ?_
            refine r_goto (pc := 88) (tgt := 101) C dX8_isRankedBefore_88 (by decide) ?_
            exact r_iret (pc := 101) C Z dX8_isRankedBefore_101 rfl (⟨by rw [show rkZ z.1 z.2.2.2.2.2.2.2.2.2.2.2.1 a b = false by unfold rkZ; rw [if_pos h42, if_neg h67]; exact decide_eq_false (fun p => p h80)]; rfl, rfl⟩)
          · refine r_iconst (pc := 83) (v := nI 1) C dX8_isRankedBefore_83 (by decide +kernel) ?_
            refine r_goto (pc := 84) (tgt := 101) C dX8_isRankedBefore_84 (by decide) ?_
            exact r_iret (pc := 101) C Z dX8_isRankedBefore_101 rfl (⟨by rw [show rkZ z.1 z.2.2.2.2.2.2.2.2.2.2.2.1 a b = true by unfold rkZ; rw [if_pos h42, if_neg h67]; exact decide_eq_true h80]; rfl, rfl⟩)
      · refine r_iload_n (pc := 45) C dX8_isRankedBefore_45 rfl ?_
        refine r_iload (pc := 46) C dX8_isRankedBefore_46 rfl ?_
        refine r_icmp_ge (pc := 48) (tgt := 55) C dX8_isRankedBefore_48 (by decide) (fun h48 => ?_) (fun h48 => ?_)
        · refine r_iconst (pc := 55) (v := nI 0) C dX8_isRankedBefore_55 (by decide +kernel) ?_
          exact r_iret (pc := 56) C Z dX8_isRankedBefore_56 rfl (⟨by rw [show rkZ z.1 z.2.2.2.2.2.2.2.2.2.2.2.1 a b = false by unfold rkZ; rw [if_neg h42]; exact decide_eq_false (fun p => p h48)]; rfl, rfl⟩)
        · refine r_iconst (pc := 51) (v := nI 1) C dX8_isRankedBefore_51 (by decide +kernel) ?_
          refine r_goto (pc := 52) (tgt := 56) C dX8_isRankedBefore_52 (by decide) ?_
          exact r_iret (pc := 56) C Z dX8_isRankedBefore_56 rfl (⟨by rw [show rkZ z.1 z.2.2.2.2.2.2.2.2.2.2.2.1 a b = true by unfold rkZ; rw [if_neg h42]; exact decide_eq_true h48]; rfl, rfl⟩)
    · refine r_bipush (pc := 27) (v := nI 24) C dX8_isRankedBefore_27 (by decide +kernel) ?_
      refine r_goto (pc := 29) (tgt := 37) C dX8_isRankedBefore_29 (by decide) ?_
      refine r_ti (loZ z.1 z.2.2.2.2.2.2.2.2.2.2.2.1 b) (if_neg h24).symm ?_
      refine r_istore (pc := 37) C dX8_isRankedBefore_37 (by decide) ?_
      refine G.eq (pc' := 39) (vs' := [some (.ref (E.1 286)), some (.int (nI a)), some (.int (nI b)), some (.int (loZ z.1 z.2.2.2.2.2.2.2.2.2.2.2.1 a)), some (.int (loZ z.1 z.2.2.2.2.2.2.2.2.2.2.2.1 b))]) (st' := []) ?_
      refine r_iload_n (pc := 39) C dX8_isRankedBefore_39 rfl ?_
      refine r_iload (pc := 40) C dX8_isRankedBefore_40 rfl ?_
      refine r_icmp_eq (pc := 42) (tgt := 57) C dX8_isRankedBefore_42 (by decide) (fun h42 => ?_) (fun h42 => ?_)
      · refine r_aload_n (pc := 57) C dX8_isRankedBefore_57 rfl ?_
        refine r_iload_n (pc := 58) C dX8_isRankedBefore_58 rfl ?_
        refine r_callV (pc := 59) C dX8_isRankedBefore_59 cv_RX8_122 (c_X8_highest hM hN a ha) ⟨rfl, rfl, by decide, by decide⟩ hM.1 rfl rfl (Nat.le_of_ble_eq_true rfl) ⟨Nat.zero_le _, Nat.zero_le _⟩ ?_
        rintro _ _ ⟨_, rfl, rfl, rfl⟩
        show G M S E (0, 0) g 62 [some (.ref (E.1 286)), some (.int (nI a)), some (.int (nI b)), some (.int (loZ z.1 z.2.2.2.2.2.2.2.2.2.2.2.1 a)), some (.int (loZ z.1 z.2.2.2.2.2.2.2.2.2.2.2.1 b))] [.int (hiZ z.2.2.2.2.2.2.2.2.2.2.2.1 a z.1)]
        refine r_aload_n (pc := 62) C dX8_isRankedBefore_62 rfl ?_
        refine r_iload_n (pc := 63) C dX8_isRankedBefore_63 rfl ?_
        refine r_callV (pc := 64) C dX8_isRankedBefore_64 cv_RX8_122 (c_X8_highest hM hN b hb) ⟨rfl, rfl, by decide, by decide⟩ hM.1 rfl rfl (Nat.le_of_ble_eq_true rfl) ⟨Nat.zero_le _, Nat.zero_le _⟩ ?_
        rintro _ _ ⟨_, rfl, rfl, rfl⟩
        show G M S E (0, 0) g 67 [some (.ref (E.1 286)), some (.int (nI a)), some (.int (nI b)), some (.int (loZ z.1 z.2.2.2.2.2.2.2.2.2.2.2.1 a)), some (.int (loZ z.1 z.2.2.2.2.2.2.2.2.2.2.2.1 b))] [.int (hiZ z.2.2.2.2.2.2.2.2.2.2.2.1 b z.1), .int (hiZ z.2.2.2.2.2.2.2.2.2.2.2.1 a z.1)]
        refine r_icmp_eq (pc := 67) (tgt := 91) C dX8_isRankedBefore_67 (by decide) (fun h67 => ?_) (fun h67 => ?_)
        · refine r_iload_n (pc := 91) C dX8_isRankedBefore_91 rfl ?_
          refine r_iload_n (pc := 92) C dX8_isRankedBefore_92 rfl ?_
          refine r_icmp_ge (pc := 93) (tgt := 100) C dX8_isRankedBefore_93 (by decide) (fun h93 => ?_) (fun h93 => ?_)
          · have h93 := c_le (by omega) (by omega) h93
            refine r_iconst (pc := 100) (v := nI 0) C dX8_isRankedBefore_100 (by decide +kernel) ?_
            exact r_iret (pc := 101) C Z dX8_isRankedBefore_101 rfl (⟨by rw [show rkZ z.1 z.2.2.2.2.2.2.2.2.2.2.2.1 a b = false by unfold rkZ; rw [if_pos h42, if_pos h67]; exact decide_eq_false (by omega)]; rfl, rfl⟩)
          · have h93 := c_nle (by omega) (by omega) h93
            refine r_iconst (pc := 96) (v := nI 1) C dX8_isRankedBefore_96 (by decide +kernel) ?_
            refine r_goto (pc := 97) (tgt := 101) C dX8_isRankedBefore_97 (by decide) ?_
            exact r_iret (pc := 101) C Z dX8_isRankedBefore_101 rfl (⟨by rw [show rkZ z.1 z.2.2.2.2.2.2.2.2.2.2.2.1 a b = true by unfold rkZ; rw [if_pos h42, if_pos h67]; exact decide_eq_true (by omega)]; rfl, rfl⟩)
        · refine r_aload_n (pc := 70) C dX8_isRankedBefore_70 rfl ?_
          refine r_iload_n (pc := 71) C dX8_isRankedBefore_71 rfl ?_
          refine r_callV (pc := 72) C dX8_isRankedBefore_72 cv_RX8_122 (c_X8_highest hM hN a ha) ⟨rfl, rfl, by decide, by decide⟩ hM.1 rfl rfl (Nat.le_of_ble_eq_true rfl) ⟨Nat.zero_le _, Nat.zero_le _⟩ ?_
          rintro _ _ ⟨_, rfl, rfl, rfl⟩
          show G M S E (0, 0) g 75 [some (.ref (E.1 286)), some (.int (nI a)), some (.int (nI b)), some (.int (loZ z.1 z.2.2.2.2.2.2.2.2.2.2.2.1 a)), some (.int (loZ z.1 z.2.2.2.2.2.2.2.2.2.2.2.1 b))] [.int (hiZ z.2.2.2.2.2.2.2.2.2.2.2.1 a z.1)]
          refine r_aload_n (pc := 75) C dX8_isRankedBefore_75 rfl ?_
          refine r_iload_n (pc := 76) C dX8_isRankedBefore_76 rfl ?_
          refine r_callV (pc := 77) C dX8_isRankedBefore_77 cv_RX8_122 (c_X8_highest hM hN b hb) ⟨rfl, rfl, by decide, by decide⟩ hM.1 rfl rfl (Nat.le_of_ble_eq_true rfl) ⟨Nat.zero_le _, Nat.zero_le _⟩ ?_
          rintro _ _ ⟨_, rfl, rfl, rfl⟩
          show G M S E (0, 0) g 80 [some (.ref (E.1 286)), some (.int (nI a)), some (.int (nI b)), some (.int (loZ z.1 z.2.2.2.2.2.2.2.2.2.2.2.1 a)), some (.int (loZ z.1 z.2.2.2.2.2.2.2.2.2.2.2.1 b))] [.int (hiZ z.2.2.2.2.2.2.2.2.2.2.2.1 b z.1), .int (hiZ z.2.2.2.2.2.2.2.2.2.2.2.1 a z.1)]
          refine r_icmp_le (pc := 80) (tgt := 87) C dX8_isRankedBefore_80 (by decide) (fun h80 => ?_) (fun h80 => ?_)
          · refine r_iconst (pc := 87) (v := nI 0) C dX8_isRankedBefore_87 (by decide +kernel) ?_
            refine r_goto (pc := 88) (tgt := 101) C dX8_isRankedBefore_88 (by decide) ?_
            exact r_iret (pc := 101) C Z dX8_isRankedBefore_101 rfl (⟨by rw [show rkZ z.1 z.2.2.2.2.2.2.2.2.2.2.2.1 a b = false by unfold rkZ; rw [if_pos h42, if_neg h67]; exact decide_eq_false (fun p => p h80)]; rfl, rfl⟩)
          · refine r_iconst (pc := 83) (v := nI 1) C dX8_isRankedBefore_83 (by decide +kernel) ?_
            refine r_goto (pc := 84) (tgt := 101) C dX8_isRankedBefore_84 (by decide) ?_
            exact r_iret (pc := 101) C Z dX8_isRankedBefore_101 rfl (⟨by rw [show rkZ z.1 z.2.2.2.2.2.2.2.2.2.2.2.1 a b = true by unfold rkZ; rw [if_pos h42, if_neg h67]; exact decide_eq_true h80]; rfl, rfl⟩)
      · refine r_iload_n (pc := 45) C dX8_isRankedBefore_45 rfl ?_
        refine r_iload (pc := 46) C dX8_isRankedBefore_46 rfl ?_
        refine r_icmp_ge (pc := 48) (tgt := 55) C dX8_isRankedBefore_48 (by decide) (fun h48 => ?_) (fun h48 => ?_)
        · refine r_iconst (pc := 55) (v := nI 0) C dX8_isRankedBefore_55 (by decide +kernel) ?_
          exact r_iret (pc := 56) C Z dX8_isRankedBefore_56 rfl (⟨by rw [show rkZ z.1 z.2.2.2.2.2.2.2.2.2.2.2.1 a b = false by unfold rkZ; rw [if_neg h42]; exact decide_eq_false (fun p => p h48)]; rfl, rfl⟩)
        · refine r_iconst (pc := 51) (v := nI 1) C dX8_isRankedBefore_51 (by decide +kernel) ?_
          refine r_goto (pc := 52) (tgt := 56) C dX8_isRankedBefore_52 (by decide) ?_
          exact r_iret (pc := 56) C Z dX8_isRankedBefore_56 rfl (⟨by rw [show rkZ z.1 z.2.2.2.2.2.2.2.2.2.2.2.1 a b = true by unfold rkZ; rw [if_neg h42]; exact decide_eq_true h48]; rfl, rfl⟩)
set_option maxHeartbeats 4000000 in
set_option maxRecDepth 100000 in
theorem c_X8_takesNewPair {S : ST} {E : ET} {g : Nat → va_E} {z : MZ} (hM : MC S E g z) : CtV S E yX8_takesNewPair cX8_takesNewPair 1 none rmX8_takesNewPair [.ref (E.1 286)] g (fun g' => MC S E g' (s_tnp z (cp120 z.2.2.2.2.2.2.2.2.2.2.2.2.2.2.2.2.2.2.1 0 z.2.2.2.2.2.2.2.2.2.2.2.2.1 0) (cp120 z.2.2.2.2.2.2.2.2.2.2.2.2.2.2.2.2.2.2.2.1 0 z.2.2.2.2.2.2.2.2.2.2.2.2.2.1 0) (nI 0) 0) ∧ Fr g g' 286 308) := by
  refine Ct.of RX8 (by decide +kernel) rfl (Nat.le_of_ble_eq_true rfl) (fun M C Z => ?_)
  refine G.eq (pc' := 0) (vs' := [some (.ref (E.1 286))]) (st' := []) ?_
  refine r_aload_n (pc := 0) C dX8_takesNewPair_0 rfl ?_
  refine r_getf (pc := 1) C dX8_takesNewPair_1 fl_RX8_43 hM.1 rfl ?_
  refine r_iconst (pc := 4) (v := nI 0) C dX8_takesNewPair_4 (by decide +kernel) ?_
  refine r_aload_n (pc := 5) C dX8_takesNewPair_5 rfl ?_
  refine r_getf (pc := 6) C dX8_takesNewPair_6 fl_RX8_25 hM.1 rfl ?_
  refine r_iconst (pc := 9) (v := nI 0) C dX8_takesNewPair_9 (by decide +kernel) ?_
  refine r_callS (pc := 10) C dX8_takesNewPair_10 cs_RX8_186 (c_X8_copyPair hM.2.2.2.2.2.2.2.2.1 hM.2.2.1 (by decide) 0 0 (by omega) (by omega) (by decide) (by decide)) ⟨rfl, rfl, by decide, by decide⟩ rfl rfl (Nat.le_of_ble_eq_true rfl) ⟨Nat.zero_le _, Nat.zero_le _⟩ ?_
  rintro _ _ ⟨rfl, rfl⟩
  show G M S E (0, 0) (va_up g 288 (xJ S 120 (cp120 z.2.2.2.2.2.2.2.2.2.2.2.2.2.2.2.2.2.2.1 0 z.2.2.2.2.2.2.2.2.2.2.2.2.1 0))) 13 [some (.ref (E.1 286))] []
  refine r_aload_n (pc := 13) C dX8_takesNewPair_13 rfl ?_
  refine r_getf (pc := 14) C dX8_takesNewPair_14 fl_RX8_46 (Ce.up hM.1 (by decide)) rfl ?_
  refine r_iconst (pc := 17) (v := nI 0) C dX8_takesNewPair_17 (by decide +kernel) ?_
  refine r_aload_n (pc := 18) C dX8_takesNewPair_18 rfl ?_
  refine r_getf (pc := 19) C dX8_takesNewPair_19 fl_RX8_28 (Ce.up hM.1 (by decide)) rfl ?_
  refine r_iconst (pc := 22) (v := nI 0) C dX8_takesNewPair_22 (by decide +kernel) ?_
  refine r_callS (pc := 23) C dX8_takesNewPair_23 cs_RX8_186 (c_X8_copyPair (Ce.up hM.2.2.2.2.2.2.2.2.2.1 (by decide)) (Ce.up hM.2.2.2.1 (by decide)) (by decide) 0 0 (by omega) (by omega) (by decide) (by decide)) ⟨rfl, rfl, by decide, by decide⟩ rfl rfl (Nat.le_of_ble_eq_true rfl) ⟨Nat.zero_le _, Nat.zero_le _⟩ ?_
  rintro _ _ ⟨rfl, rfl⟩
  show G M S E (0, 0) (va_up (va_up g 288 (xJ S 120 (cp120 z.2.2.2.2.2.2.2.2.2.2.2.2.2.2.2.2.2.2.1 0 z.2.2.2.2.2.2.2.2.2.2.2.2.1 0))) 289 (xJ S 120 (cp120 z.2.2.2.2.2.2.2.2.2.2.2.2.2.2.2.2.2.2.2.1 0 z.2.2.2.2.2.2.2.2.2.2.2.2.2.1 0))) 26 [some (.ref (E.1 286))] []
  refine r_aload_n (pc := 26) C dX8_takesNewPair_26 rfl ?_
  refine r_iconst (pc := 27) (v := nI 0) C dX8_takesNewPair_27 (by decide +kernel) ?_
  refine r_putf (pc := 28) C dX8_takesNewPair_28 fp_RX8_190 (Ce.up (Ce.up hM.1 (by decide)) (by decide)) rfl rfl (Nat.le_of_ble_eq_true rfl) ?_
  refine r_aload_n (pc := 31) C dX8_takesNewPair_31 rfl ?_
  refine r_iconst (pc := 32) (v := nI 0) C dX8_takesNewPair_32 (by decide +kernel) ?_
  refine r_putf2 (pc := 33) C dX8_takesNewPair_33 fp_RX8_193 hM.1.1 rfl rfl (Nat.le_of_ble_eq_true rfl) ?_
  exact r_vret (pc := 36) C Z dX8_takesNewPair_36 (⟨⟨(Ce.new (Ce.up (Ce.up hM.1 (by decide)) (by decide))), (Ce.up (Ce.up (Ce.up hM.2.1 (by decide)) (by decide)) (by decide)), (Ce.up (Ce.up (Ce.new hM.2.2.1) (by decide)) (by decide)), (Ce.up (Ce.new (Ce.up hM.2.2.2.1 (by decide))) (by decide)), (Ce.up (Ce.up (Ce.up hM.2.2.2.2.1 (by decide)) (by decide)) (by decide)), (Ce.up (Ce.up (Ce.up hM.2.2.2.2.2.1 (by decide)) (by decide)) (by decide)), (Ce.up (Ce.up (Ce.up hM.2.2.2.2.2.2.1 (by decide)) (by decide)) (by decide)), (Ce.up (Ce.up (Ce.up hM.2.2.2.2.2.2.2.1 (by decide)) (by decide)) (by decide)), (Ce.up (Ce.up (Ce.up hM.2.2.2.2.2.2.2.2.1 (by decide)) (by decide)) (by decide)), (Ce.up (Ce.up (Ce.up hM.2.2.2.2.2.2.2.2.2.1 (by decide)) (by decide)) (by decide)), (Ce.up (Ce.up (Ce.up hM.2.2.2.2.2.2.2.2.2.2.1 (by decide)) (by decide)) (by decide)), (Ce.up (Ce.up (Ce.up hM.2.2.2.2.2.2.2.2.2.2.2.1 (by decide)) (by decide)) (by decide)), (Ce.up (Ce.up (Ce.up hM.2.2.2.2.2.2.2.2.2.2.2.2.1 (by decide)) (by decide)) (by decide)), (Ce.up (Ce.up (Ce.up hM.2.2.2.2.2.2.2.2.2.2.2.2.2.1 (by decide)) (by decide)) (by decide)), (Ce.up (Ce.up (Ce.up hM.2.2.2.2.2.2.2.2.2.2.2.2.2.2.1 (by decide)) (by decide)) (by decide)), (Ce.up (Ce.up (Ce.up hM.2.2.2.2.2.2.2.2.2.2.2.2.2.2.2.1 (by decide)) (by decide)) (by decide)), (Ce.up (Ce.up (Ce.up hM.2.2.2.2.2.2.2.2.2.2.2.2.2.2.2.2.1 (by decide)) (by decide)) (by decide)), (Ce.up (Ce.up (Ce.up hM.2.2.2.2.2.2.2.2.2.2.2.2.2.2.2.2.2.1 (by decide)) (by decide)) (by decide)), (Ce.up (Ce.up (Ce.up hM.2.2.2.2.2.2.2.2.2.2.2.2.2.2.2.2.2.2.1 (by decide)) (by decide)) (by decide)), (Ce.up (Ce.up (Ce.up hM.2.2.2.2.2.2.2.2.2.2.2.2.2.2.2.2.2.2.2.1 (by decide)) (by decide)) (by decide)), (Ce.up (Ce.up (Ce.up hM.2.2.2.2.2.2.2.2.2.2.2.2.2.2.2.2.2.2.2.2.1 (by decide)) (by decide)) (by decide)), (Ce.up (Ce.up (Ce.up hM.2.2.2.2.2.2.2.2.2.2.2.2.2.2.2.2.2.2.2.2.2 (by decide)) (by decide)) (by decide))⟩, (((Fr.rf.up (by omega) (by omega)).up (by omega) (by omega)).up (by omega) (by omega))⟩)
