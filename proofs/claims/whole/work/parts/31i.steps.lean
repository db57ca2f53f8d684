/-! step and undo, both sides -/
theorem sw_pl {N p : Nat} {a : Nat → Int32} {f : Nat → Int64} {j : Nat} (hN : N ≤ 24) (ha : ∀ k, k < 24 → f (24 * j + k) = (a k).toInt64) : swZ N p f j = plS N a p (fun _ => 0) := by
  funext k
  rw [swZ_at, plS_at]
  by_cases q : k < N
  · rw [if_pos q]
    by_cases w : p ≤ k
    · rw [if_pos w, if_pos ⟨w, q⟩, ha (k - p) (by omega), Int64.zero_add]
    · rw [if_neg w, if_neg (fun e => w e.1)]
  · rw [if_neg q, if_neg (fun e => q e.2)]
theorem ad_pl {N : Nat} {b c : Nat → Int64} : adW N b c = plW N b (nI 1) c := by
  funext k
  rw [adW_at, plW_at, show (nI 1).toInt64 = 1 by decide, Int64.one_mul]
theorem sb_eq {N r : Nat} {be : Nat → Nat → Int32} {f : Nat → Int64} {i : Nat} (hN : N ≤ 24) (hi : i < 5) (hb : Fl 5 be f) : sbS N r f i (i + 1) = sBe N r be i := it_cong (fun j s hj => by
  rw [ad_pl]
  unfold sbW sBt
  rw [sw_pl hN (fun k hk => hb j k (by omega) hk)])
theorem sB_0 {N r : Nat} {be : Nat → Nat → Int32} {i k : Nat} (hk : N ≤ k) : sBe N r be i k = 0 := it_keep (N := N) (fun t h _ k hk => plW_keep hk) k hk
theorem sOk_eq {N r : Nat} {be : Nat → Nat → Int32} {f : Nat → Int64} (hN : N ≤ 24) (hb : Fl 5 be f) : sOkZ N r f = sOk N r be := allB_cong (fun i hi => by
  rw [sb_eq hN hi hb]
  exact fit_pad hN (fun _ _ => rfl) (fun k hk _ => sB_0 hk))
theorem sn_fl {N r : Nat} {be : Nat → Nat → Int32} {f h : Nat → Int64} (hN : N ≤ 24) (hb : Fl 5 be f) (hok : sOk N r be = true) : Fl 5 (fun j => wrT N (sBe N r be j)) (snB N r f h 5) := fun s k hs hk => by
  rw [show snB N r f h 5 (24 * s + k) = sbS N r f s (s + 1) k from it_stR (fun i => sbS N r f i (i + 1)) h 5 s k hs hk, sb_eq hN hs hb]
  exact wrT_at (allB_iff.mp hok s hs) (fun _ _ => rfl) (fun k hk _ => sB_0 hk) hk
theorem sA_fit {N r : Nat} {al : Nat → Nat → Int32} {n : Nat} (ha : RowOk N (al n)) : fitB N (sAl N r al n) = true := allB_t (fun k _ => by
  unfold sAl
  rw [plS_at]
  by_cases q : r * n + n * n ≤ k ∧ k < N
  · rw [if_pos q, Int64.zero_add]; exact inR_of (ha.2 _)
  · rw [if_neg q]; exact inR_0)
theorem sA_0 {N r : Nat} {al : Nat → Nat → Int32} {n k : Nat} (hk : N ≤ k) : sAl N r al n k = 0 := by
  unfold sAl
  rw [plS_at, if_neg (by omega)]
theorem sa_fl {N r : Nat} {al : Nat → Nat → Int32} {f h : Nat → Int64} (hN : N ≤ 24) (ha : Fl 5 al f) (ho : ∀ t, t < 5 → RowOk N (al t)) : Fl 5 (fun j => wrT N (sAl N r al j)) (saZ N r f h 5) := fun s k hs hk => by
  rw [show saZ N r f h 5 (24 * s + k) = swZ N (r * s + s * s) f s k from it_stR (fun i => swZ N (r * i + i * i) f i) h 5 s k hs hk, sw_pl hN (fun k hk => ha s k hs hk)]
  exact wrT_at (sA_fit (ho s hs)) (fun _ _ => rfl) (fun k hk _ => sA_0 hk) hk
/-- what is remembered -/
def RemOk (m : Nat) (rem : Nat → PV) (fe : Nat → Int64) : Prop := ∀ i, i < m → Fl 5 (rem i).2.1 (fun j => fe (240 * i + j)) ∧ Fl 5 (rem i).2.2 (fun j => fe (240 * i + 120 + j))
theorem re_at {fe fa fb : Nat → Int64} {k : Nat} {pv : PV} (ha : Fl 5 pv.2.1 fa) (hb : Fl 5 pv.2.2 fb) : Fl 5 pv.2.1 (fun j => reZ fe fa fb k (240 * k + j)) ∧ Fl 5 pv.2.2 (fun j => reZ fe fa fb k (240 * k + 120 + j)) := by
  refine ⟨fun t j ht hj => ?_, fun t j ht hj => ?_⟩
  · show reZ fe fa fb k (240 * k + (24 * t + j)) = _
    unfold reZ cp120
    rw [if_neg (by omega), if_pos (by omega), show 0 + (240 * k + (24 * t + j) - 240 * k) = 24 * t + j by omega]
    exact ha t j ht hj
  · show reZ fe fa fb k (240 * k + 120 + (24 * t + j)) = _
    unfold reZ cp120
    rw [if_pos (by omega), show 0 + (240 * k + 120 + (24 * t + j) - (240 * k + 120)) = 24 * t + j by omega]
    exact hb t j ht hj
theorem re_ne {fe fa fb : Nat → Int64} {k j : Nat} (h : j < 240 * k ∨ 240 * k + 240 ≤ j) : reZ fe fa fb k j = fe j := by
  unfold reZ cp120
  rw [if_neg (by omega), if_neg (by omega)]
theorem rem_eq {m : Nat} {rem : Nat → PV} {fe fa fb : Nat → Int64} {pv : PV} (hm : m ≤ 8) (h : RemOk m rem fe) (ha : Fl 5 pv.2.1 fa) (hb : Fl 5 pv.2.2 fb) : RemOk (cG m) (rmG m rem pv) (rmE m fe fa fb) := by
  unfold cG rmG rmE
  by_cases e : m = 8
  · subst e
    rw [if_pos rfl, if_pos rfl, if_pos rfl]
    intro i hi
    by_cases q : i < 7
    · show Fl 5 (if i < 7 then rem (i + 1) else pv).2.1 _ ∧ Fl 5 (if i < 7 then rem (i + 1) else pv).2.2 _
      rw [if_pos q]
      obtain ⟨h1, h2⟩ := h (i + 1) (by omega)
      refine ⟨fun t k ht hk => ?_, fun t k ht hk => ?_⟩
      · show reZ (shE fe) fa fb (8 - 1) (240 * i + (24 * t + k)) = _
        rw [re_ne (by omega)]
        unfold shE
        rw [if_pos (by omega), show 240 * i + (24 * t + k) + 240 = 240 * (i + 1) + (24 * t + k) by omega]
        exact h1 t k ht hk
      · show reZ (shE fe) fa fb (8 - 1) (240 * i + 120 + (24 * t + k)) = _
        rw [re_ne (by omega)]
        unfold shE
        rw [if_pos (by omega), show 240 * i + 120 + (24 * t + k) + 240 = 240 * (i + 1) + 120 + (24 * t + k) by omega]
        exact h2 t k ht hk
    · show Fl 5 (if i < 7 then rem (i + 1) else pv).2.1 _ ∧ Fl 5 (if i < 7 then rem (i + 1) else pv).2.2 _
      rw [if_neg q, show i = 7 by omega]
      exact re_at (k := 7) ha hb
  · rw [if_neg e, if_neg e, if_neg e]
    intro i hi
    by_cases q : i < m
    · show Fl 5 (if i < m then rem i else pv).2.1 _ ∧ Fl 5 (if i < m then rem i else pv).2.2 _
      rw [if_pos q]
      obtain ⟨h1, h2⟩ := h i q
      refine ⟨fun t k ht hk => ?_, fun t k ht hk => ?_⟩
      · show reZ fe fa fb m (240 * i + (24 * t + k)) = _
        rw [re_ne (by omega)]; exact h1 t k ht hk
      · show reZ fe fa fb m (240 * i + 120 + (24 * t + k)) = _
        rw [re_ne (by omega)]; exact h2 t k ht hk
    · show Fl 5 (if i < m then rem i else pv).2.1 _ ∧ Fl 5 (if i < m then rem i else pv).2.2 _
      rw [if_neg q, show i = m by omega]
      exact re_at ha hb
theorem rmG_ok {m : Nat} {rem : Nat → PV} {pv : PV} {N r : Nat} (h : ∀ i, i < m → (rem i).1 = r ∧ PvOk N (rem i)) (hm : m ≤ 8) (hp : pv.1 = r ∧ PvOk N pv) : ∀ i, i < cG m → (rmG m rem pv i).1 = r ∧ PvOk N (rmG m rem pv i) := by
  unfold cG rmG
  by_cases e : m = 8
  · rw [if_pos e, if_pos e]
    intro i hi
    show (if i < 7 then rem (i + 1) else pv).1 = r ∧ PvOk N (if i < 7 then rem (i + 1) else pv)
    by_cases q : i < 7
    · rw [if_pos q]; exact h (i + 1) (by omega)
    · rw [if_neg q]; exact hp
  · rw [if_neg e, if_neg e]
    intro i hi
    show (if i < m then rem i else pv).1 = r ∧ PvOk N (if i < m then rem i else pv)
    by_cases q : i < m
    · rw [if_pos q]; exact h i q
    · rw [if_neg q]; exact hp
theorem rmN_cG {m : Nat} : rmN m = cG m := by
  unfold rmN cG
  by_cases e : m = 8
  · rw [if_pos e, if_pos e]; omega
  · rw [if_neg e, if_neg e]
theorem cG_8 {m : Nat} (h : m ≤ 8) : cG m ≤ 8 := by
  unfold cG
  by_cases e : m = 8
  · rw [if_pos e]; exact Nat.le_refl _
  · rw [if_neg e]; omega
theorem RR.setSp {K : KV} {z : MZ} (h : RR K z) {pv : PV} {l : Int32} {m : Nat} {rem : Nat → PV} {fa fb fe : Nat → Int64} (ha : Fl 5 pv.2.1 fa) (hb : Fl 5 pv.2.2 fb) (hr : pv.1 = K.2.1.2.2.1.1) (ho : PvOk K.2.1.1 pv) (hm : m ≤ 8) (hf : RemOk m rem fe) (hq : ∀ i, i < m → (rem i).1 = K.2.1.2.2.1.1 ∧ PvOk K.2.1.1 (rem i)) : RR (K.1, (K.2.1.1, K.2.1.2.1, pv, l, m), rem, K.2.2.2) (s_sp z fa fb fe l m) := by
  obtain ⟨⟨a0, a1, a2, a3, a4, a5, a6, a7⟩, ⟨b0, b1, b2, b3, b4, b5, b6⟩, h2, h3, h4, h5, h6, h7⟩ := h
  simp only [RR, s_sp, R1, SI]
  exact ⟨⟨a0, a1.trans hr.symm, trivial, trivial, a4, ha, hb, hf⟩, ⟨b0, b1, by rw [hr]; exact b2, hm, b4, ho, fun i hi => ⟨(hq i hi).1.trans hr.symm, (hq i hi).2⟩⟩, h2, h3, h4, h5, h6, h7⟩
theorem RR.rem {K : KV} {z : MZ} (h : RR K z) : RemOk K.2.1.2.2.2.2 K.2.2.1 z.2.2.2.2.2.2.2.2.2.2.2.2.2.2.1 := h.1.2.2.2.2.2.2.2
theorem RR.m8 {K : KV} {z : MZ} (h : RR K z) : K.2.1.2.2.2.2 ≤ 8 := h.2.1.2.2.2.1
theorem RR.m {K : KV} {z : MZ} (h : RR K z) : z.2.2.2.1 = K.2.1.2.2.2.2 := h.1.2.2.2.1
theorem RR.len {K : KV} {z : MZ} (h : RR K z) : z.2.2.1 = K.2.1.2.2.2.1 := h.1.2.2.1
theorem RR.rok {K : KV} {z : MZ} (h : RR K z) : ∀ i, i < K.2.1.2.2.2.2 → (K.2.2.1 i).1 = K.2.1.2.2.1.1 ∧ PvOk K.2.1.1 (K.2.2.1 i) := h.2.1.2.2.2.2.2.2
theorem rr_stp {K : KV} {z : MZ} (h : RR K z) : Sm K z (oStp K) (qStp z) := by
  have hn := h.n24
  unfold oStp qStp
  rw [h.n, h.r, h.m, h.len, sOk_eq hn h.fb, rmN_cG]
  cases q : sOk K.2.1.1 K.2.1.2.2.1.1 K.2.1.2.2.1.2.2 with
  | false => exact .same h _
  | true =>
    rw [cond_true, cond_true]
    exact ⟨rfl, h.setSp (pv := (K.2.1.2.2.1.1, (fun j => wrT K.2.1.1 (sAl K.2.1.1 K.2.1.2.2.1.1 K.2.1.2.2.1.2.1 j)), (fun j => wrT K.2.1.1 (sBe K.2.1.1 K.2.1.2.2.1.1 K.2.1.2.2.1.2.2 j)))) (Fl.cp (sa_fl hn h.fa (fun t ht => (h.pair t ht).1))) (Fl.cp (sn_fl hn h.fb q)) rfl (fun t ht => ⟨wrT_ok (sA_fit (h.pair t ht).1), wrT_ok (allB_iff.mp q t ht)⟩) (cG_8 h.m8) (rem_eq h.m8 h.rem h.fa h.fb) (rmG_ok h.rok h.m8 ⟨rfl, h.pair⟩)⟩
theorem rr_und {K : KV} {z : MZ} (h : RR K z) : Sm K z (oUnd K) (qUnd z) := by
  have hm8 := h.m8
  unfold oUnd qUnd
  rw [h.m, h.len]
  by_cases e : K.2.1.2.2.2.2 = 0
  · rw [if_pos e, if_pos e]; exact .same h _
  · rw [if_neg e, if_neg e]
    have r := h.rem (K.2.1.2.2.2.2 - 1) (by omega)
    have ro := h.rok (K.2.1.2.2.2.2 - 1) (by omega)
    exact ⟨rfl, h.setSp (rem := K.2.2.1) (Fl.cpo r.1) (Fl.cpo r.2) ro.1 ro.2 (by omega) (fun i hi => h.rem i (by omega)) (fun i hi => h.rok i (by omega))⟩
