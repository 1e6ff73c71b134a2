/-! THE LAW: told, whole; its loop -/
section LP
variable {z : P0} {KL : Nat → Nat × Nat} {RL : Nat → Nat → Option Nat} {q : Nat → Nat} {b : Nat} {I : Nat → Nat → Int32} {L : Nat → Nat → Int64} {sz : Nat} {ex : Bool} {Q : Res → Mem → Prop} {A : Row}
variable {n m t g D : Nat} {H : Nat → Row} {B : List Nat}
theorem SO.up {a : Nat} {cs : List Nat} {t : Nat} {v : Nat × Nat} (h : SO KL RL b I a cs) : SO (upK KL (ad b t) v) RL b I a cs := by
  have k : ∀ {x}, x < b → upK KL (ad b t) v x = KL x := fun h => if_neg (fun e => by unfold ad at e; omega)
  obtain ⟨h1, h2, h3, ⟨x, h4, h5, h6, h7⟩, h8⟩ := h
  exact ⟨h1, by rw [k h1]; exact h2, h3, ⟨x, h4, h5, by rw [k h4]; exact h6, h7⟩, h8⟩
theorem SZ.up {t : Nat} {v : Nat × Nat} (h : SZ KL RL b I z) : SZ (upK KL (ad b t) v) RL b I z := by
  obtain ⟨h1, h2, h3, h4, h5⟩ := h
  exact ⟨h1, h2.up, h3.up, h4.up, h5.up⟩
theorem SV.up {t : Nat} {v : Nat × Nat} (h : SV KL b I z) : SV (upK KL (ad b t) v) b I z := by
  have k : ∀ {x}, x < b → upK KL (ad b t) v x = KL x := fun h => if_neg (fun e => by unfold ad at e; omega)
  obtain ⟨⟨l1, l2, l3⟩, m1, m2, m3⟩ := h
  exact ⟨⟨l1, by rw [k l1]; exact l2, l3⟩, m1, by rw [k m1]; exact m2, m3⟩
set_option maxHeartbeats 4000000 in
theorem c213 {sd : Nat} (hsd : sd ≤ 1) (ht : 577 ≤ t) (hW : WL KL RL z b I q (A, m, H, B) m D)
    (hQ : ∀ KL' I1 q1 w', (∀ a, a < b → KL' a = KL a) → WL KL' RL z b I1 q1 w' w'.2.1 D → (∀ a, a < b → I1 a = I a) → Q (.inl (some (.int (nI 1)))) (KAt KL' b, I1, RAt RL b q1, L, ad b (t + 1), true)) :
    X z 213 0 [some (.ref (ad b 0)), some (.int (nI (sd))), some (.ref (ad b 566)), some (.ref (ad b 567)), some (.ref (ad b 568)), some (.ref (ad b 569)), some (.ref (ad b 570)), some (.ref (ad b 571)), some (.ref (ad b 572)), some (.ref (ad b 573)), some (.ref (ad b 574)), some (.ref (ad b 575)), some (.ref (ad b 576)), none, none, none, none, none, none, none, none, none, none] [] (0, 0) (KAt KL b, I, RAt RL b q, L, ad b t, true) Q := by
  obtain ⟨hw, hg, hm, hz, hv, hl, hlt, hD⟩ := hW
  dsimp only at hm hl hlt hD
  have hgd := hg.1
  dsimp only at hgd
  have h6 := hgd.1.1
  have klo : ∀ a, a < b → upK KL (ad b t) (20, 10) a = KL a := fun a h => if_neg (fun e => by unfold ad at e; omega)
  have hk : KAt (upK KL (ad b t) (20, 10)) b (ad b t) = (20, 10) := (kw_hi ht).trans (if_pos rfl)
  have f0 : nI 0 = nI (sumF (totF A 0) 0 0) := rfl
  have call : X z 207 0 [some (.ref (ad b 566)), some (.ref (ad b 567)), some (.ref (ad b 569)), some (.ref (ad b 570)), some (.ref (ad b 571)), some (.ref (ad b 575)), some (.ref (ad b 576)), none, none, none, none] [] (0, 0) (KAt (upK KL (ad b t) (20, 10)) b, I, RAt RL b q, L, ad b (t + 1), true) (aftr (X z) mT 213 18 [some (.ref (ad b 0)), some (.int (nI (sd))), some (.ref (ad b 566)), some (.ref (ad b 567)), some (.ref (ad b 568)), some (.ref (ad b 569)), some (.ref (ad b 570)), some (.ref (ad b 571)), some (.ref (ad b 572)), some (.ref (ad b 573)), some (.ref (ad b 574)), some (.ref (ad b 575)), some (.ref (ad b 576)), some (.ref (ad b t)), none, none, none, none, none, none, none, none, none] [] (1, 10) Q) := by
    refine c207 hgd hm hlt hl (fun I1 gl g1 => ?_)
    have T1 : TD (upK KL (ad b t) (20, 10)) RL z b I1 q A m H B := ⟨hw.scr hg g1 (fun o j x => by unfold pG at x; omega), hg, hm, hz.up.ag g1, hv.up.ag g1, hl.ag g1 pLw_g, hlt, gl⟩
    simp (disch := omega) only [v213_21, v213_22, v213_24, v213_25, v213_27, v213_28, v213_30, v213_31, v213_33, v213_34, Nat.add_zero, n_cl, n_in_t, n_lt_t, n_lt_f, n_eq_t, n_eq_f, n_sub, nI_add, n_mul, n_01, ↓reduceIte, if_true, if_false, eq_self, true_or, or_true, and_self, and_true, true_and, Nat.reduceAdd, Nat.reduceMul, Nat.reduceLeDiff, Nat.zero_le, not_true_eq_false, not_false_eq_true, cat2_n, cat2_i, cat2_r, ws_0, ws_i, ws_r, ws_l, ws_d, aftr_n, aftr_s, bI_ok, bI_t, bI_f, up_s, up_n, n_bit, decide_true, decide_false, Bool.not_true, Bool.not_false, Bool.and_true, Bool.true_and, Bool.false_and, Bool.and_false, n_nlt0, n_neg_t, n_neg_f, k_0, k_566, k_567, k_568, k_569, k_570, k_571, k_572, k_573, k_574, k_575, k_576]
    refine t36 (I := I1) (c0 := 1) (n0 := 10) (r := (A 8 + A 6 + A 12) % (grps A).1) hk ht hgd hlt rfl (by omega) (by omega) (fun I2 q2 c2 n2 x19 x20 x21 x22 hc2 hn2 T2 lo2 => ?_) (grps A).1 0 I1 q 1 10 none none none none (by omega) (by split <;> omega) (by split <;> omega) T1 (fun a h => rfl)
    simp (disch := omega) only [v213_417, v213_418, Nat.add_zero, n_cl, n_in_t, n_lt_t, n_lt_f, n_eq_t, n_eq_f, n_sub, nI_add, n_mul, n_01, ↓reduceIte, if_true, if_false, eq_self, true_or, or_true, and_self, and_true, true_and, Nat.reduceAdd, Nat.reduceMul, Nat.reduceLeDiff, Nat.zero_le, not_true_eq_false, not_false_eq_true, cat2_n, cat2_i, cat2_r, ws_0, ws_i, ws_r, ws_l, ws_d, aftr_n, aftr_s, bI_ok, bI_t, bI_f, up_s, up_n, n_bit, decide_true, decide_false, Bool.not_true, Bool.not_false, Bool.and_true, Bool.true_and, Bool.false_and, Bool.and_false, n_nlt0, n_neg_t, n_neg_f, k_0, k_566, k_567, k_568, k_569, k_570, k_571, k_572, k_573, k_574, k_575, k_576]
    refine t420 (I := I2) (c0 := c2) (n0 := n2) hgd hlt (by omega) (by omega) (fun I3 q3 c3 n3 x19 hc3 hn3 T3 lo3 => ?_) (A 6) 0 I2 q2 c2 n2 x19 (by omega) (by omega) (by omega) T2 (fun a h => rfl)
    refine t513 T3 (by omega) (by omega) (fun I4 q4 c4 n4 hc4 hn4 T4 g4 => ?_)
    have lo4 : ∀ a, a < b → I4 a = I a := fun a ha => (((g4.1 a ha).trans (lo3 a ha)).trans (lo2 a ha)).trans (g1.1 a ha)
    have stay : Q (.inl (some (.int (nI 1)))) (KAt (upK KL (ad b t) (20, 10)) b, I4, RAt RL b q4, L, ad b (t + 1), true) := hQ _ I4 q4 (A, m, H, B) klo ⟨T4.1, T4.2.1, T4.2.2.1, T4.2.2.2.1, T4.2.2.2.2.1, T4.2.2.2.2.2.1, T4.2.2.2.2.2.2.1, hD⟩ lo4
    have m2 := T4.2.2.2.2.2.1.1.1.2.2.1
    have tl := totS_le hgd (w := 0)
    have h12 := hlt.2.2.2.2
    by_cases e1 : sd = 0
    · simp (disch := omega) only [v213_625, v213_626, v213_629, v213_631, v213_634, v213_635, v213_636, v213_637, v213_640, v213_641, Nat.add_zero, n_cl, n_in_t, n_lt_t, n_lt_f, n_eq_t, n_eq_f, n_sub, nI_add, n_mul, n_01, ↓reduceIte, if_true, if_false, eq_self, true_or, or_true, and_self, and_true, true_and, Nat.reduceAdd, Nat.reduceMul, Nat.reduceLeDiff, Nat.zero_le, not_true_eq_false, not_false_eq_true, cat2_n, cat2_i, cat2_r, ws_0, ws_i, ws_r, ws_l, ws_d, aftr_n, aftr_s, bI_ok, bI_t, bI_f, up_s, up_n, n_bit, decide_true, decide_false, Bool.not_true, Bool.not_false, Bool.and_true, Bool.true_and, Bool.false_and, Bool.and_false, n_nlt0, n_neg_t, n_neg_f, k_0, k_566, k_567, k_568, k_569, k_570, k_571, k_572, k_573, k_574, k_575, k_576]
      exact stay
    by_cases e2 : totS A 0 = 0
    · simp (disch := omega) only [v213_625, v213_626, v213_629, v213_631, v213_634, v213_635, v213_636, v213_637, v213_640, v213_641, Nat.add_zero, n_cl, n_in_t, n_lt_t, n_lt_f, n_eq_t, n_eq_f, n_sub, nI_add, n_mul, n_01, ↓reduceIte, if_true, if_false, eq_self, true_or, or_true, and_self, and_true, true_and, Nat.reduceAdd, Nat.reduceMul, Nat.reduceLeDiff, Nat.zero_le, not_true_eq_false, not_false_eq_true, cat2_n, cat2_i, cat2_r, ws_0, ws_i, ws_r, ws_l, ws_d, aftr_n, aftr_s, bI_ok, bI_t, bI_f, up_s, up_n, n_bit, decide_true, decide_false, Bool.not_true, Bool.not_false, Bool.and_true, Bool.true_and, Bool.false_and, Bool.and_false, n_nlt0, n_neg_t, n_neg_f, k_0, k_566, k_567, k_568, k_569, k_570, k_571, k_572, k_573, k_574, k_575, k_576]
      exact stay
    by_cases e3 : A 12 = 0
    · simp (disch := omega) only [v213_625, v213_626, v213_629, v213_631, v213_634, v213_635, v213_636, v213_637, v213_640, v213_641, Nat.add_zero, n_cl, n_in_t, n_lt_t, n_lt_f, n_eq_t, n_eq_f, n_sub, nI_add, n_mul, n_01, ↓reduceIte, if_true, if_false, eq_self, true_or, or_true, and_self, and_true, true_and, Nat.reduceAdd, Nat.reduceMul, Nat.reduceLeDiff, Nat.zero_le, not_true_eq_false, not_false_eq_true, cat2_n, cat2_i, cat2_r, ws_0, ws_i, ws_r, ws_l, ws_d, aftr_n, aftr_s, bI_ok, bI_t, bI_f, up_s, up_n, n_bit, decide_true, decide_false, Bool.not_true, Bool.not_false, Bool.and_true, Bool.true_and, Bool.false_and, Bool.and_false, n_nlt0, n_neg_t, n_neg_f, k_0, k_566, k_567, k_568, k_569, k_570, k_571, k_572, k_573, k_574, k_575, k_576, m2]
      exact stay
    simp (disch := omega) only [v213_625, v213_626, v213_629, v213_631, v213_634, v213_635, v213_636, v213_637, v213_640, v213_641, Nat.add_zero, n_cl, n_in_t, n_lt_t, n_lt_f, n_eq_t, n_eq_f, n_sub, nI_add, n_mul, n_01, ↓reduceIte, if_true, if_false, eq_self, true_or, or_true, and_self, and_true, true_and, Nat.reduceAdd, Nat.reduceMul, Nat.reduceLeDiff, Nat.zero_le, not_true_eq_false, not_false_eq_true, cat2_n, cat2_i, cat2_r, ws_0, ws_i, ws_r, ws_l, ws_d, aftr_n, aftr_s, bI_ok, bI_t, bI_f, up_s, up_n, n_bit, decide_true, decide_false, Bool.not_true, Bool.not_false, Bool.and_true, Bool.true_and, Bool.false_and, Bool.and_false, n_nlt0, n_neg_t, n_neg_f, k_0, k_566, k_567, k_568, k_569, k_570, k_571, k_572, k_573, k_574, k_575, k_576, m2]
    exact t642 T4 hD (by omega) (by omega) e3 e2 rfl (fun I5 q5 w' W5 lo5 => hQ _ I5 q5 w' klo W5 (fun a ha => (lo5 a ha).trans (lo4 a ha)))
  simp (disch := omega) only [v213_0, v213_2, v213_4, v213_6, v213_7, v213_8, v213_10, v213_12, v213_14, v213_16, u213_18, Nat.add_zero, n_cl, n_in_t, n_lt_t, n_lt_f, n_eq_t, n_eq_f, n_sub, nI_add, n_mul, n_01, ↓reduceIte, if_true, if_false, eq_self, true_or, or_true, and_self, and_true, true_and, Nat.reduceAdd, Nat.reduceMul, Nat.reduceLeDiff, Nat.zero_le, not_true_eq_false, not_false_eq_true, cat2_n, cat2_i, cat2_r, ws_0, ws_i, ws_r, ws_l, ws_d, aftr_n, aftr_s, bI_ok, bI_t, bI_f, up_s, up_n, n_bit, decide_true, decide_false, Bool.not_true, Bool.not_false, Bool.and_true, Bool.true_and, Bool.false_and, Bool.and_false, n_nlt0, n_neg_t, n_neg_f, k_0, k_566, k_567, k_568, k_569, k_570, k_571, k_572, k_573, k_574, k_575, k_576, leq_t, KAt_up]
  exact call
theorem c192 {y len k : Nat} (y1 : y < b) (y2 : KL y = (50, len)) (hl : len < 2147483648) (hk : k < 2147483648) (hQ : ∀ v, Q (.inl (some (.int v))) (KAt KL b, I, RAt RL b q, L, sz, ex)) : X z 192 0 [some (.ref y), some (.int (nI (k)))] [] (0, 0) (KAt KL b, I, RAt RL b q, L, sz, ex) Q := by
  have ky := (kw_lo (KL := KL) y1).trans y2
  have ia : (isArr 50 = true) = True := eq_true rfl
  by_cases e : k < len
  · simp (disch := omega) only [v192_0, v192_1, v192_2, v192_3, v192_6, v192_7, v192_8, v192_9, v192_12, v192_14, v192_15, v192_17, v192_18, v192_19, Nat.add_zero, n_cl, n_in_t, n_lt_t, n_lt_f, n_eq_t, n_eq_f, n_sub, nI_add, n_mul, n_01, ↓reduceIte, if_true, if_false, eq_self, true_or, or_true, and_self, and_true, true_and, Nat.reduceAdd, Nat.reduceMul, Nat.reduceLeDiff, Nat.zero_le, not_true_eq_false, not_false_eq_true, cat2_n, cat2_i, cat2_r, ws_0, ws_i, ws_r, ws_l, ws_d, aftr_n, aftr_s, bI_ok, bI_t, bI_f, up_s, up_n, n_bit, decide_true, decide_false, Bool.not_true, Bool.not_false, Bool.and_true, Bool.true_and, Bool.false_and, Bool.and_false, n_nlt0, n_neg_t, n_neg_f, k_0, k_566, k_567, k_568, k_569, k_570, k_571, k_572, k_573, k_574, k_575, k_576, ky, ia]
    exact hQ _
  · simp (disch := omega) only [v192_0, v192_1, v192_2, v192_3, v192_6, v192_7, v192_8, v192_9, v192_12, v192_14, v192_15, v192_17, v192_18, v192_19, Nat.add_zero, n_cl, n_in_t, n_lt_t, n_lt_f, n_eq_t, n_eq_f, n_sub, nI_add, n_mul, n_01, ↓reduceIte, if_true, if_false, eq_self, true_or, or_true, and_self, and_true, true_and, Nat.reduceAdd, Nat.reduceMul, Nat.reduceLeDiff, Nat.zero_le, not_true_eq_false, not_false_eq_true, cat2_n, cat2_i, cat2_r, ws_0, ws_i, ws_r, ws_l, ws_d, aftr_n, aftr_s, bI_ok, bI_t, bI_f, up_s, up_n, n_bit, decide_true, decide_false, Bool.not_true, Bool.not_false, Bool.and_true, Bool.true_and, Bool.false_and, Bool.and_false, n_nlt0, n_neg_t, n_neg_f, k_0, k_566, k_567, k_568, k_569, k_570, k_571, k_572, k_573, k_574, k_575, k_576, ky, ia]
    exact hQ _
set_option maxHeartbeats 4000000 in
/-- the law's loop -/
theorem l214 {y len : Nat} (y1 : y < b) (hl : len ≤ 2400000) (hQ : ∀ σ, Q (.inl (some (.int (nI 1)))) σ) : ∀ d k t KL I q c n w (x14 x15 : Option Value), k + d = 30 → 577 ≤ t → KL y = (50, len) → c ≤ 600 + 4000 * k → n ≤ 20000 + 24000 * k → WL KL RL z b I q w w.2.1 (9 * k) →
    X z 214 107 [some (.ref y), some (.ref (ad b 0)), some (.ref (ad b 566)), some (.ref (ad b 567)), some (.ref (ad b 568)), some (.ref (ad b 569)), some (.ref (ad b 570)), some (.ref (ad b 571)), some (.ref (ad b 572)), some (.ref (ad b 573)), some (.ref (ad b 574)), some (.ref (ad b 575)), some (.ref (ad b 576)), some (.int (nI (k))), x14, x15] [] (c, n) (KAt KL b, I, RAt RL b q, L, ad b t, true) Q := by
  intro d
  induction d with
  | zero =>
    intro k t KL I q c n w x14 x15 h ht hy hc hn hW
    obtain rfl : k = 30 := by omega
    rw [v214_107]
    simp (disch := omega) only [v214_109, v214_111, v214_242, v214_243, Nat.add_zero, n_cl, n_in_t, n_lt_t, n_lt_f, n_eq_t, n_eq_f, n_sub, nI_add, n_mul, n_01, ↓reduceIte, if_true, if_false, eq_self, true_or, or_true, and_self, and_true, true_and, Nat.reduceAdd, Nat.reduceMul, Nat.reduceLeDiff, Nat.zero_le, not_true_eq_false, not_false_eq_true, cat2_n, cat2_i, cat2_r, ws_0, ws_i, ws_r, ws_l, ws_d, aftr_n, aftr_s, bI_ok, bI_t, bI_f, up_s, up_n, n_bit, decide_true, decide_false, Bool.not_true, Bool.not_false, Bool.and_true, Bool.true_and, Bool.false_and, Bool.and_false, n_nlt0, n_neg_t, n_neg_f, k_0, k_566, k_567, k_568, k_569, k_570, k_571, k_572, k_573, k_574, k_575, k_576]
    exact hQ _
  | succ d ih =>
    intro k t KL I q c n w x14 x15 h ht hy hc hn hW
    obtain ⟨A, m, H, B⟩ := w
    have m6 : m ≤ 6 := hW.1.2.2.1.1.2
    rw [v214_107]
    simp (disch := omega) only [v214_109, v214_111, v214_114, v214_115, v214_116, v214_118, u214_119, Nat.add_zero, n_cl, n_in_t, n_lt_t, n_lt_f, n_eq_t, n_eq_f, n_sub, nI_add, n_mul, n_01, ↓reduceIte, if_true, if_false, eq_self, true_or, or_true, and_self, and_true, true_and, Nat.reduceAdd, Nat.reduceMul, Nat.reduceLeDiff, Nat.zero_le, not_true_eq_false, not_false_eq_true, cat2_n, cat2_i, cat2_r, ws_0, ws_i, ws_r, ws_l, ws_d, aftr_n, aftr_s, bI_ok, bI_t, bI_f, up_s, up_n, n_bit, decide_true, decide_false, Bool.not_true, Bool.not_false, Bool.and_true, Bool.true_and, Bool.false_and, Bool.and_false, n_nlt0, n_neg_t, n_neg_f, k_0, k_566, k_567, k_568, k_569, k_570, k_571, k_572, k_573, k_574, k_575, k_576, leq_t]
    refine c192 y1 hy (by omega) (by omega) (fun v1 => ?_)
    simp (disch := omega) only [v214_122, v214_124, v214_125, v214_126, v214_128, v214_129, v214_130, u214_131, Nat.add_zero, n_cl, n_in_t, n_lt_t, n_lt_f, n_eq_t, n_eq_f, n_sub, nI_add, n_mul, n_01, ↓reduceIte, if_true, if_false, eq_self, true_or, or_true, and_self, and_true, true_and, Nat.reduceAdd, Nat.reduceMul, Nat.reduceLeDiff, Nat.zero_le, not_true_eq_false, not_false_eq_true, cat2_n, cat2_i, cat2_r, ws_0, ws_i, ws_r, ws_l, ws_d, aftr_n, aftr_s, bI_ok, bI_t, bI_f, up_s, up_n, n_bit, decide_true, decide_false, Bool.not_true, Bool.not_false, Bool.and_true, Bool.true_and, Bool.false_and, Bool.and_false, n_nlt0, n_neg_t, n_neg_f, k_0, k_566, k_567, k_568, k_569, k_570, k_571, k_572, k_573, k_574, k_575, k_576, leq_t]
    refine c192 y1 hy (by omega) (by omega) (fun v2 => ?_)
    -- the act
    have act : ∀ x : Int32, X z 212 0 [some (.ref (ad b 0)), some (.int x), some (.int v2), some (.ref (ad b 566)), some (.ref (ad b 567)), some (.ref (ad b 568)), some (.ref (ad b 569)), some (.ref (ad b 570)), some (.ref (ad b 571)), some (.ref (ad b 572)), some (.ref (ad b 573)), some (.ref (ad b 574)), some (.ref (ad b 575)), none, none, none, none] [] (0, 0) (KAt KL b, I, RAt RL b q, L, ad b t, true) (aftr (X z) mT 214 169 [some (.ref y), some (.ref (ad b 0)), some (.ref (ad b 566)), some (.ref (ad b 567)), some (.ref (ad b 568)), some (.ref (ad b 569)), some (.ref (ad b 570)), some (.ref (ad b 571)), some (.ref (ad b 572)), some (.ref (ad b 573)), some (.ref (ad b 574)), some (.ref (ad b 575)), some (.ref (ad b 576)), some (.int (nI (k))), some (.int v1), some (.int v2)] [] (c + 70, n + 420) Q) := by
      intro x
      refine c212 hW (by omega) (fun I1 q1 w1 W1 hm1 g1 => ?_)
      obtain ⟨A1, m1, H1, B1⟩ := w1
      dsimp only at hm1
      have e7 : I1 (ad b 566) 7 = nI m := W1.2.2.2.2.2.1.1.1.2.2.2.2.2.2.2
      -- the saved states are counted
      have told : ∀ I2, WL KL RL z b I2 q1 (A1, m1, H1, B1) m1 (9 * k + 9) → (∀ a, a < b → I2 a = I a) → X z 214 194 [some (.ref y), some (.ref (ad b 0)), some (.ref (ad b 566)), some (.ref (ad b 567)), some (.ref (ad b 568)), some (.ref (ad b 569)), some (.ref (ad b 570)), some (.ref (ad b 571)), some (.ref (ad b 572)), some (.ref (ad b 573)), some (.ref (ad b 574)), some (.ref (ad b 575)), some (.ref (ad b 576)), some (.int (nI (k))), some (.int v1), some (.int v2)] [] (c + 70, n + 420) (KAt KL b, I2, RAt RL b q1, L, ad b t, true) Q := by
        intro I2 W2 lo2
        have tc : ∀ sd, sd ≤ 1 → X z 213 0 [some (.ref (ad b 0)), some (.int (nI (sd))), some (.ref (ad b 566)), some (.ref (ad b 567)), some (.ref (ad b 568)), some (.ref (ad b 569)), some (.ref (ad b 570)), some (.ref (ad b 571)), some (.ref (ad b 572)), some (.ref (ad b 573)), some (.ref (ad b 574)), some (.ref (ad b 575)), some (.ref (ad b 576)), none, none, none, none, none, none, none, none, none, none] [] (0, 0) (KAt KL b, I2, RAt RL b q1, L, ad b t, true) (aftr (X z) mT 214 228 [some (.ref y), some (.ref (ad b 0)), some (.ref (ad b 566)), some (.ref (ad b 567)), some (.ref (ad b 568)), some (.ref (ad b 569)), some (.ref (ad b 570)), some (.ref (ad b 571)), some (.ref (ad b 572)), some (.ref (ad b 573)), some (.ref (ad b 574)), some (.ref (ad b 575)), some (.ref (ad b 576)), some (.int (nI (k))), some (.int v1), some (.int v2)] [] (c + 70 + 3000, n + 420 + 18000) Q) := by
          intro sd hsd
          refine c213 hsd ht W2 (fun KL' I3 q3 w3 kl3 W3 lo3 => ?_)
          simp (disch := omega) only [v214_231, v214_234, v214_235, v214_236, v214_239, Nat.add_zero, n_cl, n_in_t, n_lt_t, n_lt_f, n_eq_t, n_eq_f, n_sub, nI_add, n_mul, n_01, ↓reduceIte, if_true, if_false, eq_self, true_or, or_true, and_self, and_true, true_and, Nat.reduceAdd, Nat.reduceMul, Nat.reduceLeDiff, Nat.zero_le, not_true_eq_false, not_false_eq_true, cat2_n, cat2_i, cat2_r, ws_0, ws_i, ws_r, ws_l, ws_d, aftr_n, aftr_s, bI_ok, bI_t, bI_f, up_s, up_n, n_bit, decide_true, decide_false, Bool.not_true, Bool.not_false, Bool.and_true, Bool.true_and, Bool.false_and, Bool.and_false, n_nlt0, n_neg_t, n_neg_f, k_0, k_566, k_567, k_568, k_569, k_570, k_571, k_572, k_573, k_574, k_575, k_576]
          exact ih (k + 1) (t + 1) KL' I3 q3 _ _ w3 _ _ (by omega) (by omega) ((kl3 y y1).trans hy) (by omega) (by omega) (W3.mono (by omega))
        have md : nI k - nI (k / 5 * 5) = nI (k % 5) := by
          rw [n_sub (by omega)]
          congr 1
          omega
        by_cases e5 : k % 5 = 4
        · simp (disch := omega) only [v214_194, v214_195, v214_197, v214_198, v214_199, v214_200, v214_203, v214_204, v214_207, v214_208, v214_209, v214_210, v214_212, v214_214, v214_216, v214_218, v214_220, v214_222, v214_224, v214_226, u214_228, Nat.add_zero, n_cl, n_in_t, n_lt_t, n_lt_f, n_eq_t, n_eq_f, n_sub, nI_add, n_mul, n_01, ↓reduceIte, if_true, if_false, eq_self, true_or, or_true, and_self, and_true, true_and, Nat.reduceAdd, Nat.reduceMul, Nat.reduceLeDiff, Nat.zero_le, not_true_eq_false, not_false_eq_true, cat2_n, cat2_i, cat2_r, ws_0, ws_i, ws_r, ws_l, ws_d, aftr_n, aftr_s, bI_ok, bI_t, bI_f, up_s, up_n, n_bit, decide_true, decide_false, Bool.not_true, Bool.not_false, Bool.and_true, Bool.true_and, Bool.false_and, Bool.and_false, n_nlt0, n_neg_t, n_neg_f, k_0, k_566, k_567, k_568, k_569, k_570, k_571, k_572, k_573, k_574, k_575, k_576, leq_t, n_z, n_rem, e5]
          exact tc 1 (by omega)
        · have := Nat.mod_lt k (show 0 < 5 by omega)
          simp (disch := omega) only [v214_194, v214_195, v214_197, v214_198, v214_199, v214_200, v214_203, v214_204, v214_207, v214_208, v214_209, v214_210, v214_212, v214_214, v214_216, v214_218, v214_220, v214_222, v214_224, v214_226, u214_228, Nat.add_zero, n_cl, n_in_t, n_lt_t, n_lt_f, n_eq_t, n_eq_f, n_sub, nI_add, n_mul, n_01, ↓reduceIte, if_true, if_false, eq_self, true_or, or_true, and_self, and_true, true_and, Nat.reduceAdd, Nat.reduceMul, Nat.reduceLeDiff, Nat.zero_le, not_true_eq_false, not_false_eq_true, cat2_n, cat2_i, cat2_r, ws_0, ws_i, ws_r, ws_l, ws_d, aftr_n, aftr_s, bI_ok, bI_t, bI_f, up_s, up_n, n_bit, decide_true, decide_false, Bool.not_true, Bool.not_false, Bool.and_true, Bool.true_and, Bool.false_and, Bool.and_false, n_nlt0, n_neg_t, n_neg_f, k_0, k_566, k_567, k_568, k_569, k_570, k_571, k_572, k_573, k_574, k_575, k_576, leq_t, n_z, n_rem]
          exact tc 0 (by omega)
      by_cases e : m < 6
      · have sm : svN m = m + 1 := by unfold svN; rw [if_neg (by omega)]
        have em : m1 = m + 1 := by omega
        subst em
        have gN : Ag (fun o j => o = 566 ∧ j = 7) b I1 (up2 I1 (ad b 566) 7 (nI (m + 1))) := Ag.rf.up ⟨rfl, rfl⟩
        have W2 : WL KL RL z b (up2 I1 (ad b 566) 7 (nI (m + 1))) q1 (A1, m + 1, H1, B1) (m + 1) (9 * k + 9) := by
          obtain ⟨w1, g1', s1, z1, v1', l1, t1, d1⟩ := W1
          refine ⟨w1.scr g1' gN (fun o j x => by omega), g1', s1, z1.ag gN, v1'.ag gN, ?_, t1, d1⟩
          obtain ⟨⟨⟨a0, a1, a2, a3, a4, a5, a6, a7⟩, a8⟩, b1, b2, b3⟩ := l1
          refine ⟨⟨⟨?_, ?_, ?_, ?_, ?_, ?_, ?_, ?_⟩, fun i hi => ?_⟩, fun p hp => (b1 p hp).ag gN (fun o h1 h2 x => by omega), fun w hw => ?_, fun i hi => ?_⟩
          · rw [up_n (by omega)]; exact a0
          · rw [up_n (by omega)]; exact a1
          · rw [up_n (by omega)]; exact a2
          · rw [up_n (by omega)]; exact a3
          · rw [up_n (by omega)]; exact a4
          · rw [up_n (by omega)]; exact a5
          · rw [up_n (by omega)]; exact a6
          · rw [up_s]
          · rw [up_n (by omega)]; exact a8 i hi
          · rw [up_n (by omega)]; exact b2 w hw
          · rw [up_n (by omega)]; exact b3 i hi
        have f := told _ W2 (fun a ha => (gN.1 a ha).trans (g1.1 a ha))
        simp (disch := omega) only [v214_172, v214_175, v214_176, v214_177, v214_178, v214_180, v214_181, v214_183, v214_186, v214_187, v214_189, v214_190, v214_191, v214_192, v214_193, Nat.add_zero, n_cl, n_in_t, n_lt_t, n_lt_f, n_eq_t, n_eq_f, n_sub, nI_add, n_mul, n_01, ↓reduceIte, if_true, if_false, eq_self, true_or, or_true, and_self, and_true, true_and, Nat.reduceAdd, Nat.reduceMul, Nat.reduceLeDiff, Nat.zero_le, not_true_eq_false, not_false_eq_true, cat2_n, cat2_i, cat2_r, ws_0, ws_i, ws_r, ws_l, ws_d, aftr_n, aftr_s, bI_ok, bI_t, bI_f, up_s, up_n, n_bit, decide_true, decide_false, Bool.not_true, Bool.not_false, Bool.and_true, Bool.true_and, Bool.false_and, Bool.and_false, n_nlt0, n_neg_t, n_neg_f, k_0, k_566, k_567, k_568, k_569, k_570, k_571, k_572, k_573, k_574, k_575, k_576, e7]
        exact f
      · have sm : svN m = 6 := by unfold svN; rw [if_pos (by omega)]
        have em : m1 = 6 := by omega
        have em2 : m = 6 := by omega
        subst em
        subst em2
        have f := told I1 W1 g1.1
        simp (disch := omega) only [v214_172, v214_175, v214_176, v214_177, v214_178, v214_180, v214_181, v214_183, v214_186, v214_187, v214_189, v214_190, v214_191, v214_192, v214_193, Nat.add_zero, n_cl, n_in_t, n_lt_t, n_lt_f, n_eq_t, n_eq_f, n_sub, nI_add, n_mul, n_01, ↓reduceIte, if_true, if_false, eq_self, true_or, or_true, and_self, and_true, true_and, Nat.reduceAdd, Nat.reduceMul, Nat.reduceLeDiff, Nat.zero_le, not_true_eq_false, not_false_eq_true, cat2_n, cat2_i, cat2_r, ws_0, ws_i, ws_r, ws_l, ws_d, aftr_n, aftr_s, bI_ok, bI_t, bI_f, up_s, up_n, n_bit, decide_true, decide_false, Bool.not_true, Bool.not_false, Bool.and_true, Bool.true_and, Bool.false_and, Bool.and_false, n_nlt0, n_neg_t, n_neg_f, k_0, k_566, k_567, k_568, k_569, k_570, k_571, k_572, k_573, k_574, k_575, k_576, e7]
        exact f
    by_cases e : k < 5
    · simp (disch := omega) only [v214_134, v214_136, v214_137, v214_139, v214_140, v214_143, v214_144, v214_147, v214_149, v214_151, v214_152, v214_153, v214_155, v214_157, v214_159, v214_161, v214_163, v214_165, v214_167, u214_169, Nat.add_zero, n_cl, n_in_t, n_lt_t, n_lt_f, n_eq_t, n_eq_f, n_sub, nI_add, n_mul, n_01, ↓reduceIte, if_true, if_false, eq_self, true_or, or_true, and_self, and_true, true_and, Nat.reduceAdd, Nat.reduceMul, Nat.reduceLeDiff, Nat.zero_le, not_true_eq_false, not_false_eq_true, cat2_n, cat2_i, cat2_r, ws_0, ws_i, ws_r, ws_l, ws_d, aftr_n, aftr_s, bI_ok, bI_t, bI_f, up_s, up_n, n_bit, decide_true, decide_false, Bool.not_true, Bool.not_false, Bool.and_true, Bool.true_and, Bool.false_and, Bool.and_false, n_nlt0, n_neg_t, n_neg_f, k_0, k_566, k_567, k_568, k_569, k_570, k_571, k_572, k_573, k_574, k_575, k_576, leq_t]
      exact act (nI 0)
    · simp (disch := omega) only [v214_134, v214_136, v214_137, v214_139, v214_140, v214_143, v214_144, v214_147, v214_149, v214_151, v214_152, v214_153, v214_155, v214_157, v214_159, v214_161, v214_163, v214_165, v214_167, u214_169, Nat.add_zero, n_cl, n_in_t, n_lt_t, n_lt_f, n_eq_t, n_eq_f, n_sub, nI_add, n_mul, n_01, ↓reduceIte, if_true, if_false, eq_self, true_or, or_true, and_self, and_true, true_and, Nat.reduceAdd, Nat.reduceMul, Nat.reduceLeDiff, Nat.zero_le, not_true_eq_false, not_false_eq_true, cat2_n, cat2_i, cat2_r, ws_0, ws_i, ws_r, ws_l, ws_d, aftr_n, aftr_s, bI_ok, bI_t, bI_f, up_s, up_n, n_bit, decide_true, decide_false, Bool.not_true, Bool.not_false, Bool.and_true, Bool.true_and, Bool.false_and, Bool.and_false, n_nlt0, n_neg_t, n_neg_f, k_0, k_566, k_567, k_568, k_569, k_570, k_571, k_572, k_573, k_574, k_575, k_576, leq_t]
      exact act v1
end LP
