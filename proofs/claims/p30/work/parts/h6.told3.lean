/-! THE LAW: persons and counts told; all is sent -/
theorem sendP_la {A : Row} {p : Nat} (hp : p < A 6) (h6 : A 6 ≤ 20) : sendP A (A 6) (93 + p) = if snt A p = true then A 8 else A (93 + p) := by
  unfold sendP
  rw [if_neg (by omega), if_neg (by omega), if_neg (by omega), show 93 + p - 93 = p by omega]
  by_cases e : snt A p = true
  · rw [if_pos ⟨by omega, by omega, e⟩, if_pos e]
  · rw [if_neg (fun x => e x.2.2), if_neg e, if_neg (fun x => by omega)]
theorem sendP_co {A : Row} {p : Nat} (hp : p < A 6) (h6 : A 6 ≤ 20) : sendP A (A 6) (113 + p) = if snt A p = true then (A (113 + p) + 1) % 4294967296 else A (113 + p) := by
  unfold sendP
  rw [if_neg (by omega), if_neg (by omega), if_neg (by omega), if_neg (fun x => by omega), show 113 + p - 113 = p by omega]
  by_cases e : snt A p = true
  · rw [if_pos ⟨by omega, by omega, e⟩, if_pos e]
  · rw [if_neg (fun x => e x.2.2), if_neg e]
theorem Sm.send {A : Row} (h : Sm A) : Sm (sendP A (A 6)) := fun k hk => by
  unfold sendP
  repeat' split
  all_goals first
    | omega
    | exact h _ (by omega)
    | exact h k hk
theorem LwT.send {A : Row} (h : LwT A) (h6 : A 6 ≤ 20) : LwT (sendP A (A 6)) := by
  obtain ⟨h1, h2, h3, h4, h5⟩ := h
  have k : ∀ {j}, ¬ (j = 9 ∨ j = 10 ∨ j = 11 ∨ (93 ≤ j ∧ j < 93 + A 6) ∨ (113 ≤ j ∧ j < 113 + A 6)) → sendP A (A 6) j = A j := fun h => sendP_k h6 h
  refine ⟨fun p hp i hi => ?_, fun w hw i hi => ?_, ?_, ?_, ?_⟩
  · rw [k (by omega)] at hp
    rw [k (by omega)] at hi
    rw [k (by omega), k (by omega)]
    exact h1 p hp i hi
  · rw [k (by omega)] at hw
    rw [k (by omega)] at hi
    rw [k (by omega), k (by omega)]
    exact h2 w hw i hi
  · rw [k (by omega)]; exact h3
  · rw [k (by omega)]; exact h4
  · rw [k (by omega)]; exact h5
section LO
variable {z : P0} {KL : Nat → Nat × Nat} {RL : Nat → Nat → Option Nat} {q : Nat → Nat} {b : Nat} {I : Nat → Nat → Int32} {L : Nat → Nat → Int64} {sz : Nat} {ex : Bool} {Q : Res → Mem → Prop} {A : Row}
variable {n m t g D : Nat} {H : Nat → Row} {B : List Nat}
set_option maxHeartbeats 4000000 in
/-- person by person -/
theorem t420 {sd c0 n0 : Nat} {x17 : Nat} {x14 x15 x16 x20 x21 x22 : Option Value} (hgd : Good A) (hlt : LwT A) (hc0 : c0 + 48 ≤ 2900) (hn0 : n0 + 288 ≤ 17500)
    (hQ : ∀ I1 q1 c n x19, c ≤ c0 + 48 → n ≤ n0 + 288 → TD KL RL z b I1 q1 A m H B → (∀ a, a < b → I1 a = I a) → X z 213 513 [some (.ref (ad b 0)), some (.int (nI (sd))), some (.ref (ad b 566)), some (.ref (ad b 567)), some (.ref (ad b 568)), some (.ref (ad b 569)), some (.ref (ad b 570)), some (.ref (ad b 571)), some (.ref (ad b 572)), some (.ref (ad b 573)), some (.ref (ad b 574)), some (.ref (ad b 575)), some (.ref (ad b 576)), some (.ref (ad b t)), x14, x15, x16, some (.int (nI (x17))), some (.int (nI (A 6))), x19, x20, x21, x22] [] (c, n) (KAt KL b, I1, RAt RL b (q1), L, sz, ex) Q) :
    ∀ d p I1 q1 c n x19, p + d = A 6 → c ≤ c0 + 4 * p → n ≤ n0 + 24 * p → TD KL RL z b I1 q1 A m H B → (∀ a, a < b → I1 a = I a) → X z 213 420 [some (.ref (ad b 0)), some (.int (nI (sd))), some (.ref (ad b 566)), some (.ref (ad b 567)), some (.ref (ad b 568)), some (.ref (ad b 569)), some (.ref (ad b 570)), some (.ref (ad b 571)), some (.ref (ad b 572)), some (.ref (ad b 573)), some (.ref (ad b 574)), some (.ref (ad b 575)), some (.ref (ad b 576)), some (.ref (ad b t)), x14, x15, x16, some (.int (nI (x17))), some (.int (nI (p))), x19, x20, x21, x22] [] (c, n) (KAt KL b, I1, RAt RL b (q1), L, sz, ex) Q := by
  have h6 := hgd.1.1
  have h12 := hlt.2.2.1
  have h24 := hlt.2.2.2.2
  intro d
  induction d with
  | zero =>
    intro p I1 q1 c n x19 h hc hn hT hlo
    obtain rfl : p = A 6 := by omega
    have m0 := hT.2.2.2.2.2.1.1.1.1
    rw [v213_420]
    simp (disch := omega) only [v213_422, v213_423, v213_424, v213_425, Nat.add_zero, n_cl, n_in_t, n_lt_t, n_lt_f, n_eq_t, n_eq_f, n_sub, nI_add, n_mul, n_01, ↓reduceIte, if_true, if_false, eq_self, true_or, or_true, and_self, and_true, true_and, Nat.reduceAdd, Nat.reduceMul, Nat.reduceLeDiff, Nat.zero_le, not_true_eq_false, not_false_eq_true, cat2_n, cat2_i, cat2_r, ws_0, ws_i, ws_r, ws_l, ws_d, aftr_n, aftr_s, bI_ok, bI_t, bI_f, up_s, up_n, n_bit, decide_true, decide_false, Bool.not_true, Bool.not_false, Bool.and_true, Bool.true_and, Bool.false_and, Bool.and_false, n_nlt0, n_neg_t, n_neg_f, k_0, k_566, k_567, k_568, k_569, k_570, k_571, k_572, k_573, k_574, k_575, k_576, m0]
    exact hQ I1 q1 c n x19 (by omega) (by omega) hT hlo
  | succ d ih =>
    intro p I1 q1 c n x19 h hc hn hT hlo
    have m0 := hT.2.2.2.2.2.1.1.1.1
    have rl := reas_le (A := A) (p := p) (d := A 8)
    -- the last two checks
    have l2 : ∀ I2 q2 c2 n2, c2 ≤ c + 2 → n2 ≤ n + 12 → TD KL RL z b I2 q2 A m H B → (∀ a, a < b → I2 a = I a) → X z 213 474 [some (.ref (ad b 0)), some (.int (nI (sd))), some (.ref (ad b 566)), some (.ref (ad b 567)), some (.ref (ad b 568)), some (.ref (ad b 569)), some (.ref (ad b 570)), some (.ref (ad b 571)), some (.ref (ad b 572)), some (.ref (ad b 573)), some (.ref (ad b 574)), some (.ref (ad b 575)), some (.ref (ad b 576)), some (.ref (ad b t)), x14, x15, x16, some (.int (nI (x17))), some (.int (nI (p))), some (.int (nI (reas A p (A 8)))), x20, x21, x22] [] (c2, n2) (KAt KL b, I2, RAt RL b (q2), L, sz, ex) Q := by
      intro I2 q2 c2 n2 hc2 hn2 T2 lo2
      simp (disch := omega) only [v213_474, v213_475, v213_477, u213_478, Nat.add_zero, n_cl, n_in_t, n_lt_t, n_lt_f, n_eq_t, n_eq_f, n_sub, nI_add, n_mul, n_01, ↓reduceIte, if_true, if_false, eq_self, true_or, or_true, and_self, and_true, true_and, Nat.reduceAdd, Nat.reduceMul, Nat.reduceLeDiff, Nat.zero_le, not_true_eq_false, not_false_eq_true, cat2_n, cat2_i, cat2_r, ws_0, ws_i, ws_r, ws_l, ws_d, aftr_n, aftr_s, bI_ok, bI_t, bI_f, up_s, up_n, n_bit, decide_true, decide_false, Bool.not_true, Bool.not_false, Bool.and_true, Bool.true_and, Bool.false_and, Bool.and_false, n_nlt0, n_neg_t, n_neg_f, k_0, k_566, k_567, k_568, k_569, k_570, k_571, k_572, k_573, k_574, k_575, k_576, leq_t]
      refine tPer (k := 5) (v := A (93 + p)) T2 (by omega) (by omega) rfl (fun I3 q3 T3 g3 => ?_)
      have mp3 := (T3.2.2.2.2.2.1.2.1 p (by omega)).2.2.2.2.1
      simp (disch := omega) only [v213_481, v213_483, v213_485, v213_486, v213_489, v213_490, v213_492, u213_494, Nat.add_zero, n_cl, n_in_t, n_lt_t, n_lt_f, n_eq_t, n_eq_f, n_sub, nI_add, n_mul, n_01, ↓reduceIte, if_true, if_false, eq_self, true_or, or_true, and_self, and_true, true_and, Nat.reduceAdd, Nat.reduceMul, Nat.reduceLeDiff, Nat.zero_le, not_true_eq_false, not_false_eq_true, cat2_n, cat2_i, cat2_r, ws_0, ws_i, ws_r, ws_l, ws_d, aftr_n, aftr_s, bI_ok, bI_t, bI_f, up_s, up_n, n_bit, decide_true, decide_false, Bool.not_true, Bool.not_false, Bool.and_true, Bool.true_and, Bool.false_and, Bool.and_false, n_nlt0, n_neg_t, n_neg_f, k_0, k_566, k_567, k_568, k_569, k_570, k_571, k_572, k_573, k_574, k_575, k_576, leq_t, mp3]
      refine tPer (k := 6) (v := A (113 + p)) T3 (by omega) (by omega) rfl (fun I4 q4 T4 g4 => ?_)
      have mp4 := (T4.2.2.2.2.2.1.2.1 p (by omega)).2.2.2.2.2.1
      simp (disch := omega) only [v213_497, v213_499, v213_501, v213_502, v213_505, v213_506, v213_507, v213_510, Nat.add_zero, n_cl, n_in_t, n_lt_t, n_lt_f, n_eq_t, n_eq_f, n_sub, nI_add, n_mul, n_01, ↓reduceIte, if_true, if_false, eq_self, true_or, or_true, and_self, and_true, true_and, Nat.reduceAdd, Nat.reduceMul, Nat.reduceLeDiff, Nat.zero_le, not_true_eq_false, not_false_eq_true, cat2_n, cat2_i, cat2_r, ws_0, ws_i, ws_r, ws_l, ws_d, aftr_n, aftr_s, bI_ok, bI_t, bI_f, up_s, up_n, n_bit, decide_true, decide_false, Bool.not_true, Bool.not_false, Bool.and_true, Bool.true_and, Bool.false_and, Bool.and_false, n_nlt0, n_neg_t, n_neg_f, k_0, k_566, k_567, k_568, k_569, k_570, k_571, k_572, k_573, k_574, k_575, k_576, mp4]
      exact ih (p + 1) I4 q4 _ _ _ (by omega) (by omega) (by omega) T4 (fun a ha => ((g4.1 a ha).trans (g3.1 a ha)).trans (lo2 a ha))
    rw [v213_420]
    simp (disch := omega) only [v213_422, v213_423, v213_424, v213_425, v213_428, v213_429, v213_431, v213_433, v213_435, v213_437, u213_439, v213_442, Nat.add_zero, n_cl, n_in_t, n_lt_t, n_lt_f, n_eq_t, n_eq_f, n_sub, nI_add, n_mul, n_01, ↓reduceIte, if_true, if_false, eq_self, true_or, or_true, and_self, and_true, true_and, Nat.reduceAdd, Nat.reduceMul, Nat.reduceLeDiff, Nat.zero_le, not_true_eq_false, not_false_eq_true, cat2_n, cat2_i, cat2_r, ws_0, ws_i, ws_r, ws_l, ws_d, aftr_n, aftr_s, bI_ok, bI_t, bI_f, up_s, up_n, n_bit, decide_true, decide_false, Bool.not_true, Bool.not_false, Bool.and_true, Bool.true_and, Bool.false_and, Bool.and_false, n_nlt0, n_neg_t, n_neg_f, k_0, k_566, k_567, k_568, k_569, k_570, k_571, k_572, k_573, k_574, k_575, k_576, leq_t, m0, c205 hT.2.2.2.2.2.1 hgd hT.2.2.1 h24 (show p < A 6 by omega)]
    by_cases e : reas A p (A 8) = 0
    · have f := l2 I1 q1 c n (by omega) (by omega) hT hlo
      rw [e] at f ⊢
      simp (disch := omega) only [v213_444, v213_446, Nat.add_zero, n_cl, n_in_t, n_lt_t, n_lt_f, n_eq_t, n_eq_f, n_sub, nI_add, n_mul, n_01, ↓reduceIte, if_true, if_false, eq_self, true_or, or_true, and_self, and_true, true_and, Nat.reduceAdd, Nat.reduceMul, Nat.reduceLeDiff, Nat.zero_le, not_true_eq_false, not_false_eq_true, cat2_n, cat2_i, cat2_r, ws_0, ws_i, ws_r, ws_l, ws_d, aftr_n, aftr_s, bI_ok, bI_t, bI_f, up_s, up_n, n_bit, decide_true, decide_false, Bool.not_true, Bool.not_false, Bool.and_true, Bool.true_and, Bool.false_and, Bool.and_false, n_nlt0, n_neg_t, n_neg_f, k_0, k_566, k_567, k_568, k_569, k_570, k_571, k_572, k_573, k_574, k_575, k_576]
      exact f
    · have r1 : perV A p 7 = 4294967295 := by
        show lof A p = _
        exact lof_0 e
      have r2 : perV A p 8 = reas A p (A 8) := by
        show rsn A p = _
        unfold rsn
        rw [if_neg e]
      simp (disch := omega) only [v213_444, v213_446, v213_449, v213_450, v213_452, u213_454, Nat.add_zero, n_cl, n_in_t, n_lt_t, n_lt_f, n_eq_t, n_eq_f, n_sub, nI_add, n_mul, n_01, ↓reduceIte, if_true, if_false, eq_self, true_or, or_true, and_self, and_true, true_and, Nat.reduceAdd, Nat.reduceMul, Nat.reduceLeDiff, Nat.zero_le, not_true_eq_false, not_false_eq_true, cat2_n, cat2_i, cat2_r, ws_0, ws_i, ws_r, ws_l, ws_d, aftr_n, aftr_s, bI_ok, bI_t, bI_f, up_s, up_n, n_bit, decide_true, decide_false, Bool.not_true, Bool.not_false, Bool.and_true, Bool.true_and, Bool.false_and, Bool.and_false, n_nlt0, n_neg_t, n_neg_f, k_0, k_566, k_567, k_568, k_569, k_570, k_571, k_572, k_573, k_574, k_575, k_576, leq_t]
      refine tPer (k := 7) hT (by omega) (by omega) r1 (fun I2 q2 T2 g2 => ?_)
      simp (disch := omega) only [v213_457, v213_458, v213_461, v213_462, v213_464, u213_466, Nat.add_zero, n_cl, n_in_t, n_lt_t, n_lt_f, n_eq_t, n_eq_f, n_sub, nI_add, n_mul, n_01, ↓reduceIte, if_true, if_false, eq_self, true_or, or_true, and_self, and_true, true_and, Nat.reduceAdd, Nat.reduceMul, Nat.reduceLeDiff, Nat.zero_le, not_true_eq_false, not_false_eq_true, cat2_n, cat2_i, cat2_r, ws_0, ws_i, ws_r, ws_l, ws_d, aftr_n, aftr_s, bI_ok, bI_t, bI_f, up_s, up_n, n_bit, decide_true, decide_false, Bool.not_true, Bool.not_false, Bool.and_true, Bool.true_and, Bool.false_and, Bool.and_false, n_nlt0, n_neg_t, n_neg_f, k_0, k_566, k_567, k_568, k_569, k_570, k_571, k_572, k_573, k_574, k_575, k_576, leq_t]
      refine tPer (k := 8) T2 (by omega) (by omega) r2 (fun I3 q3 T3 g3 => ?_)
      simp (disch := omega) only [v213_469, v213_471, Nat.add_zero, n_cl, n_in_t, n_lt_t, n_lt_f, n_eq_t, n_eq_f, n_sub, nI_add, n_mul, n_01, ↓reduceIte, if_true, if_false, eq_self, true_or, or_true, and_self, and_true, true_and, Nat.reduceAdd, Nat.reduceMul, Nat.reduceLeDiff, Nat.zero_le, not_true_eq_false, not_false_eq_true, cat2_n, cat2_i, cat2_r, ws_0, ws_i, ws_r, ws_l, ws_d, aftr_n, aftr_s, bI_ok, bI_t, bI_f, up_s, up_n, n_bit, decide_true, decide_false, Bool.not_true, Bool.not_false, Bool.and_true, Bool.true_and, Bool.false_and, Bool.and_false, n_nlt0, n_neg_t, n_neg_f, k_0, k_566, k_567, k_568, k_569, k_570, k_571, k_572, k_573, k_574, k_575, k_576]
      exact l2 I3 q3 _ _ (by omega) (by omega) T3 (fun a ha => ((g3.1 a ha).trans (g2.1 a ha)).trans (hlo a ha))
set_option maxHeartbeats 4000000 in
/-- the counts -/
theorem t513 {sd c0 n0 : Nat} {x17 x18 x19 x20 x21 x22 : Option Value} (hT : TD KL RL z b I q A m H B) (hc0 : c0 + 9 ≤ 2990) (hn0 : n0 + 54 ≤ 17900)
    (hQ : ∀ I1 q1 c n, c ≤ c0 + 9 → n ≤ n0 + 54 → TD KL RL z b I1 q1 A m H B → Ag pCls b I I1 → X z 213 625 [some (.ref (ad b 0)), some (.int (nI (sd))), some (.ref (ad b 566)), some (.ref (ad b 567)), some (.ref (ad b 568)), some (.ref (ad b 569)), some (.ref (ad b 570)), some (.ref (ad b 571)), some (.ref (ad b 572)), some (.ref (ad b 573)), some (.ref (ad b 574)), some (.ref (ad b 575)), some (.ref (ad b 576)), some (.ref (ad b t)), some (.int (nI (totS A 0))), some (.int (nI (totS A 1))), some (.int (nI (totS A 2))), x17, x18, x19, x20, x21, x22] [] (c, n) (KAt KL b, I1, RAt RL b (q1), L, sz, ex) Q) :
    X z 213 513 [some (.ref (ad b 0)), some (.int (nI (sd))), some (.ref (ad b 566)), some (.ref (ad b 567)), some (.ref (ad b 568)), some (.ref (ad b 569)), some (.ref (ad b 570)), some (.ref (ad b 571)), some (.ref (ad b 572)), some (.ref (ad b 573)), some (.ref (ad b 574)), some (.ref (ad b 575)), some (.ref (ad b 576)), some (.ref (ad b t)), some (.int (nI (totS A 0))), some (.int (nI (totS A 1))), some (.int (nI (totS A 2))), x17, x18, x19, x20, x21, x22] [] (c0, n0) (KAt KL b, I, RAt RL b q, L, sz, ex) Q := by
  have h5 := hT.2.1.1.2.1
  dsimp only at h5
  simp (disch := omega) only [v213_513, v213_514, u213_515, Nat.add_zero, n_cl, n_in_t, n_lt_t, n_lt_f, n_eq_t, n_eq_f, n_sub, nI_add, n_mul, n_01, ↓reduceIte, if_true, if_false, eq_self, true_or, or_true, and_self, and_true, true_and, Nat.reduceAdd, Nat.reduceMul, Nat.reduceLeDiff, Nat.zero_le, not_true_eq_false, not_false_eq_true, cat2_n, cat2_i, cat2_r, ws_0, ws_i, ws_r, ws_l, ws_d, aftr_n, aftr_s, bI_ok, bI_t, bI_f, up_s, up_n, n_bit, decide_true, decide_false, Bool.not_true, Bool.not_false, Bool.and_true, Bool.true_and, Bool.false_and, Bool.and_false, n_nlt0, n_neg_t, n_neg_f, k_0, k_566, k_567, k_568, k_569, k_570, k_571, k_572, k_573, k_574, k_575, k_576, leq_t]
  refine tCnt (k := 4) (v := (grps A).1) hT (by omega) rfl (fun I1 q1 T1 g1 => ?_)
  have k1 := T1.2.2.2.2.2.2.2.1
  simp (disch := omega) only [v213_518, v213_519, v213_521, v213_522, v213_525, v213_526, u213_527, Nat.add_zero, n_cl, n_in_t, n_lt_t, n_lt_f, n_eq_t, n_eq_f, n_sub, nI_add, n_mul, n_01, ↓reduceIte, if_true, if_false, eq_self, true_or, or_true, and_self, and_true, true_and, Nat.reduceAdd, Nat.reduceMul, Nat.reduceLeDiff, Nat.zero_le, not_true_eq_false, not_false_eq_true, cat2_n, cat2_i, cat2_r, ws_0, ws_i, ws_r, ws_l, ws_d, aftr_n, aftr_s, bI_ok, bI_t, bI_f, up_s, up_n, n_bit, decide_true, decide_false, Bool.not_true, Bool.not_false, Bool.and_true, Bool.true_and, Bool.false_and, Bool.and_false, n_nlt0, n_neg_t, n_neg_f, k_0, k_566, k_567, k_568, k_569, k_570, k_571, k_572, k_573, k_574, k_575, k_576, leq_t, k1]
  refine tCnt (k := 5) (v := totS A 0) T1 (by omega) rfl (fun I2 q2 T2 g2 => ?_)
  simp (disch := omega) only [v213_530, v213_532, v213_535, v213_536, u213_538, Nat.add_zero, n_cl, n_in_t, n_lt_t, n_lt_f, n_eq_t, n_eq_f, n_sub, nI_add, n_mul, n_01, ↓reduceIte, if_true, if_false, eq_self, true_or, or_true, and_self, and_true, true_and, Nat.reduceAdd, Nat.reduceMul, Nat.reduceLeDiff, Nat.zero_le, not_true_eq_false, not_false_eq_true, cat2_n, cat2_i, cat2_r, ws_0, ws_i, ws_r, ws_l, ws_d, aftr_n, aftr_s, bI_ok, bI_t, bI_f, up_s, up_n, n_bit, decide_true, decide_false, Bool.not_true, Bool.not_false, Bool.and_true, Bool.true_and, Bool.false_and, Bool.and_false, n_nlt0, n_neg_t, n_neg_f, k_0, k_566, k_567, k_568, k_569, k_570, k_571, k_572, k_573, k_574, k_575, k_576, leq_t]
  refine tCnt (k := 6) (v := totS A 1) T2 (by omega) rfl (fun I3 q3 T3 g3 => ?_)
  simp (disch := omega) only [v213_541, v213_543, v213_546, v213_547, u213_549, Nat.add_zero, n_cl, n_in_t, n_lt_t, n_lt_f, n_eq_t, n_eq_f, n_sub, nI_add, n_mul, n_01, ↓reduceIte, if_true, if_false, eq_self, true_or, or_true, and_self, and_true, true_and, Nat.reduceAdd, Nat.reduceMul, Nat.reduceLeDiff, Nat.zero_le, not_true_eq_false, not_false_eq_true, cat2_n, cat2_i, cat2_r, ws_0, ws_i, ws_r, ws_l, ws_d, aftr_n, aftr_s, bI_ok, bI_t, bI_f, up_s, up_n, n_bit, decide_true, decide_false, Bool.not_true, Bool.not_false, Bool.and_true, Bool.true_and, Bool.false_and, Bool.and_false, n_nlt0, n_neg_t, n_neg_f, k_0, k_566, k_567, k_568, k_569, k_570, k_571, k_572, k_573, k_574, k_575, k_576, leq_t]
  refine tCnt (k := 7) (v := totS A 2) T3 (by omega) rfl (fun I4 q4 T4 g4 => ?_)
  simp (disch := omega) only [v213_552, v213_554, v213_557, v213_558, u213_560, Nat.add_zero, n_cl, n_in_t, n_lt_t, n_lt_f, n_eq_t, n_eq_f, n_sub, nI_add, n_mul, n_01, ↓reduceIte, if_true, if_false, eq_self, true_or, or_true, and_self, and_true, true_and, Nat.reduceAdd, Nat.reduceMul, Nat.reduceLeDiff, Nat.zero_le, not_true_eq_false, not_false_eq_true, cat2_n, cat2_i, cat2_r, ws_0, ws_i, ws_r, ws_l, ws_d, aftr_n, aftr_s, bI_ok, bI_t, bI_f, up_s, up_n, n_bit, decide_true, decide_false, Bool.not_true, Bool.not_false, Bool.and_true, Bool.true_and, Bool.false_and, Bool.and_false, n_nlt0, n_neg_t, n_neg_f, k_0, k_566, k_567, k_568, k_569, k_570, k_571, k_572, k_573, k_574, k_575, k_576, leq_t]
  refine tCnt (k := 8) (v := totS A 2 * A 5) T4 (by omega) (show totS A 3 = _ from tot3) (fun I5 q5 T5 g5 => ?_)
  have k5 : I5 (ad b 566) 13 = nI (A 5) := T5.2.2.2.2.2.1.1.2 5 (by omega)
  simp (disch := omega) only [v213_563, v213_565, v213_566, v213_568, v213_569, v213_570, v213_573, v213_574, u213_576, Nat.add_zero, n_cl, n_in_t, n_lt_t, n_lt_f, n_eq_t, n_eq_f, n_sub, nI_add, n_mul, n_01, ↓reduceIte, if_true, if_false, eq_self, true_or, or_true, and_self, and_true, true_and, Nat.reduceAdd, Nat.reduceMul, Nat.reduceLeDiff, Nat.zero_le, not_true_eq_false, not_false_eq_true, cat2_n, cat2_i, cat2_r, ws_0, ws_i, ws_r, ws_l, ws_d, aftr_n, aftr_s, bI_ok, bI_t, bI_f, up_s, up_n, n_bit, decide_true, decide_false, Bool.not_true, Bool.not_false, Bool.and_true, Bool.true_and, Bool.false_and, Bool.and_false, n_nlt0, n_neg_t, n_neg_f, k_0, k_566, k_567, k_568, k_569, k_570, k_571, k_572, k_573, k_574, k_575, k_576, leq_t, k5]
  refine tCnt (k := 9) (v := A 9) T5 (by omega) rfl (fun I6 q6 T6 g6 => ?_)
  have k6 := T6.2.2.2.2.2.1.1.1.2.2.2.2.1
  simp (disch := omega) only [v213_579, v213_580, v213_581, v213_582, v213_585, v213_586, u213_588, Nat.add_zero, n_cl, n_in_t, n_lt_t, n_lt_f, n_eq_t, n_eq_f, n_sub, nI_add, n_mul, n_01, ↓reduceIte, if_true, if_false, eq_self, true_or, or_true, and_self, and_true, true_and, Nat.reduceAdd, Nat.reduceMul, Nat.reduceLeDiff, Nat.zero_le, not_true_eq_false, not_false_eq_true, cat2_n, cat2_i, cat2_r, ws_0, ws_i, ws_r, ws_l, ws_d, aftr_n, aftr_s, bI_ok, bI_t, bI_f, up_s, up_n, n_bit, decide_true, decide_false, Bool.not_true, Bool.not_false, Bool.and_true, Bool.true_and, Bool.false_and, Bool.and_false, n_nlt0, n_neg_t, n_neg_f, k_0, k_566, k_567, k_568, k_569, k_570, k_571, k_572, k_573, k_574, k_575, k_576, leq_t, k6]
  refine tCnt (k := 10) (v := A 10) T6 (by omega) rfl (fun I7 q7 T7 g7 => ?_)
  have k7 := T7.2.2.2.2.2.1.1.1.2.2.2.2.2.1
  simp (disch := omega) only [v213_591, v213_592, v213_593, v213_594, v213_597, v213_598, u213_600, Nat.add_zero, n_cl, n_in_t, n_lt_t, n_lt_f, n_eq_t, n_eq_f, n_sub, nI_add, n_mul, n_01, ↓reduceIte, if_true, if_false, eq_self, true_or, or_true, and_self, and_true, true_and, Nat.reduceAdd, Nat.reduceMul, Nat.reduceLeDiff, Nat.zero_le, not_true_eq_false, not_false_eq_true, cat2_n, cat2_i, cat2_r, ws_0, ws_i, ws_r, ws_l, ws_d, aftr_n, aftr_s, bI_ok, bI_t, bI_f, up_s, up_n, n_bit, decide_true, decide_false, Bool.not_true, Bool.not_false, Bool.and_true, Bool.true_and, Bool.false_and, Bool.and_false, n_nlt0, n_neg_t, n_neg_f, k_0, k_566, k_567, k_568, k_569, k_570, k_571, k_572, k_573, k_574, k_575, k_576, leq_t, k7]
  refine tCnt (k := 11) (v := A 11) T7 (by omega) rfl (fun I8 q8 T8 g8 => ?_)
  have k8 := T8.2.2.2.2.2.1.1.1.2.2.2.2.2.2.1
  simp (disch := omega) only [v213_603, v213_604, v213_606, v213_607, v213_610, v213_611, u213_613, Nat.add_zero, n_cl, n_in_t, n_lt_t, n_lt_f, n_eq_t, n_eq_f, n_sub, nI_add, n_mul, n_01, ↓reduceIte, if_true, if_false, eq_self, true_or, or_true, and_self, and_true, true_and, Nat.reduceAdd, Nat.reduceMul, Nat.reduceLeDiff, Nat.zero_le, not_true_eq_false, not_false_eq_true, cat2_n, cat2_i, cat2_r, ws_0, ws_i, ws_r, ws_l, ws_d, aftr_n, aftr_s, bI_ok, bI_t, bI_f, up_s, up_n, n_bit, decide_true, decide_false, Bool.not_true, Bool.not_false, Bool.and_true, Bool.true_and, Bool.false_and, Bool.and_false, n_nlt0, n_neg_t, n_neg_f, k_0, k_566, k_567, k_568, k_569, k_570, k_571, k_572, k_573, k_574, k_575, k_576, leq_t, k8]
  refine tCnt (k := 14) (v := m) T8 (by omega) rfl (fun I9 q9 T9 g9 => ?_)
  have k9 := T9.2.2.2.2.2.1.1.1.2.2.2.2.2.2.2
  simp (disch := omega) only [v213_616, v213_617, v213_619, v213_620, Nat.add_zero, n_cl, n_in_t, n_lt_t, n_lt_f, n_eq_t, n_eq_f, n_sub, nI_add, n_mul, n_01, ↓reduceIte, if_true, if_false, eq_self, true_or, or_true, and_self, and_true, true_and, Nat.reduceAdd, Nat.reduceMul, Nat.reduceLeDiff, Nat.zero_le, not_true_eq_false, not_false_eq_true, cat2_n, cat2_i, cat2_r, ws_0, ws_i, ws_r, ws_l, ws_d, aftr_n, aftr_s, bI_ok, bI_t, bI_f, up_s, up_n, n_bit, decide_true, decide_false, Bool.not_true, Bool.not_false, Bool.and_true, Bool.true_and, Bool.false_and, Bool.and_false, n_nlt0, n_neg_t, n_neg_f, k_0, k_566, k_567, k_568, k_569, k_570, k_571, k_572, k_573, k_574, k_575, k_576, k9]
  exact hQ I9 q9 _ _ (by omega) (by omega) T9 ((((((((g1.tr g2).tr g3).tr g4).tr g5).tr g6).tr g7).tr g8).tr g9)
def pSd (o _j : Nat) : Prop := o = 571 ∨ o = 572
/-- the persons of the letters that go -/
theorem t645 {sd cc cn : Nat} {x14 x15 x16 x19 x20 x21 x22 : Option Value} (hgd : Good A) (hl : Lw b I A m)
    (hQ : ∀ I1, (∀ k, k < A 6 → I1 (ad b 571) k = nI (sendP A (A 6) (93 + k)) ∧ I1 (ad b 572) k = nI (sendP A (A 6) (113 + k))) → Ag pSd b I I1 → X z 213 687 [some (.ref (ad b 0)), some (.int (nI (sd))), some (.ref (ad b 566)), some (.ref (ad b 567)), some (.ref (ad b 568)), some (.ref (ad b 569)), some (.ref (ad b 570)), some (.ref (ad b 571)), some (.ref (ad b 572)), some (.ref (ad b 573)), some (.ref (ad b 574)), some (.ref (ad b 575)), some (.ref (ad b 576)), some (.ref (ad b t)), x14, x15, x16, some (.int (nI (goM A (grps A).1))), some (.int (nI (A 6))), x19, x20, x21, x22] [] (cc, cn) (KAt KL b, I1, RAt RL b q, L, sz, ex) Q) :
    ∀ d p I1, p + d = A 6 → (∀ k, k < p → I1 (ad b 571) k = nI (sendP A (A 6) (93 + k)) ∧ I1 (ad b 572) k = nI (sendP A (A 6) (113 + k))) → (∀ k, p ≤ k → I1 (ad b 571) k = I (ad b 571) k ∧ I1 (ad b 572) k = I (ad b 572) k) → Ag pSd b I I1 → X z 213 645 [some (.ref (ad b 0)), some (.int (nI (sd))), some (.ref (ad b 566)), some (.ref (ad b 567)), some (.ref (ad b 568)), some (.ref (ad b 569)), some (.ref (ad b 570)), some (.ref (ad b 571)), some (.ref (ad b 572)), some (.ref (ad b 573)), some (.ref (ad b 574)), some (.ref (ad b 575)), some (.ref (ad b 576)), some (.ref (ad b t)), x14, x15, x16, some (.int (nI (goM A (grps A).1))), some (.int (nI (p))), x19, x20, x21, x22] [] (cc, cn) (KAt KL b, I1, RAt RL b q, L, sz, ex) Q := by
  have h6 := hgd.1.1
  have gm := goM_lt hgd (grps A).1 (Nat.le_refl _)
  intro d
  induction d with
  | zero =>
    intro p I1 h h1 h2 ga
    obtain rfl : p = A 6 := by omega
    have m0 : I1 (ad b 566) 0 = nI (A 6) := (ga.at (fun x => by unfold pSd at x; omega)).trans hl.1.1.1
    rw [v213_645]
    simp (disch := omega) only [v213_647, v213_648, v213_649, v213_650, Nat.add_zero, n_cl, n_in_t, n_lt_t, n_lt_f, n_eq_t, n_eq_f, n_sub, nI_add, n_mul, n_01, ↓reduceIte, if_true, if_false, eq_self, true_or, or_true, and_self, and_true, true_and, Nat.reduceAdd, Nat.reduceMul, Nat.reduceLeDiff, Nat.zero_le, not_true_eq_false, not_false_eq_true, cat2_n, cat2_i, cat2_r, ws_0, ws_i, ws_r, ws_l, ws_d, aftr_n, aftr_s, bI_ok, bI_t, bI_f, up_s, up_n, n_bit, decide_true, decide_false, Bool.not_true, Bool.not_false, Bool.and_true, Bool.true_and, Bool.false_and, Bool.and_false, n_nlt0, n_neg_t, n_neg_f, k_0, k_566, k_567, k_568, k_569, k_570, k_571, k_572, k_573, k_574, k_575, k_576, m0]
    exact hQ I1 h1 ga
  | succ d ih =>
    intro p I1 h h1 h2 ga
    have m0 : I1 (ad b 566) 0 = nI (A 6) := (ga.at (fun x => by unfold pSd at x; omega)).trans hl.1.1.1
    have m3 : I1 (ad b 566) 3 = nI (A 8) := (ga.at (fun x => by unfold pSd at x; omega)).trans hl.1.1.2.2.2.1
    have lp := hl.2.1 p (by omega)
    have mc : I1 (ad b 572) p = nI (A (113 + p)) := (h2 p (Nat.le_refl _)).2.trans lp.2.2.2.2.2.1
    have ml : I1 (ad b 571) p = nI (A (93 + p)) := (h2 p (Nat.le_refl _)).1.trans lp.2.2.2.2.1
    have tb := goM_snt hgd (show p < A 6 by omega)
    have s1 := sendP_la (A := A) (p := p) (by omega) h6
    have s2 := sendP_co (A := A) (p := p) (by omega) h6
    rw [v213_645]
    cases hs : snt A p with
    | true =>
      rw [hs] at tb
      rw [hs, if_pos rfl] at s1 s2
      simp (disch := omega) only [v213_647, v213_648, v213_649, v213_650, v213_653, v213_655, v213_657, v213_658, v213_659, v213_660, v213_661, v213_664, v213_666, v213_668, v213_669, v213_670, v213_671, v213_672, v213_674, v213_676, v213_677, v213_678, v213_679, v213_680, v213_681, v213_684, Nat.add_zero, n_cl, n_in_t, n_lt_t, n_lt_f, n_eq_t, n_eq_f, n_sub, nI_add, n_mul, n_01, ↓reduceIte, if_true, if_false, eq_self, true_or, or_true, and_self, and_true, true_and, Nat.reduceAdd, Nat.reduceMul, Nat.reduceLeDiff, Nat.zero_le, not_true_eq_false, not_false_eq_true, cat2_n, cat2_i, cat2_r, ws_0, ws_i, ws_r, ws_l, ws_d, aftr_n, aftr_s, bI_ok, bI_t, bI_f, up_s, up_n, n_bit, decide_true, decide_false, Bool.not_true, Bool.not_false, Bool.and_true, Bool.true_and, Bool.false_and, Bool.and_false, n_nlt0, n_neg_t, n_neg_f, k_0, k_566, k_567, k_568, k_569, k_570, k_571, k_572, k_573, k_574, k_575, k_576, m0, m3, mc, tb]
      refine ih (p + 1) _ (by omega) (fun k hk => ?_) (fun k hk => ?_) ((ga.up (Or.inl rfl)).up (Or.inr rfl))
      · by_cases e : k = p
        · subst e
          refine ⟨?_, ?_⟩
          · rw [up_n (by omega), up_s, s1]
          · rw [up_s, s2, n_m32]
        · refine ⟨?_, ?_⟩
          · rw [up_n (by omega), up_n (by omega)]; exact (h1 k (by omega)).1
          · rw [up_n (by omega), up_n (by omega)]; exact (h1 k (by omega)).2
      · refine ⟨?_, ?_⟩
        · rw [up_n (by omega), up_n (by omega)]; exact (h2 k (by omega)).1
        · rw [up_n (by omega), up_n (by omega)]; exact (h2 k (by omega)).2
    | false =>
      rw [hs] at tb
      rw [hs, if_neg (by decide)] at s1 s2
      simp (disch := omega) only [v213_647, v213_648, v213_649, v213_650, v213_653, v213_655, v213_657, v213_658, v213_659, v213_660, v213_661, v213_664, v213_666, v213_668, v213_669, v213_670, v213_671, v213_672, v213_674, v213_676, v213_677, v213_678, v213_679, v213_680, v213_681, v213_684, Nat.add_zero, n_cl, n_in_t, n_lt_t, n_lt_f, n_eq_t, n_eq_f, n_sub, nI_add, n_mul, n_01, ↓reduceIte, if_true, if_false, eq_self, true_or, or_true, and_self, and_true, true_and, Nat.reduceAdd, Nat.reduceMul, Nat.reduceLeDiff, Nat.zero_le, not_true_eq_false, not_false_eq_true, cat2_n, cat2_i, cat2_r, ws_0, ws_i, ws_r, ws_l, ws_d, aftr_n, aftr_s, bI_ok, bI_t, bI_f, up_s, up_n, n_bit, decide_true, decide_false, Bool.not_true, Bool.not_false, Bool.and_true, Bool.true_and, Bool.false_and, Bool.and_false, n_nlt0, n_neg_t, n_neg_f, k_0, k_566, k_567, k_568, k_569, k_570, k_571, k_572, k_573, k_574, k_575, k_576, m0, tb]
      refine ih (p + 1) _ (by omega) (fun k hk => ?_) (fun k hk => h2 k (by omega)) ga
      by_cases e : k = p
      · subst e
        exact ⟨ml.trans (by rw [s1]), mc.trans (by rw [s2])⟩
      · exact h1 k (by omega)
/-- the law's rows behind the sending -/
theorem Lw.send {I1 : Nat → Nat → Int32} (hgd : Good A) (hl : Lw b I A m) (hg : Ag pSd b I I1) (h1 : ∀ k, k < A 6 → I1 (ad b 571) k = nI (sendP A (A 6) (93 + k)) ∧ I1 (ad b 572) k = nI (sendP A (A 6) (113 + k))) {k : Nat} : Lw b (up2 (up2 (up2 (up2 I1 (ad b 566) 4 (nI (A 9 + totS A 0))) (ad b 566) 5 (nI (A 10 + totS A 2))) (ad b 566) 6 (nI (A 11 + totS A 2 * A 5))) (ad b 566) 7 (nI k)) (sendP A (A 6)) k := by
  have h6 := hgd.1.1
  have h7 := hgd.1.2.1
  obtain ⟨⟨⟨a0, a1, a2, a3, a4, a5, a6, a7⟩, a8⟩, b1, b2, b3⟩ := hl
  have sk : ∀ {j}, ¬ (j = 9 ∨ j = 10 ∨ j = 11 ∨ (93 ≤ j ∧ j < 93 + A 6) ∨ (113 ≤ j ∧ j < 113 + A 6)) → sendP A (A 6) j = A j := fun h => sendP_k h6 h
  have kp : ∀ {o j}, ¬ (o = 566 ∧ 4 ≤ j ∧ j ≤ 7) → o ≠ 571 → o ≠ 572 → up2 (up2 (up2 (up2 I1 (ad b 566) 4 (nI (A 9 + totS A 0))) (ad b 566) 5 (nI (A 10 + totS A 2))) (ad b 566) 6 (nI (A 11 + totS A 2 * A 5))) (ad b 566) 7 (nI k) (ad b o) j = I (ad b o) j := fun h2 h3 h4 => by
    rw [up_n (by omega), up_n (by omega), up_n (by omega), up_n (by omega)]
    exact hg.at (fun x => by unfold pSd at x; omega)
  have kq : ∀ {o j}, o ≠ 566 → up2 (up2 (up2 (up2 I1 (ad b 566) 4 (nI (A 9 + totS A 0))) (ad b 566) 5 (nI (A 10 + totS A 2))) (ad b 566) 6 (nI (A 11 + totS A 2 * A 5))) (ad b 566) 7 (nI k) (ad b o) j = I1 (ad b o) j := fun h2 => by
    rw [up_n (by omega), up_n (by omega), up_n (by omega), up_n (by omega)]
  have s9 : sendP A (A 6) 9 = (A 9 + totS A 0) % 4294967296 := by unfold sendP; rw [if_pos rfl]
  have s10 : sendP A (A 6) 10 = (A 10 + totS A 2) % 4294967296 := by unfold sendP; rw [if_neg (by omega), if_pos rfl]
  have s11 : sendP A (A 6) 11 = (A 11 + totS A 3) % 4294967296 := by unfold sendP; rw [if_neg (by omega), if_neg (by omega), if_pos rfl]
  refine ⟨⟨⟨?_, ?_, ?_, ?_, ?_, ?_, ?_, ?_⟩, fun i hi => ?_⟩, fun p hp => ?_, fun w hw => ?_, fun i hi => ?_⟩
  · rw [kp (by omega) (by omega) (by omega), sk (by omega)]; exact a0
  · rw [kp (by omega) (by omega) (by omega), sk (by omega)]; exact a1
  · rw [kp (by omega) (by omega) (by omega), sk (by omega)]; exact a2
  · rw [kp (by omega) (by omega) (by omega), sk (by omega)]; exact a3
  · rw [up_n (by omega), up_n (by omega), up_n (by omega), up_s, s9, n_m32]
  · rw [up_n (by omega), up_n (by omega), up_s, s10, n_m32]
  · rw [up_n (by omega), up_s, s11, n_m32, tot3]
  · rw [up_s]
  · rw [kp (by omega) (by omega) (by omega), sk (by omega)]; exact a8 i hi
  · rw [sk (by omega)] at hp
    obtain ⟨c1, c2, c3, c4, c5, c6, c7⟩ := b1 p hp
    refine ⟨?_, ?_, ?_, ?_, ?_, ?_, ?_⟩
    · rw [kp (by omega) (by omega) (by omega), sk (by omega)]; exact c1
    · rw [kp (by omega) (by omega) (by omega), sk (by omega)]; exact c2
    · rw [kp (by omega) (by omega) (by omega), sk (by omega)]; exact c3
    · rw [kp (by omega) (by omega) (by omega), sk (by omega)]; exact c4
    · rw [kq (by omega)]; exact (h1 p hp).1
    · rw [kq (by omega)]; exact (h1 p hp).2
    · rw [kp (by omega) (by omega) (by omega), sk (by omega)]; exact c7
  · rw [sk (by omega)] at hw
    rw [kp (by omega) (by omega) (by omega), sk (by omega), sk (by omega)]
    exact b2 w hw
  · rw [sk (by omega)] at hi
    rw [kp (by omega) (by omega) (by omega), sk (by omega)]
    exact b3 i hi
set_option maxHeartbeats 4000000 in
/-- the sending -/
theorem t642 {sd c0 n0 : Nat} {x15 x18 x19 x20 x21 x22 : Option Value} (hT : TD KL RL z b I q A m H B) (hD : A 8 ≤ D) (hc0 : c0 + 1 ≤ 3000) (hn0 : n0 + 6 ≤ 18000) (h12 : A 12 ≠ 0) (hs : totS A 0 ≠ 0) {x17 : Nat} (hx17 : x17 = goM A (grps A).1)
    (hQ : ∀ I1 q1 w', WL KL RL z b I1 q1 w' w'.2.1 D → (∀ a, a < b → I1 a = I a) → Q (.inl (some (.int (nI 1)))) (KAt KL b, I1, RAt RL b (q1), L, sz, ex)) :
    X z 213 642 [some (.ref (ad b 0)), some (.int (nI (sd))), some (.ref (ad b 566)), some (.ref (ad b 567)), some (.ref (ad b 568)), some (.ref (ad b 569)), some (.ref (ad b 570)), some (.ref (ad b 571)), some (.ref (ad b 572)), some (.ref (ad b 573)), some (.ref (ad b 574)), some (.ref (ad b 575)), some (.ref (ad b 576)), some (.ref (ad b t)), some (.int (nI (totS A 0))), x15, some (.int (nI (totS A 2))), some (.int (nI (x17))), x18, x19, x20, x21, x22] [] (c0, n0) (KAt KL b, I, RAt RL b q, L, sz, ex) Q := by
  subst hx17
  obtain ⟨hw, hg, hm, hz, hv, hl, hlt, gl⟩ := hT
  have hgd := hg.1
  dsimp only at hgd
  have h6 := hgd.1.1
  have m6 : m ≤ 6 := hw.2.2.1.1.2
  simp (disch := omega) only [v213_642, v213_643, Nat.add_zero, n_cl, n_in_t, n_lt_t, n_lt_f, n_eq_t, n_eq_f, n_sub, nI_add, n_mul, n_01, ↓reduceIte, if_true, if_false, eq_self, true_or, or_true, and_self, and_true, true_and, Nat.reduceAdd, Nat.reduceMul, Nat.reduceLeDiff, Nat.zero_le, not_true_eq_false, not_false_eq_true, cat2_n, cat2_i, cat2_r, ws_0, ws_i, ws_r, ws_l, ws_d, aftr_n, aftr_s, bI_ok, bI_t, bI_f, up_s, up_n, n_bit, decide_true, decide_false, Bool.not_true, Bool.not_false, Bool.and_true, Bool.true_and, Bool.false_and, Bool.and_false, n_nlt0, n_neg_t, n_neg_f, k_0, k_566, k_567, k_568, k_569, k_570, k_571, k_572, k_573, k_574, k_575, k_576]
  refine t645 hgd hl (fun I1 h1 g1 => ?_) (A 6) 0 I (by omega) (fun k hk => absurd hk (Nat.not_lt_zero _)) (fun k _ => ⟨rfl, rfl⟩) Ag.rf
  have kp : ∀ {o j}, o ≠ 571 → o ≠ 572 → I1 (ad b o) j = I (ad b o) j := fun h2 h3 => g1.at (fun x => by unfold pSd at x; omega)
  obtain ⟨⟨a0, a1, a2, a3, a4, a5, a6, a7⟩, a8⟩ := hl.1
  have e4 : I1 (ad b 566) 4 = nI (A 9) := (kp (by omega) (by omega)).trans a4
  have e5 : I1 (ad b 566) 5 = nI (A 10) := (kp (by omega) (by omega)).trans a5
  have e6 : I1 (ad b 566) 6 = nI (A 11) := (kp (by omega) (by omega)).trans a6
  have e7 : I1 (ad b 566) 7 = nI m := (kp (by omega) (by omega)).trans a7
  have e13 : I1 (ad b 566) 13 = nI (A 5) := (kp (by omega) (by omega)).trans (a8 5 (by omega))
  have op : opSend (A, m, H, B) = (0, totS A 0, sv (A, m, H, B) (sendP A (A 6))) := by unfold opSend; rw [if_neg (fun x => x.elim h12 hs)]
  have kg : GoodW (sv (A, m, H, B) (sendP A (A 6))) := by
    have := k_Send hg
    rwa [op] at this
  -- the call itself, over any memory that has the law's new rows
  have fin : ∀ I2, Ag pN b I1 I2 → Lw b I2 (sendP A (A 6)) (svN m) → Ag pW b I I2 → X z 65 0 [some (.ref (ad b 0)), none] [] (0, 0) (KAt KL b, I2, RAt RL b q, L, sz, ex) (aftr (X z) mT 213 735 [some (.ref (ad b 0)), some (.int (nI (sd))), some (.ref (ad b 566)), some (.ref (ad b 567)), some (.ref (ad b 568)), some (.ref (ad b 569)), some (.ref (ad b 570)), some (.ref (ad b 571)), some (.ref (ad b 572)), some (.ref (ad b 573)), some (.ref (ad b 574)), some (.ref (ad b 575)), some (.ref (ad b 576)), some (.ref (ad b t)), some (.int (nI (totS A 0))), x15, some (.int (nI (totS A 2))), some (.int (nI (goM A (grps A).1))), some (.int (nI (A 6))), x19, x20, x21, x22] [] (c0 + 1, n0 + 6) Q) := by
    intro I2 g2 l2 gW
    have gS : Ag pN b I I2 := (g1.mn (fun o j x => by unfold pSd at x; unfold pN; omega)).tr g2
    refine c65 (hw.scr hg gS (fun o j h => by unfold pN at h; omega)) hg hm (hz.ag gS) (CQ_ok op (fun I3 q3 w3 g3 => ?_))
    simp (disch := omega) only [v213_738, v213_740, v213_743, v213_744, v213_747, v213_748, Nat.add_zero, n_cl, n_in_t, n_lt_t, n_lt_f, n_eq_t, n_eq_f, n_sub, nI_add, n_mul, n_01, ↓reduceIte, if_true, if_false, eq_self, true_or, or_true, and_self, and_true, true_and, Nat.reduceAdd, Nat.reduceMul, Nat.reduceLeDiff, Nat.zero_le, not_true_eq_false, not_false_eq_true, cat2_n, cat2_i, cat2_r, ws_0, ws_i, ws_r, ws_l, ws_d, aftr_n, aftr_s, bI_ok, bI_t, bI_f, up_s, up_n, n_bit, decide_true, decide_false, Bool.not_true, Bool.not_false, Bool.and_true, Bool.true_and, Bool.false_and, Bool.and_false, n_nlt0, n_neg_t, n_neg_f, k_0, k_566, k_567, k_568, k_569, k_570, k_571, k_572, k_573, k_574, k_575, k_576]
    refine hQ I3 q3 (sv (A, m, H, B) (sendP A (A 6))) ⟨w3, kg, hm.send, (hz.ag gS).ag g3, (hv.ag gS).ag g3, l2.ag g3 pLw_c, hlt.send h6, ?_⟩ (fun a ha => (g3.1 a ha).trans (gW.1 a ha))
    show sendP A (A 6) 8 ≤ D
    rw [sendP_k h6 (by omega)]
    exact hD
  have gW0 : Ag pW b I I1 := g1.mn (fun o j x => by unfold pSd at x; unfold pW; omega)
  by_cases e : m < 6
  · have sm : svN m = m + 1 := by unfold svN; rw [if_neg (by omega)]
    have f := fin _ ((((Ag.rf.up (P := pN) (o := 566) (j := 4) (by unfold pN; omega)).up (o := 566) (j := 5) (by unfold pN; omega)).up (o := 566) (j := 6) (by unfold pN; omega)).up (o := 566) (j := 7) (by unfold pN; omega)) (hl.send hgd g1 h1) ((((gW0.up (by unfold pW; omega)).up (by unfold pW; omega)).up (by unfold pW; omega)).up (by unfold pW; omega))
    rw [sm] at f
    simp (disch := omega) only [v213_687, v213_688, v213_689, v213_690, v213_691, v213_693, v213_694, v213_695, v213_696, v213_697, v213_698, v213_699, v213_701, v213_702, v213_703, v213_704, v213_706, v213_707, v213_708, v213_710, v213_711, v213_713, v213_714, v213_715, v213_716, v213_717, v213_718, v213_720, v213_721, v213_723, v213_726, v213_727, v213_729, v213_730, v213_731, v213_732, v213_733, v213_734, u213_735, Nat.add_zero, n_cl, n_in_t, n_lt_t, n_lt_f, n_eq_t, n_eq_f, n_sub, nI_add, n_mul, n_01, ↓reduceIte, if_true, if_false, eq_self, true_or, or_true, and_self, and_true, true_and, Nat.reduceAdd, Nat.reduceMul, Nat.reduceLeDiff, Nat.zero_le, not_true_eq_false, not_false_eq_true, cat2_n, cat2_i, cat2_r, ws_0, ws_i, ws_r, ws_l, ws_d, aftr_n, aftr_s, bI_ok, bI_t, bI_f, up_s, up_n, n_bit, decide_true, decide_false, Bool.not_true, Bool.not_false, Bool.and_true, Bool.true_and, Bool.false_and, Bool.and_false, n_nlt0, n_neg_t, n_neg_f, k_0, k_566, k_567, k_568, k_569, k_570, k_571, k_572, k_573, k_574, k_575, k_576, leq_t, e4, e5, e6, e7, e13]
    exact f
  · have sm : svN m = 6 := by unfold svN; rw [if_pos (by omega)]
    have em : m = 6 := by omega
    have gN3 : Ag pN b I1 (up2 (up2 (up2 I1 (ad b 566) 4 (nI (A 9 + totS A 0))) (ad b 566) 5 (nI (A 10 + totS A 2))) (ad b 566) 6 (nI (A 11 + totS A 2 * A 5))) := ((Ag.rf.up (P := pN) (by unfold pN; omega)).up (by unfold pN; omega)).up (by unfold pN; omega)
    have gW3 : Ag pW b I (up2 (up2 (up2 I1 (ad b 566) 4 (nI (A 9 + totS A 0))) (ad b 566) 5 (nI (A 10 + totS A 2))) (ad b 566) 6 (nI (A 11 + totS A 2 * A 5))) := ((gW0.up (by unfold pW; omega)).up (by unfold pW; omega)).up (by unfold pW; omega)
    have same : up2 (up2 (up2 (up2 I1 (ad b 566) 4 (nI (A 9 + totS A 0))) (ad b 566) 5 (nI (A 10 + totS A 2))) (ad b 566) 6 (nI (A 11 + totS A 2 * A 5))) (ad b 566) 7 (nI 6) = up2 (up2 (up2 I1 (ad b 566) 4 (nI (A 9 + totS A 0))) (ad b 566) 5 (nI (A 10 + totS A 2))) (ad b 566) 6 (nI (A 11 + totS A 2 * A 5)) := by
      funext a j
      unfold up2
      by_cases ea : a = ad b 566 ∧ j = 7
      · obtain ⟨rfl, rfl⟩ := ea
        rw [if_pos ⟨rfl, rfl⟩, if_neg (fun x => by omega), if_neg (fun x => by omega), if_neg (fun x => by omega), e7, em]
      · rw [if_neg ea]
    have l6 := hl.send (k := 6) hgd g1 h1
    rw [same] at l6
    have f := fin _ gN3 (by rw [sm]; exact l6) gW3
    simp (disch := omega) only [v213_687, v213_688, v213_689, v213_690, v213_691, v213_693, v213_694, v213_695, v213_696, v213_697, v213_698, v213_699, v213_701, v213_702, v213_703, v213_704, v213_706, v213_707, v213_708, v213_710, v213_711, v213_713, v213_714, v213_715, v213_716, v213_717, v213_718, v213_720, v213_721, v213_723, v213_726, v213_727, v213_729, v213_730, v213_731, v213_732, v213_733, v213_734, u213_735, Nat.add_zero, n_cl, n_in_t, n_lt_t, n_lt_f, n_eq_t, n_eq_f, n_sub, nI_add, n_mul, n_01, ↓reduceIte, if_true, if_false, eq_self, true_or, or_true, and_self, and_true, true_and, Nat.reduceAdd, Nat.reduceMul, Nat.reduceLeDiff, Nat.zero_le, not_true_eq_false, not_false_eq_true, cat2_n, cat2_i, cat2_r, ws_0, ws_i, ws_r, ws_l, ws_d, aftr_n, aftr_s, bI_ok, bI_t, bI_f, up_s, up_n, n_bit, decide_true, decide_false, Bool.not_true, Bool.not_false, Bool.and_true, Bool.true_and, Bool.false_and, Bool.and_false, n_nlt0, n_neg_t, n_neg_f, k_0, k_566, k_567, k_568, k_569, k_570, k_571, k_572, k_573, k_574, k_575, k_576, leq_t, e4, e5, e6, e7, e13]
    exact f
end LO
