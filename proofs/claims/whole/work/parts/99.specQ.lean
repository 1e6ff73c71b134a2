/-! THE REFERENCE: sending -/
def snt (A : Row) (p : Nat) : Bool := decide (reas A p (A 8) = 0) && sentB A ((grps A).2 (lof A p))
def sendP (A : Row) (p : Nat) : Row := fun k => if k = 9 then (A 9 + totS A 0) % 4294967296 else if k = 10 then (A 10 + totS A 2) % 4294967296 else if k = 11 then (A 11 + totS A 3) % 4294967296 else if 93 ≤ k ∧ k < 93 + p ∧ snt A (k - 93) = true then A 8 else if 113 ≤ k ∧ k < 113 + p ∧ snt A (k - 113) = true then (A k + 1) % 4294967296 else A k
def opSend (w : Wd) : Ans := if w.1 12 = 0 ∨ totS w.1 0 = 0 then (1, 0, w) else (0, totS w.1 0, sv w (sendP w.1 (w.1 6)))
theorem sendP_0 {A : Row} : sendP A 0 = upr (upr (upr A 9 ((A 9 + totS A 0) % 4294967296)) 10 ((A 10 + totS A 2) % 4294967296)) 11 ((A 11 + totS A 3) % 4294967296) := by
  funext k
  unfold sendP upr
  by_cases h9 : k = 9
  · rw [if_pos h9, if_neg (by omega), if_neg (by omega), if_pos h9]
  · rw [if_neg h9]
    by_cases h10 : k = 10
    · rw [if_pos h10, if_neg (by omega), if_pos h10]
    · rw [if_neg h10]
      by_cases h11 : k = 11
      · rw [if_pos h11, if_pos h11]
      · rw [if_neg h11, if_neg h11, if_neg h10, if_neg h9, if_neg (fun x => by omega), if_neg (fun x => by omega)]
theorem sendP_t {A : Row} {p : Nat} (hp : p < 20) (h : snt A p = true) : sendP A (p + 1) = upr (upr (sendP A p) (93 + p) (A 8)) (113 + p) ((A (113 + p) + 1) % 4294967296) := by
  funext k
  unfold upr
  by_cases h1 : k = 113 + p
  · rw [if_pos h1, h1]
    unfold sendP
    rw [if_neg (by omega), if_neg (by omega), if_neg (by omega), if_neg (fun x => by omega), if_pos ⟨by omega, by omega, by rw [show 113 + p - 113 = p by omega]; exact h⟩]
  · rw [if_neg h1]
    by_cases h2 : k = 93 + p
    · rw [if_pos h2, h2]
      unfold sendP
      rw [if_neg (by omega), if_neg (by omega), if_neg (by omega), if_pos ⟨by omega, by omega, by rw [show 93 + p - 93 = p by omega]; exact h⟩]
    · rw [if_neg h2]
      unfold sendP
      have e1 : (93 ≤ k ∧ k < 93 + (p + 1) ∧ snt A (k - 93) = true) = (93 ≤ k ∧ k < 93 + p ∧ snt A (k - 93) = true) := propext ⟨fun x => ⟨x.1, by omega, x.2.2⟩, fun x => ⟨x.1, by omega, x.2.2⟩⟩
      have e2 : (113 ≤ k ∧ k < 113 + (p + 1) ∧ snt A (k - 113) = true) = (113 ≤ k ∧ k < 113 + p ∧ snt A (k - 113) = true) := propext ⟨fun x => ⟨x.1, by omega, x.2.2⟩, fun x => ⟨x.1, by omega, x.2.2⟩⟩
      simp only [e1, e2]
theorem sendP_f {A : Row} {p : Nat} (h : snt A p = false) : sendP A (p + 1) = sendP A p := by
  funext k
  unfold sendP
  have e1 : (93 ≤ k ∧ k < 93 + (p + 1) ∧ snt A (k - 93) = true) = (93 ≤ k ∧ k < 93 + p ∧ snt A (k - 93) = true) := propext ⟨fun x => ⟨x.1, (show k < 93 + p ∨ k - 93 = p by omega).elim id (fun e => by rw [e, h] at x; exact absurd x.2.2 (by decide)), x.2.2⟩, fun x => ⟨x.1, by omega, x.2.2⟩⟩
  have e2 : (113 ≤ k ∧ k < 113 + (p + 1) ∧ snt A (k - 113) = true) = (113 ≤ k ∧ k < 113 + p ∧ snt A (k - 113) = true) := propext ⟨fun x => ⟨x.1, (show k < 113 + p ∨ k - 113 = p by omega).elim id (fun e => by rw [e, h] at x; exact absurd x.2.2 (by decide)), x.2.2⟩, fun x => ⟨x.1, by omega, x.2.2⟩⟩
  simp only [e1, e2]
theorem sendP_k {A : Row} {p k : Nat} (hp : p ≤ 20) (h : ¬ (k = 9 ∨ k = 10 ∨ k = 11 ∨ (93 ≤ k ∧ k < 93 + p) ∨ (113 ≤ k ∧ k < 113 + p))) : sendP A p k = A k := by
  unfold sendP
  rw [if_neg (by omega), if_neg (by omega), if_neg (by omega), if_neg (fun x => by omega), if_neg (fun x => by omega)]
section OT
variable {z : P0} {KL : Nat → Nat × Nat} {RL : Nat → Nat → Option Nat} {q : Nat → Nat} {b : Nat} {I : Nat → Nat → Int32} {L : Nat → Nat → Int64} {sz : Nat} {ex : Bool} {Q : Res → Mem → Prop} {A : Row}
variable {n : Nat} {H : Nat → Row} {B : List Nat}
theorem RS.setm {k v : Nat} (h : RS b I (A, n, H, B)) (hk : k < 473) : RS b (up2 I (ad b 567) k (nI v)) (upr A k (v % 4294967296), n, H, B) := by
  have := h.setz (v := v % 4294967296) hk (by omega)
  rwa [n_m32] at this
def pRz (o _j : Nat) : Prop := o = 567
theorem lof_0 {p : Nat} (h : reas A p (A 8) ≠ 0) : lof A p = 4294967295 := by unfold lof; rw [if_neg h]
set_option maxHeartbeats 4000000 in
theorem l143 {told : Nat} (hg : Good A) : ∀ d p I, p + d = A 6 → RS b I (sendP A p, n, H, B) → LZ b I A → (∀ I', RS b I' (sendP A (A 6), n, H, B) → Ag pRz b I I' → Q (.inl (some (.int (nI told)))) (KAt KL b, I', RAt RL b q, L, sz, ex)) → X z 143 93 [some (.ref (ad b 566)), some (.int (nI told)), some (.int (nI p))] [] (0, 0) (KAt KL b, I, RAt RL b q, L, sz, ex) Q := by
  have h6 := hg.1.1
  have hn := grps_le hg
  intro d
  induction d with
  | zero =>
    intro p I hp hs hl hQ
    have e : p = A 6 := by omega
    have hz : RZ b I (sendP A p) := hs.rz
    have z6 : I (ad b 567) 6 = nI (A 6) := by rw [hz.at (by omega), sendP_k (by omega) (by omega)]
    rw [v143_93]
    simp (disch := omega) only [v143_94, v143_95, v143_98, v143_100, v143_101, v143_104, v143_105, v143_108, v143_109, v143_110, v143_111, v143_114, v143_115, v143_116, v143_119, v143_120, u143_121, v143_124, v143_127, v143_128, v143_131, v143_133, v143_134, v143_135, v143_136, v143_139, v143_141, v143_142, v143_143, v143_144, v143_147, v143_149, v143_150, v143_151, v143_152, v143_153, v143_154, v143_155, v143_156, v143_159, v143_162, v143_163, k_566, k_567, k_568, k_569, k_570, k_571, k_572, k_573, k_574, k_575, k_576, r_566_0, r_566_2, r_566_4, r_566_6, r_566_7, r_566_8, r_566_9, r_566_10, r_566_11, r_566_13, va_rf_s, n_cl, n_in_t, n_lt_t, n_lt_f, n_eq_t, n_eq_f, n_sub, nI_add, n_mul, ↓reduceIte, if_true, if_false, eq_self, true_or, or_true, and_self, and_true, true_and, Nat.reduceAdd, Nat.reduceMul, Nat.reduceLeDiff, Nat.zero_le, not_true_eq_false, not_false_eq_true, cat2_n, cat2_i, cat2_r, ws_0, ws_i, ws_r, ws_l, ws_d, aftr_n, aftr_s, bI_ok, bI_t, bI_f, up_s, up_n, n_bit, decide_true, decide_false, Bool.not_true, Bool.not_false, Bool.and_true, Bool.true_and, Bool.false_and, Bool.and_false, z6]
    rw [e] at hs
    exact hQ I hs Ag.rf
  | succ d ih =>
    intro p I hp hs hl hQ
    have hz : RZ b I (sendP A p) := hs.rz
    have z6 : I (ad b 567) 6 = nI (A 6) := by rw [hz.at (by omega), sendP_k (by omega) (by omega)]
    have z8 : I (ad b 567) 8 = nI (A 8) := by rw [hz.at (by omega), sendP_k (by omega) (by omega)]
    have z4 : I (ad b 567) 4 = nI (A 4) := by rw [hz.at (by omega), sendP_k (by omega) (by omega)]
    have z113 : I (ad b 567) (113 + p) = nI (A (113 + p)) := by rw [hz.at (by omega), sendP_k (by omega) (by omega)]
    have h8 := hg.1.2.2.2
    have lo := hl.2.1 p (by omega)
    rw [v143_93]
    by_cases e : reas A p (A 8) = 0
    · have ll := lof_lt hg (A 6) p (by omega) e
      have ll2 : lof A p < (grps A).1 := ll
      cases hs2 : sentB A ((grps A).2 (lof A p)) with
      | true =>
        have st : snt A p = true := by unfold snt; rw [decide_eq_true e, hs2]; rfl
        simp (disch := omega) only [v143_94, v143_95, v143_98, v143_100, v143_101, v143_104, v143_105, v143_108, v143_109, v143_110, v143_111, v143_114, v143_115, v143_116, v143_119, v143_120, u143_121, v143_124, v143_127, v143_128, v143_131, v143_133, v143_134, v143_135, v143_136, v143_139, v143_141, v143_142, v143_143, v143_144, v143_147, v143_149, v143_150, v143_151, v143_152, v143_153, v143_154, v143_155, v143_156, v143_159, v143_162, v143_163, k_566, k_567, k_568, k_569, k_570, k_571, k_572, k_573, k_574, k_575, k_576, r_566_0, r_566_2, r_566_4, r_566_6, r_566_7, r_566_8, r_566_9, r_566_10, r_566_11, r_566_13, va_rf_s, n_cl, n_in_t, n_lt_t, n_lt_f, n_eq_t, n_eq_f, n_sub, nI_add, n_mul, ↓reduceIte, if_true, if_false, eq_self, true_or, or_true, and_self, and_true, true_and, Nat.reduceAdd, Nat.reduceMul, Nat.reduceLeDiff, Nat.zero_le, not_true_eq_false, not_false_eq_true, cat2_n, cat2_i, cat2_r, ws_0, ws_i, ws_r, ws_l, ws_d, aftr_n, aftr_s, bI_ok, bI_t, bI_f, up_s, up_n, n_bit, decide_true, decide_false, Bool.not_true, Bool.not_false, Bool.and_true, Bool.true_and, Bool.false_and, Bool.and_false, z6, z8, z113, lo, c131 hg z4 hl ll2, hs2]
        have a1 : Ag pRz b I (up2 (up2 I (ad b 567) (93 + p) (nI (A 8))) (ad b 567) (113 + p) (nI (A (113 + p) + 1))) := ((Ag.rf (P := pRz)).up rfl).up rfl
        refine ih (p + 1) _ (by omega) ?_ (hl.ag a1 (fun o j x => by unfold pRz at x; unfold pScr; omega)) (fun I2 q1 q2 => hQ I2 q1 (a1.tr q2))
        rw [sendP_t (by omega) st]
        exact (hs.setz (by omega) (by omega)).setm (by omega)
      | false =>
        have st : snt A p = false := by unfold snt; rw [hs2, Bool.and_false]
        simp (disch := omega) only [v143_94, v143_95, v143_98, v143_100, v143_101, v143_104, v143_105, v143_108, v143_109, v143_110, v143_111, v143_114, v143_115, v143_116, v143_119, v143_120, u143_121, v143_124, v143_127, v143_128, v143_131, v143_133, v143_134, v143_135, v143_136, v143_139, v143_141, v143_142, v143_143, v143_144, v143_147, v143_149, v143_150, v143_151, v143_152, v143_153, v143_154, v143_155, v143_156, v143_159, v143_162, v143_163, k_566, k_567, k_568, k_569, k_570, k_571, k_572, k_573, k_574, k_575, k_576, r_566_0, r_566_2, r_566_4, r_566_6, r_566_7, r_566_8, r_566_9, r_566_10, r_566_11, r_566_13, va_rf_s, n_cl, n_in_t, n_lt_t, n_lt_f, n_eq_t, n_eq_f, n_sub, nI_add, n_mul, ↓reduceIte, if_true, if_false, eq_self, true_or, or_true, and_self, and_true, true_and, Nat.reduceAdd, Nat.reduceMul, Nat.reduceLeDiff, Nat.zero_le, not_true_eq_false, not_false_eq_true, cat2_n, cat2_i, cat2_r, ws_0, ws_i, ws_r, ws_l, ws_d, aftr_n, aftr_s, bI_ok, bI_t, bI_f, up_s, up_n, n_bit, decide_true, decide_false, Bool.not_true, Bool.not_false, Bool.and_true, Bool.true_and, Bool.false_and, Bool.and_false, z6, lo, c131 hg z4 hl ll2, hs2]
        exact ih (p + 1) _ (by omega) (by rw [sendP_f st]; exact hs) hl hQ
    · have st : snt A p = false := by unfold snt; rw [decide_eq_false e, Bool.false_and]
      rw [lof_0 e] at lo
      simp (disch := omega) only [v143_94, v143_95, v143_98, v143_100, v143_101, v143_104, v143_105, v143_108, v143_109, v143_110, v143_111, v143_114, v143_115, v143_116, v143_119, v143_120, u143_121, v143_124, v143_127, v143_128, v143_131, v143_133, v143_134, v143_135, v143_136, v143_139, v143_141, v143_142, v143_143, v143_144, v143_147, v143_149, v143_150, v143_151, v143_152, v143_153, v143_154, v143_155, v143_156, v143_159, v143_162, v143_163, k_566, k_567, k_568, k_569, k_570, k_571, k_572, k_573, k_574, k_575, k_576, r_566_0, r_566_2, r_566_4, r_566_6, r_566_7, r_566_8, r_566_9, r_566_10, r_566_11, r_566_13, va_rf_s, n_cl, n_in_t, n_lt_t, n_lt_f, n_eq_t, n_eq_f, n_sub, nI_add, n_mul, ↓reduceIte, if_true, if_false, eq_self, true_or, or_true, and_self, and_true, true_and, Nat.reduceAdd, Nat.reduceMul, Nat.reduceLeDiff, Nat.zero_le, not_true_eq_false, not_false_eq_true, cat2_n, cat2_i, cat2_r, ws_0, ws_i, ws_r, ws_l, ws_d, aftr_n, aftr_s, bI_ok, bI_t, bI_f, up_s, up_n, n_bit, decide_true, decide_false, Bool.not_true, Bool.not_false, Bool.and_true, Bool.true_and, Bool.false_and, Bool.and_false, z6, lo]
      exact ih (p + 1) _ (by omega) (by rw [sendP_f st]; exact hs) hl hQ
theorem sumF_le {f : Nat → Nat} {M : Nat} : ∀ d i, (∀ k, k < i + d → f k ≤ M) → sumF f i d ≤ d * M
  | 0, i, _ => by unfold sumF; omega
  | d + 1, i, h => by
    have h1 := sumF_le (f := f) (M := M) d (i + 1) (fun k hk => h k (by omega))
    have h2 := h i (by omega)
    unfold sumF
    rw [Nat.succ_mul]
    omega
theorem totS_le (hg : Good A) {w : Nat} : totS A w ≤ 2000000 := by
  have h6 := hg.1.1
  have hn := grps_le hg
  have h5 := hg.2.1
  have : totS A w ≤ (grps A).1 * 80000 := by
    unfold totS
    refine sumF_le _ _ (fun k hk => ?_)
    rw [Nat.zero_add] at hk
    have ok := grps_ok hg hk
    have bd := lay_bd hg ok
    have := ok.2.2.2.1
    have h7 : pagesT A ((grps A).2 k) * A 5 ≤ 4000 * 20 := Nat.mul_le_mul (by omega) (by omega)
    cases sentB A ((grps A).2 k)
    · simp only [cond_false]; omega
    · simp only [cond_true]; split
      · omega
      · split
        · omega
        · split <;> omega
  have h8 : (grps A).1 * 80000 ≤ 20 * 80000 := Nat.mul_le_mul (by omega) (by omega)
  omega
set_option maxHeartbeats 4000000 in
theorem c143 (hs : RS b I (A, n, H, B)) (hg : Good A) (hQ : RQ b I (opSend (A, n, H, B)) fun v I' => Q (.inl (some (.int (nI v)))) (KAt KL b, I', RAt RL b q, L, sz, ex)) : X z 143 0 [some (.ref (ad b 566)), none, none] [] (0, 0) (KAt KL b, I, RAt RL b q, L, sz, ex) Q := by
  have hz : RZ b I A := hs.rz
  have h12 := hg.1.2.2.1
  have h6 := hg.1.1
  have t0 := totS_le hg (w := 0)
  unfold opSend at hQ
  dsimp only at hQ
  simp (disch := omega) only [v143_0, u143_1, k_566, k_567, k_568, k_569, k_570, k_571, k_572, k_573, k_574, k_575, k_576, r_566_0, r_566_2, r_566_4, r_566_6, r_566_7, r_566_8, r_566_9, r_566_10, r_566_11, r_566_13, va_rf_s, n_cl, n_in_t, n_lt_t, n_lt_f, n_eq_t, n_eq_f, n_sub, nI_add, n_mul, ↓reduceIte, if_true, if_false, eq_self, true_or, or_true, and_self, and_true, true_and, Nat.reduceAdd, Nat.reduceMul, Nat.reduceLeDiff, Nat.zero_le, not_true_eq_false, not_false_eq_true, cat2_n, cat2_i, cat2_r, ws_0, ws_i, ws_r, ws_l, ws_d, aftr_n, aftr_s, bI_ok, bI_t, bI_f, up_s, up_n, n_bit, decide_true, decide_false, Bool.not_true, Bool.not_false, Bool.and_true, Bool.true_and, Bool.false_and, Bool.and_false]
  refine c130 hg hz (fun I1 l1 g1 => ?_)
  have hs1 := hs.scr g1
  have hz1 : RZ b I1 A := hs1.rz
  have z4 := hz1.at (k := 4) (by omega)
  have z5 := hz1.at (k := 5) (by omega)
  have no : (A 12 = 0 ∨ totS A 0 = 0) → Q (.inl (some (.int (nI 0)))) (KAt KL b, up2 I1 (ad b 566) 5 (nI 1), RAt RL b q, L, sz, ex) := fun e => by
    rw [if_pos e] at hQ
    exact hQ _ 0 hs1.thr up_s ((g1.mn pScr_r).tr (agThr.mn pThr_r)) (fun x => ne_s x)
  by_cases e1 : A 12 = 0
  · simp (disch := omega) only [v143_4, v143_5, v143_6, v143_9, v143_11, v143_12, v143_15, v143_16, u143_17, v143_20, v143_23, v143_24, v143_27, v143_28, v143_31, v143_32, v143_35, v143_38, v143_39, k_566, k_567, k_568, k_569, k_570, k_571, k_572, k_573, k_574, k_575, k_576, r_566_0, r_566_2, r_566_4, r_566_6, r_566_7, r_566_8, r_566_9, r_566_10, r_566_11, r_566_13, va_rf_s, n_cl, n_in_t, n_lt_t, n_lt_f, n_eq_t, n_eq_f, n_sub, nI_add, n_mul, ↓reduceIte, if_true, if_false, eq_self, true_or, or_true, and_self, and_true, true_and, Nat.reduceAdd, Nat.reduceMul, Nat.reduceLeDiff, Nat.zero_le, not_true_eq_false, not_false_eq_true, cat2_n, cat2_i, cat2_r, ws_0, ws_i, ws_r, ws_l, ws_d, aftr_n, aftr_s, bI_ok, bI_t, bI_f, up_s, up_n, n_bit, decide_true, decide_false, Bool.not_true, Bool.not_false, Bool.and_true, Bool.true_and, Bool.false_and, Bool.and_false, hz1.at]
    exact no (Or.inl e1)
  · by_cases e2 : totS A 0 = 0
    · simp (disch := omega) only [v143_4, v143_5, v143_6, v143_9, v143_11, v143_12, v143_15, v143_16, u143_17, v143_20, v143_23, v143_24, v143_27, v143_28, v143_31, v143_32, v143_35, v143_38, v143_39, k_566, k_567, k_568, k_569, k_570, k_571, k_572, k_573, k_574, k_575, k_576, r_566_0, r_566_2, r_566_4, r_566_6, r_566_7, r_566_8, r_566_9, r_566_10, r_566_11, r_566_13, va_rf_s, n_cl, n_in_t, n_lt_t, n_lt_f, n_eq_t, n_eq_f, n_sub, nI_add, n_mul, ↓reduceIte, if_true, if_false, eq_self, true_or, or_true, and_self, and_true, true_and, Nat.reduceAdd, Nat.reduceMul, Nat.reduceLeDiff, Nat.zero_le, not_true_eq_false, not_false_eq_true, cat2_n, cat2_i, cat2_r, ws_0, ws_i, ws_r, ws_l, ws_d, aftr_n, aftr_s, bI_ok, bI_t, bI_f, up_s, up_n, n_bit, decide_true, decide_false, Bool.not_true, Bool.not_false, Bool.and_true, Bool.true_and, Bool.false_and, Bool.and_false, hz1.at, c132 hg (w := 0) (by omega) z4 z5 l1]
      exact no (Or.inr e2)
    · rw [if_neg (fun x => x.elim e1 e2)] at hQ
      simp (disch := omega) only [v143_4, v143_5, v143_6, v143_9, v143_11, v143_12, v143_15, v143_16, u143_17, v143_20, v143_23, v143_24, v143_27, v143_28, v143_31, v143_32, v143_35, v143_38, v143_39, v143_40, u143_41, k_566, k_567, k_568, k_569, k_570, k_571, k_572, k_573, k_574, k_575, k_576, r_566_0, r_566_2, r_566_4, r_566_6, r_566_7, r_566_8, r_566_9, r_566_10, r_566_11, r_566_13, va_rf_s, n_cl, n_in_t, n_lt_t, n_lt_f, n_eq_t, n_eq_f, n_sub, nI_add, n_mul, ↓reduceIte, if_true, if_false, eq_self, true_or, or_true, and_self, and_true, true_and, Nat.reduceAdd, Nat.reduceMul, Nat.reduceLeDiff, Nat.zero_le, not_true_eq_false, not_false_eq_true, cat2_n, cat2_i, cat2_r, ws_0, ws_i, ws_r, ws_l, ws_d, aftr_n, aftr_s, bI_ok, bI_t, bI_f, up_s, up_n, n_bit, decide_true, decide_false, Bool.not_true, Bool.not_false, Bool.and_true, Bool.true_and, Bool.false_and, Bool.and_false, hz1.at, c132 hg (w := 0) (by omega) z4 z5 l1]
      refine c107 hs1.thr (fun I2 g2 g3 => ?_)
      have hz2 : RZ b I2 A := g2.rz
      have l2 : LZ b I2 A := (l1.ag agThr (fun o j x => by unfold pThr at x; unfold pScr; omega)).ag g3 (fun o j x => by unfold pSv at x; unfold pScr; omega)
      have l3 : LZ b (up2 I2 (ad b 567) 9 (nI (A 9 + totS A 0))) A := l2.ag (P := pRz) (Ag.rf.up rfl) (fun o j x => by unfold pRz at x; unfold pScr; omega)
      have l4 : LZ b (up2 (up2 I2 (ad b 567) 9 (nI (A 9 + totS A 0))) (ad b 567) 10 (nI (A 10 + totS A 2))) A := l3.ag (P := pRz) (Ag.rf.up rfl) (fun o j x => by unfold pRz at x; unfold pScr; omega)
      have l5 : LZ b (up2 (up2 (up2 I2 (ad b 567) 9 (nI (A 9 + totS A 0))) (ad b 567) 10 (nI (A 10 + totS A 2))) (ad b 567) 11 (nI (A 11 + totS A 3))) A := l4.ag (P := pRz) (Ag.rf.up rfl) (fun o j x => by unfold pRz at x; unfold pScr; omega)
      have y4 := hz2.at (k := 4) (by omega)
      have y5 := hz2.at (k := 5) (by omega)
      simp (disch := omega) only [v143_44, v143_45, u143_46, v143_49, v143_50, v143_51, v143_54, v143_56, v143_57, v143_58, v143_59, v143_60, v143_61, v143_62, v143_65, v143_67, v143_68, v143_69, v143_70, u143_71, v143_74, v143_75, v143_76, v143_77, v143_80, v143_82, v143_83, v143_84, v143_85, u143_86, v143_89, v143_90, v143_91, v143_92, k_566, k_567, k_568, k_569, k_570, k_571, k_572, k_573, k_574, k_575, k_576, r_566_0, r_566_2, r_566_4, r_566_6, r_566_7, r_566_8, r_566_9, r_566_10, r_566_11, r_566_13, va_rf_s, n_cl, n_in_t, n_lt_t, n_lt_f, n_eq_t, n_eq_f, n_sub, nI_add, n_mul, ↓reduceIte, if_true, if_false, eq_self, true_or, or_true, and_self, and_true, true_and, Nat.reduceAdd, Nat.reduceMul, Nat.reduceLeDiff, Nat.zero_le, not_true_eq_false, not_false_eq_true, cat2_n, cat2_i, cat2_r, ws_0, ws_i, ws_r, ws_l, ws_d, aftr_n, aftr_s, bI_ok, bI_t, bI_f, up_s, up_n, n_bit, decide_true, decide_false, Bool.not_true, Bool.not_false, Bool.and_true, Bool.true_and, Bool.false_and, Bool.and_false, hz2.at, c132 hg (w := 0) (by omega) y4 y5 l2, c132 hg (w := 2) (by omega) (show up2 I2 (ad b 567) 9 (nI (A 9 + totS A 0)) (ad b 567) 4 = nI (A 4) by rw [up_n (by omega)]; exact y4) (by rw [up_n (by omega)]; exact y5) l3, c132 hg (w := 3) (by omega) (show up2 (up2 I2 (ad b 567) 9 (nI (A 9 + totS A 0))) (ad b 567) 10 (nI (A 10 + totS A 2)) (ad b 567) 4 = nI (A 4) by rw [up_n (by omega), up_n (by omega)]; exact y4) (by rw [up_n (by omega), up_n (by omega)]; exact y5) l4]
      have s3 := ((g2.setm (k := 9) (v := A 9 + totS A 0) (by omega)).setm (k := 10) (v := A 10 + totS A 2) (by omega)).setm (k := 11) (v := A 11 + totS A 3) (by omega)
      rw [← sendP_0] at s3
      refine l143 hg (A 6) 0 _ (by omega) s3 l5 (fun I3 q1 q2 => ?_)
      have a1 : Ag pRef b I I3 := ((((g1.mn pScr_r).tr (agThr.mn pThr_r)).tr (g3.mn pSv_r)).up (by unfold pRef; omega) |>.up (by unfold pRef; omega) |>.up (by unfold pRef; omega)).tr (q2.mn (fun o j x => by unfold pRz at x; unfold pRef; omega))
      refine hQ I3 _ q1 ?_ a1 (fun _ => rfl)
      rw [q2.at (fun x => by unfold pRz at x; omega), up_n (by omega), up_n (by omega), up_n (by omega), g3.at (fun x => by unfold pSv at x; omega), up_s]
end OT
