/-! THE LAW: what it is told -/
def TD (KL : Nat → Nat × Nat) (RL : Nat → Nat → Option Nat) (z : P0) (b : Nat) (I : Nat → Nat → Int32) (q : Nat → Nat) (A : Row) (m : Nat) (H : Nat → Row) (B : List Nat) : Prop := CSt b I q (A, m, H, B) ∧ GoodW (A, m, H, B) ∧ Sm A ∧ SZ KL RL b I z ∧ SV KL b I z ∧ Lw b I A m ∧ LwT A ∧ GL b I (grps A).1 (grps A).2
section LM
variable {z : P0} {KL : Nat → Nat × Nat} {RL : Nat → Nat → Option Nat} {q : Nat → Nat} {b : Nat} {I : Nat → Nat → Int32} {L : Nat → Nat → Int64} {sz : Nat} {ex : Bool} {Q : Res → Mem → Prop} {A : Row}
variable {n m t g : Nat} {H : Nat → Row} {B : List Nat}
theorem TD.cls {I1 : Nat → Nat → Int32} {q1 : Nat → Nat} (h : TD KL RL z b I q A m H B) (w1 : CSt b I1 q1 (A, m, H, B)) (g1 : Ag pCls b I I1) : TD KL RL z b I1 q1 A m H B := by
  obtain ⟨hw, hg, hm, hz, hv, hl, hlt, gl⟩ := h
  exact ⟨w1, hg, hm, hz.ag g1, hv.ag g1, hl.ag g1 pLw_c, hlt, gl.ag g1 (fun x => by unfold pCls at x; omega) (fun j x => by unfold pCls at x; omega)⟩
theorem TD.st {I1 : Nat → Nat → Int32} (ht : 577 ≤ t) (h : TD KL RL z b I q A m H B) (g1 : Ag (pS t) b I I1) : TD KL RL z b I1 q A m H B := by
  obtain ⟨hw, hg, hm, hz, hv, hl, hlt, gl⟩ := h
  exact ⟨hw.scr hg g1 (fun o j x => by unfold pS at x; omega), hg, hm, hz.ag g1, hv.ag g1, hl.ag g1 (pLw_s ht), hlt, gl.ag g1 (fun x => by unfold pS at x; omega) (fun j x => by unfold pS at x; omega)⟩
theorem OE.cls {W Hh : Nat} {T : List Nat} {I1 : Nat → Nat → Int32} (ht : 577 ≤ t) (h : OE b I t W Hh T) (g1 : Ag pCls b I I1) : OE b I1 t W Hh T := by
  have k : ∀ {j}, I1 (ad b t) j = I (ad b t) j := g1.at (fun x => by unfold pCls at x; omega)
  exact ⟨k.trans h.1, k.trans h.2.1, k.trans h.2.2.1, k.trans h.2.2.2⟩
theorem tSign {k v : Nat} (hT : TD KL RL z b I q A m H B) (hg : g < (grps A).1) (hk : k < (textT A ((grps A).2 g)).length) (hv : (textT A ((grps A).2 g)).getD k 0 = v) (hQ : ∀ I1 q1, TD KL RL z b I1 q1 A m H B → Ag pCls b I I1 → Q (.inl (some (.int (nI v)))) (KAt KL b, I1, RAt RL b (q1), L, sz, ex)) : X z 75 0 [some (.ref (ad b 0)), some (.int (nI (g))), some (.int (nI (k)))] [] (0, 0) (KAt KL b, I, RAt RL b q, L, sz, ex) Q := by
  have hl := textT_len hT.2.1.1 (grps_ok hT.2.1.1 hg)
  have gn := grps_le hT.2.1.1
  have h6 := hT.2.1.1.1.1
  dsimp only at hl gn h6
  refine c75 (by omega) (by omega) hT.1 hT.2.1 hT.2.2.1 hT.2.2.2.1 (CQ_ok (v := v) (w := (A, m, H, B)) ?_ (fun I1 q1 w1 g1 => hQ I1 q1 (hT.cls w1 g1) g1))
  unfold opSign
  rw [if_pos ⟨hg, hk⟩, hv]
theorem tMem (hT : TD KL RL z b I q A m H B) (hg : g < (grps A).1) (hQ : ∀ I1 q1, TD KL RL z b I1 q1 A m H B → Ag pCls b I I1 → Q (.inl (some (.int (nI (maskL ((grps A).2 g)))))) (KAt KL b, I1, RAt RL b (q1), L, sz, ex)) : X z 76 0 [some (.ref (ad b 0)), some (.int (nI (g)))] [] (0, 0) (KAt KL b, I, RAt RL b q, L, sz, ex) Q := by
  have gn := grps_le hT.2.1.1
  have h6 := hT.2.1.1.1.1
  dsimp only at gn h6
  refine c76 (by omega) hT.1 hT.2.1 hT.2.2.1 hT.2.2.2.1 (CQ_ok (v := maskL ((grps A).2 g)) (w := (A, m, H, B)) ?_ (fun I1 q1 w1 g1 => hQ I1 q1 (hT.cls w1 g1) g1))
  unfold opMembers
  rw [if_pos hg]
theorem tLet {k v : Nat} (hT : TD KL RL z b I q A m H B) (hg : g < (grps A).1) (hk : k ≤ 7) (hv : letV A g k = v) (hQ : ∀ I1 q1, TD KL RL z b I1 q1 A m H B → Ag pCls b I I1 → Q (.inl (some (.int (nI v)))) (KAt KL b, I1, RAt RL b (q1), L, sz, ex)) : X z 74 0 [some (.ref (ad b 0)), some (.int (nI (g))), some (.int (nI (k)))] [] (0, 0) (KAt KL b, I, RAt RL b q, L, sz, ex) Q := by
  have gn := grps_le hT.2.1.1
  have h6 := hT.2.1.1.1.1
  dsimp only at gn h6
  refine c74 (by omega) (by omega) hT.1 hT.2.1 hT.2.2.1 hT.2.2.2.1 (CQ_ok (v := v) (w := (A, m, H, B)) ?_ (fun I1 q1 w1 g1 => hQ I1 q1 (hT.cls w1 g1) g1))
  unfold opLetter
  rw [if_pos hg, if_pos hk, hv]
theorem tPer {p k v : Nat} (hT : TD KL RL z b I q A m H B) (hp : p < A 6) (hk : k ≤ 8) (hv : perV A p k = v) (hQ : ∀ I1 q1, TD KL RL z b I1 q1 A m H B → Ag pCls b I I1 → Q (.inl (some (.int (nI v)))) (KAt KL b, I1, RAt RL b (q1), L, sz, ex)) : X z 71 0 [some (.ref (ad b 0)), some (.int (nI (p))), some (.int (nI (k)))] [] (0, 0) (KAt KL b, I, RAt RL b q, L, sz, ex) Q := by
  have h6 := hT.2.1.1.1.1
  dsimp only at h6
  refine c71 (by omega) (by omega) hT.1 hT.2.1 hT.2.2.1 hT.2.2.2.1 (CQ_ok (v := v) (w := (A, m, H, B)) ?_ (fun I1 q1 w1 g1 => hQ I1 q1 (hT.cls w1 g1) g1))
  unfold opPerson
  rw [if_pos hp, if_pos hk, hv]
theorem tCnt {k v : Nat} (hT : TD KL RL z b I q A m H B) (hk : k ≤ 14) (hv : cntV A m k = v) (hQ : ∀ I1 q1, TD KL RL z b I1 q1 A m H B → Ag pCls b I I1 → Q (.inl (some (.int (nI v)))) (KAt KL b, I1, RAt RL b (q1), L, sz, ex)) : X z 77 0 [some (.ref (ad b 0)), some (.int (nI (k)))] [] (0, 0) (KAt KL b, I, RAt RL b q, L, sz, ex) Q := by
  refine c77 (by omega) hT.1 hT.2.1 hT.2.2.1 hT.2.2.2.1 (CQ_ok (v := v) (w := (A, m, H, B)) ?_ (fun I1 q1 w1 g1 => hQ I1 q1 (hT.cls w1 g1) g1))
  unfold opCount
  rw [if_pos hk, hv]
/-- sign by sign -/
theorem t119 {sd c0 n0 : Nat} {x14 x15 x16 x17 : Option Value} {v19 : Int32} {T : List Nat} (hTe : textT A ((grps A).2 g) = T) (hk : KAt KL b (ad b t) = (20, 10)) (ht : 577 ≤ t) (hg : g < (grps A).1) (hTl : T.length ≤ 1660)
    (hQ : ∀ I1 q1 c n, c ≤ c0 + T.length → n ≤ n0 + 6 * T.length → TD KL RL z b I1 q1 A m H B → OE b I1 t (A 0) (A 1) T → Ag pCls b I I1 → X z 213 155 [some (.ref (ad b 0)), some (.int (nI (sd))), some (.ref (ad b 566)), some (.ref (ad b 567)), some (.ref (ad b 568)), some (.ref (ad b 569)), some (.ref (ad b 570)), some (.ref (ad b 571)), some (.ref (ad b 572)), some (.ref (ad b 573)), some (.ref (ad b 574)), some (.ref (ad b 575)), some (.ref (ad b 576)), some (.ref (ad b t)), x14, x15, x16, x17, some (.int (nI (g))), some (.int v19), some (.int (nI (hshT T))), some (.int (nI (1))), some (.int (nI (T.length)))] [] (c, n) (KAt KL b, I1, RAt RL b (q1), L, sz, ex) Q) (hc0 : c0 + T.length ≤ 2990) (hn0 : n0 + 6 * T.length ≤ 17900) :
    ∀ d k I1 q1 c n, k + d = T.length → c ≤ c0 + k → n ≤ n0 + 6 * k → TD KL RL z b I1 q1 A m H B → OE b I1 t (A 0) (A 1) T → Ag pCls b I I1 → X z 213 119 [some (.ref (ad b 0)), some (.int (nI (sd))), some (.ref (ad b 566)), some (.ref (ad b 567)), some (.ref (ad b 568)), some (.ref (ad b 569)), some (.ref (ad b 570)), some (.ref (ad b 571)), some (.ref (ad b 572)), some (.ref (ad b 573)), some (.ref (ad b 574)), some (.ref (ad b 575)), some (.ref (ad b 576)), some (.ref (ad b t)), x14, x15, x16, x17, some (.int (nI (g))), some (.int v19), some (.int (nI (hshT (T.take k)))), some (.int (nI (1))), some (.int (nI (k)))] [] (c, n) (KAt KL b, I1, RAt RL b (q1), L, sz, ex) Q := by
  intro d
  induction d with
  | zero =>
    intro k I1 q1 c n h hc hn hT ho ga
    obtain rfl : k = T.length := by omega
    have o0 := ho.1
    rw [v213_119]
    simp (disch := omega) only [v213_121, v213_123, v213_124, v213_125, v213_128, v213_130, v213_133, v213_135, v213_137, v213_138, v213_139, v213_141, u213_143, v213_146, v213_147, v213_149, v213_152, Nat.add_zero, n_cl, n_in_t, n_lt_t, n_lt_f, n_eq_t, n_eq_f, n_sub, nI_add, n_mul, n_01, ↓reduceIte, if_true, if_false, eq_self, true_or, or_true, and_self, and_true, true_and, Nat.reduceAdd, Nat.reduceMul, Nat.reduceLeDiff, Nat.zero_le, not_true_eq_false, not_false_eq_true, cat2_n, cat2_i, cat2_r, ws_0, ws_i, ws_r, ws_l, ws_d, aftr_n, aftr_s, bI_ok, bI_t, bI_f, up_s, up_n, n_bit, decide_true, decide_false, Bool.not_true, Bool.not_false, Bool.and_true, Bool.true_and, Bool.false_and, Bool.and_false, n_nlt0, n_neg_t, n_neg_f, k_0, k_566, k_567, k_568, k_569, k_570, k_571, k_572, k_573, k_574, k_575, k_576, hk, o0, List.take_length]
    exact hQ I1 q1 c n (by omega) (by omega) hT ho ga
  | succ d ih =>
    intro k I1 q1 c n h hc hn hT ho ga
    have o0 := ho.1
    have tk : hshT (T.take (k + 1)) = 31 * hshT (T.take k) + T.getD k 0 := by
      rw [← hshT_snoc]
      congr 1
      rw [List.take_add_one, List.getD_eq_getElem?_getD, List.getElem?_eq_getElem (by omega)]
      rfl
    rw [v213_119]
    simp (disch := omega) only [v213_121, v213_123, v213_124, v213_125, v213_128, v213_130, v213_133, v213_135, v213_137, v213_138, v213_139, v213_141, u213_143, Nat.add_zero, n_cl, n_in_t, n_lt_t, n_lt_f, n_eq_t, n_eq_f, n_sub, nI_add, n_mul, n_01, ↓reduceIte, if_true, if_false, eq_self, true_or, or_true, and_self, and_true, true_and, Nat.reduceAdd, Nat.reduceMul, Nat.reduceLeDiff, Nat.zero_le, not_true_eq_false, not_false_eq_true, cat2_n, cat2_i, cat2_r, ws_0, ws_i, ws_r, ws_l, ws_d, aftr_n, aftr_s, bI_ok, bI_t, bI_f, up_s, up_n, n_bit, decide_true, decide_false, Bool.not_true, Bool.not_false, Bool.and_true, Bool.true_and, Bool.false_and, Bool.and_false, n_nlt0, n_neg_t, n_neg_f, k_0, k_566, k_567, k_568, k_569, k_570, k_571, k_572, k_573, k_574, k_575, k_576, hk, o0, leq_t]
    refine tSign hT hg (by rw [hTe]; omega) (v := T.getD k 0) (by rw [hTe]) (fun I2 q2 hT2 g2 => ?_)
    simp (disch := omega) only [v213_146, v213_147, v213_149, v213_152, Nat.add_zero, n_cl, n_in_t, n_lt_t, n_lt_f, n_eq_t, n_eq_f, n_sub, nI_add, n_mul, n_01, ↓reduceIte, if_true, if_false, eq_self, true_or, or_true, and_self, and_true, true_and, Nat.reduceAdd, Nat.reduceMul, Nat.reduceLeDiff, Nat.zero_le, not_true_eq_false, not_false_eq_true, cat2_n, cat2_i, cat2_r, ws_0, ws_i, ws_r, ws_l, ws_d, aftr_n, aftr_s, bI_ok, bI_t, bI_f, up_s, up_n, n_bit, decide_true, decide_false, Bool.not_true, Bool.not_false, Bool.and_true, Bool.true_and, Bool.false_and, Bool.and_false, n_nlt0, n_neg_t, n_neg_f, k_0, k_566, k_567, k_568, k_569, k_570, k_571, k_572, k_573, k_574, k_575, k_576]
    rw [← tk]
    exact ih (k + 1) I2 q2 (c + 1) (n + 6) (by omega) (by omega) (by omega) hT2 (ho.cls ht g2) (ga.tr g2)
set_option maxHeartbeats 4000000 in
/-- what the class says of a letter -/
theorem t170 {sd c0 n0 : Nat} {x14 x15 x16 x17 x20 x21 x22 : Option Value} (hk : KAt KL b (ad b t) = (20, 10)) (ht : 577 ≤ t) (hg : g < (grps A).1) (hT : TD KL RL z b I q A m H B) (ho : OE b I t (A 0) (A 1) (textT A ((grps A).2 g))) (hc0 : c0 + 8 ≤ 2990) (hn0 : n0 + 48 ≤ 17900)
    (hQ : ∀ I1 q1 c n, c ≤ c0 + 8 → n ≤ n0 + 48 → TD KL RL z b I1 q1 A m H B → OE b I1 t (A 0) (A 1) (textT A ((grps A).2 g)) → Ag pCls b I I1 → X z 213 289 [some (.ref (ad b 0)), some (.int (nI (sd))), some (.ref (ad b 566)), some (.ref (ad b 567)), some (.ref (ad b 568)), some (.ref (ad b 569)), some (.ref (ad b 570)), some (.ref (ad b 571)), some (.ref (ad b 572)), some (.ref (ad b 573)), some (.ref (ad b 574)), some (.ref (ad b 575)), some (.ref (ad b 576)), some (.ref (ad b t)), x14, x15, x16, x17, some (.int (nI (g))), some (.int (bI (sentB A ((grps A).2 g)))), x20, x21, x22] [] (c, n) (KAt KL b, I1, RAt RL b (q1), L, sz, ex) Q) :
    X z 213 170 [some (.ref (ad b 0)), some (.int (nI (sd))), some (.ref (ad b 566)), some (.ref (ad b 567)), some (.ref (ad b 568)), some (.ref (ad b 569)), some (.ref (ad b 570)), some (.ref (ad b 571)), some (.ref (ad b 572)), some (.ref (ad b 573)), some (.ref (ad b 574)), some (.ref (ad b 575)), some (.ref (ad b 576)), some (.ref (ad b t)), x14, x15, x16, x17, some (.int (nI (g))), some (.int (bI (sentB A ((grps A).2 g)))), x20, x21, x22] [] (c0, n0) (KAt KL b, I, RAt RL b q, L, sz, ex) Q := by
  have hgd := hT.2.1.1
  dsimp only at hgd
  have gn := grps_le hgd
  have h6 := hgd.1.1
  have ok := grps_ok hgd hg
  have h20 : ∀ x ∈ (grps A).2 g, x < 20 := fun x hx => by have := ok.2.2.1 x hx; omega
  have bd := lay_bd hgd ok
  have h5 := hgd.2.1
  simp (disch := omega) only [v213_170, v213_171, u213_173, Nat.add_zero, n_cl, n_in_t, n_lt_t, n_lt_f, n_eq_t, n_eq_f, n_sub, nI_add, n_mul, n_01, ↓reduceIte, if_true, if_false, eq_self, true_or, or_true, and_self, and_true, true_and, Nat.reduceAdd, Nat.reduceMul, Nat.reduceLeDiff, Nat.zero_le, not_true_eq_false, not_false_eq_true, cat2_n, cat2_i, cat2_r, ws_0, ws_i, ws_r, ws_l, ws_d, aftr_n, aftr_s, bI_ok, bI_t, bI_f, up_s, up_n, n_bit, decide_true, decide_false, Bool.not_true, Bool.not_false, Bool.and_true, Bool.true_and, Bool.false_and, Bool.and_false, n_nlt0, n_neg_t, n_neg_f, k_0, k_566, k_567, k_568, k_569, k_570, k_571, k_572, k_573, k_574, k_575, k_576, leq_t]
  refine tMem hT hg (fun I1 q1 T1 g1 => ?_)
  have k1 := T1.2.2.2.2.2.2.2.2 g hg
  simp (disch := omega) only [v213_176, v213_178, v213_180, v213_181, v213_184, v213_185, v213_187, u213_188, Nat.add_zero, n_cl, n_in_t, n_lt_t, n_lt_f, n_eq_t, n_eq_f, n_sub, nI_add, n_mul, n_01, ↓reduceIte, if_true, if_false, eq_self, true_or, or_true, and_self, and_true, true_and, Nat.reduceAdd, Nat.reduceMul, Nat.reduceLeDiff, Nat.zero_le, not_true_eq_false, not_false_eq_true, cat2_n, cat2_i, cat2_r, ws_0, ws_i, ws_r, ws_l, ws_d, aftr_n, aftr_s, bI_ok, bI_t, bI_f, up_s, up_n, n_bit, decide_true, decide_false, Bool.not_true, Bool.not_false, Bool.and_true, Bool.true_and, Bool.false_and, Bool.and_false, n_nlt0, n_neg_t, n_neg_f, k_0, k_566, k_567, k_568, k_569, k_570, k_571, k_572, k_573, k_574, k_575, k_576, leq_t, k1]
  refine tLet (k := 1) (v := ((grps A).2 g).length) T1 hg (by omega) rfl (fun I2 q2 T2 g2 => ?_)
  have k2 := T2.2.2.2.2.2.2.2.2 g hg
  simp (disch := omega) only [v213_191, v213_193, v213_195, u213_196, v213_199, v213_202, v213_203, v213_205, u213_206, Nat.add_zero, n_cl, n_in_t, n_lt_t, n_lt_f, n_eq_t, n_eq_f, n_sub, nI_add, n_mul, n_01, ↓reduceIte, if_true, if_false, eq_self, true_or, or_true, and_self, and_true, true_and, Nat.reduceAdd, Nat.reduceMul, Nat.reduceLeDiff, Nat.zero_le, not_true_eq_false, not_false_eq_true, cat2_n, cat2_i, cat2_r, ws_0, ws_i, ws_r, ws_l, ws_d, aftr_n, aftr_s, bI_ok, bI_t, bI_f, up_s, up_n, n_bit, decide_true, decide_false, Bool.not_true, Bool.not_false, Bool.and_true, Bool.true_and, Bool.false_and, Bool.and_false, n_nlt0, n_neg_t, n_neg_f, k_0, k_566, k_567, k_568, k_569, k_570, k_571, k_572, k_573, k_574, k_575, k_576, leq_t, k2, c206 ok.1 h20]
  refine tLet (k := 3) (v := (textT A ((grps A).2 g)).length) T2 hg (by omega) rfl (fun I3 q3 T3 g3 => ?_)
  have o3 := ((ho.cls ht g1).cls ht g2).cls ht g3
  have o30 := o3.1
  simp (disch := omega) only [v213_209, v213_211, v213_212, v213_213, v213_216, v213_217, v213_219, u213_220, Nat.add_zero, n_cl, n_in_t, n_lt_t, n_lt_f, n_eq_t, n_eq_f, n_sub, nI_add, n_mul, n_01, ↓reduceIte, if_true, if_false, eq_self, true_or, or_true, and_self, and_true, true_and, Nat.reduceAdd, Nat.reduceMul, Nat.reduceLeDiff, Nat.zero_le, not_true_eq_false, not_false_eq_true, cat2_n, cat2_i, cat2_r, ws_0, ws_i, ws_r, ws_l, ws_d, aftr_n, aftr_s, bI_ok, bI_t, bI_f, up_s, up_n, n_bit, decide_true, decide_false, Bool.not_true, Bool.not_false, Bool.and_true, Bool.true_and, Bool.false_and, Bool.and_false, n_nlt0, n_neg_t, n_neg_f, k_0, k_566, k_567, k_568, k_569, k_570, k_571, k_572, k_573, k_574, k_575, k_576, leq_t, hk, o30]
  refine tLet (k := 4) (v := (layT (A 0) (A 1) (textT A ((grps A).2 g))).1) T3 hg (by omega) rfl (fun I4 q4 T4 g4 => ?_)
  have o4 := o3.cls ht g4
  have o44 := o4.2.1
  simp (disch := omega) only [v213_223, v213_225, v213_226, v213_227, v213_230, v213_231, v213_233, u213_234, Nat.add_zero, n_cl, n_in_t, n_lt_t, n_lt_f, n_eq_t, n_eq_f, n_sub, nI_add, n_mul, n_01, ↓reduceIte, if_true, if_false, eq_self, true_or, or_true, and_self, and_true, true_and, Nat.reduceAdd, Nat.reduceMul, Nat.reduceLeDiff, Nat.zero_le, not_true_eq_false, not_false_eq_true, cat2_n, cat2_i, cat2_r, ws_0, ws_i, ws_r, ws_l, ws_d, aftr_n, aftr_s, bI_ok, bI_t, bI_f, up_s, up_n, n_bit, decide_true, decide_false, Bool.not_true, Bool.not_false, Bool.and_true, Bool.true_and, Bool.false_and, Bool.and_false, n_nlt0, n_neg_t, n_neg_f, k_0, k_566, k_567, k_568, k_569, k_570, k_571, k_572, k_573, k_574, k_575, k_576, leq_t, hk, o44]
  refine tLet (k := 5) (v := (layT (A 0) (A 1) (textT A ((grps A).2 g))).2) T4 hg (by omega) rfl (fun I5 q5 T5 g5 => ?_)
  have o5 := o4.cls ht g5
  have o56 := o5.2.2.1
  simp (disch := omega) only [v213_237, v213_239, v213_241, v213_242, v213_245, v213_246, v213_248, u213_250, Nat.add_zero, n_cl, n_in_t, n_lt_t, n_lt_f, n_eq_t, n_eq_f, n_sub, nI_add, n_mul, n_01, ↓reduceIte, if_true, if_false, eq_self, true_or, or_true, and_self, and_true, true_and, Nat.reduceAdd, Nat.reduceMul, Nat.reduceLeDiff, Nat.zero_le, not_true_eq_false, not_false_eq_true, cat2_n, cat2_i, cat2_r, ws_0, ws_i, ws_r, ws_l, ws_d, aftr_n, aftr_s, bI_ok, bI_t, bI_f, up_s, up_n, n_bit, decide_true, decide_false, Bool.not_true, Bool.not_false, Bool.and_true, Bool.true_and, Bool.false_and, Bool.and_false, n_nlt0, n_neg_t, n_neg_f, k_0, k_566, k_567, k_568, k_569, k_570, k_571, k_572, k_573, k_574, k_575, k_576, leq_t, hk, o56]
  refine tLet (k := 6) (v := (layT (A 0) (A 1) (textT A ((grps A).2 g))).2 * A 5) T5 hg (by omega) rfl (fun I6 q6 T6 g6 => ?_)
  have o6 := o5.cls ht g6
  have o66 := o6.2.2.1
  have m13 : I6 (ad b 566) 13 = nI (A 5) := T6.2.2.2.2.2.1.1.2 5 (by omega)
  simp (disch := omega) only [v213_253, v213_255, v213_257, v213_258, v213_259, v213_261, v213_262, v213_263, v213_266, v213_267, v213_269, u213_271, Nat.add_zero, n_cl, n_in_t, n_lt_t, n_lt_f, n_eq_t, n_eq_f, n_sub, nI_add, n_mul, n_01, ↓reduceIte, if_true, if_false, eq_self, true_or, or_true, and_self, and_true, true_and, Nat.reduceAdd, Nat.reduceMul, Nat.reduceLeDiff, Nat.zero_le, not_true_eq_false, not_false_eq_true, cat2_n, cat2_i, cat2_r, ws_0, ws_i, ws_r, ws_l, ws_d, aftr_n, aftr_s, bI_ok, bI_t, bI_f, up_s, up_n, n_bit, decide_true, decide_false, Bool.not_true, Bool.not_false, Bool.and_true, Bool.true_and, Bool.false_and, Bool.and_false, n_nlt0, n_neg_t, n_neg_f, k_0, k_566, k_567, k_568, k_569, k_570, k_571, k_572, k_573, k_574, k_575, k_576, leq_t, hk, o66, m13]
  refine tLet (k := 7) (v := if sentB A ((grps A).2 g) = true then 1 else 0) T6 hg (by omega) rfl (fun I7 q7 T7 g7 => ?_)
  have o7 := o6.cls ht g7
  have f := hQ I7 q7 (c0 + 1 + 1 + 1 + 1 + 1 + 1 + 1) (n0 + 6 + 6 + 6 + 6 + 6 + 6 + 6) (by omega) (by omega) T7 o7 ((((((g1.tr g2).tr g3).tr g4).tr g5).tr g6).tr g7)
  cases hs : sentB A ((grps A).2 g) with
  | true =>
    rw [hs, bI_t] at f
    simp (disch := omega) only [v213_274, v213_276, v213_279, v213_280, v213_283, v213_284, Nat.add_zero, n_cl, n_in_t, n_lt_t, n_lt_f, n_eq_t, n_eq_f, n_sub, nI_add, n_mul, n_01, ↓reduceIte, if_true, if_false, eq_self, true_or, or_true, and_self, and_true, true_and, Nat.reduceAdd, Nat.reduceMul, Nat.reduceLeDiff, Nat.zero_le, not_true_eq_false, not_false_eq_true, cat2_n, cat2_i, cat2_r, ws_0, ws_i, ws_r, ws_l, ws_d, aftr_n, aftr_s, bI_ok, bI_t, bI_f, up_s, up_n, n_bit, decide_true, decide_false, Bool.not_true, Bool.not_false, Bool.and_true, Bool.true_and, Bool.false_and, Bool.and_false, n_nlt0, n_neg_t, n_neg_f, k_0, k_566, k_567, k_568, k_569, k_570, k_571, k_572, k_573, k_574, k_575, k_576]
    exact f
  | false =>
    rw [hs, bI_f] at f
    simp (disch := omega) only [v213_274, v213_276, v213_279, v213_280, v213_283, v213_284, Nat.add_zero, n_cl, n_in_t, n_lt_t, n_lt_f, n_eq_t, n_eq_f, n_sub, nI_add, n_mul, n_01, ↓reduceIte, if_true, if_false, eq_self, true_or, or_true, and_self, and_true, true_and, Nat.reduceAdd, Nat.reduceMul, Nat.reduceLeDiff, Nat.zero_le, not_true_eq_false, not_false_eq_true, cat2_n, cat2_i, cat2_r, ws_0, ws_i, ws_r, ws_l, ws_d, aftr_n, aftr_s, bI_ok, bI_t, bI_f, up_s, up_n, n_bit, decide_true, decide_false, Bool.not_true, Bool.not_false, Bool.and_true, Bool.true_and, Bool.false_and, Bool.and_false, n_nlt0, n_neg_t, n_neg_f, k_0, k_566, k_567, k_568, k_569, k_570, k_571, k_572, k_573, k_574, k_575, k_576, Bool.false_eq_true]
    exact f
set_option maxHeartbeats 4000000 in
/-- what it says of the letter's persons -/
theorem t292 {sd c0 n0 : Nat} {x14 x15 x16 x17 x20 : Option Value} {v21 : Int32} {T : List Nat} (ht : 577 ≤ t) (hg : g < (grps A).1) (hgd : Good A) (hc0 : c0 + 36 ≤ 2990) (hn0 : n0 + 216 ≤ 17900) (h12 : A 6 ≤ 12)
    (hQ : ∀ I1 q1 c n, c ≤ c0 + 36 → n ≤ n0 + 216 → TD KL RL z b I1 q1 A m H B → OE b I1 t (A 0) (A 1) T → Ag pCls b I I1 → X z 213 370 [some (.ref (ad b 0)), some (.int (nI (sd))), some (.ref (ad b 566)), some (.ref (ad b 567)), some (.ref (ad b 568)), some (.ref (ad b 569)), some (.ref (ad b 570)), some (.ref (ad b 571)), some (.ref (ad b 572)), some (.ref (ad b 573)), some (.ref (ad b 574)), some (.ref (ad b 575)), some (.ref (ad b 576)), some (.ref (ad b t)), x14, x15, x16, x17, some (.int (nI (g))), some (.int (bI (sentB A ((grps A).2 g)))), x20, some (.int v21), some (.int (nI (A 6)))] [] (c, n) (KAt KL b, I1, RAt RL b (q1), L, sz, ex) Q) :
    ∀ d p I1 q1 c n, p + d = A 6 → c ≤ c0 + 3 * p → n ≤ n0 + 18 * p → TD KL RL z b I1 q1 A m H B → OE b I1 t (A 0) (A 1) T → Ag pCls b I I1 → X z 213 292 [some (.ref (ad b 0)), some (.int (nI (sd))), some (.ref (ad b 566)), some (.ref (ad b 567)), some (.ref (ad b 568)), some (.ref (ad b 569)), some (.ref (ad b 570)), some (.ref (ad b 571)), some (.ref (ad b 572)), some (.ref (ad b 573)), some (.ref (ad b 574)), some (.ref (ad b 575)), some (.ref (ad b 576)), some (.ref (ad b t)), x14, x15, x16, x17, some (.int (nI (g))), some (.int (bI (sentB A ((grps A).2 g)))), x20, some (.int v21), some (.int (nI (p)))] [] (c, n) (KAt KL b, I1, RAt RL b (q1), L, sz, ex) Q := by
  have gn := grps_le hgd
  have h6 := hgd.1.1
  have ok := grps_ok hgd hg
  have h20 : ∀ x ∈ (grps A).2 g, x < 20 := fun x hx => by have := ok.2.2.1 x hx; omega
  have hm : maskL ((grps A).2 g) < 2147483648 := Nat.lt_of_lt_of_le (maskL_lt (n := 20) h20) (by decide)
  have okg2 := (okg (A := A) (by have := hgd.2.1; omega) (A 6)).2.2 g hg
  intro d
  induction d with
  | zero =>
    intro p I1 q1 c n h hc hn hT ho ga
    obtain rfl : p = A 6 := by omega
    have m0 := hT.2.2.2.2.2.1.1.1.1
    rw [v213_292]
    simp (disch := omega) only [v213_294, v213_295, v213_296, v213_297, v213_300, v213_302, v213_304, v213_305, v213_307, v213_308, v213_309, v213_310, v213_311, v213_314, v213_315, v213_317, u213_319, v213_322, v213_324, v213_327, v213_328, v213_330, u213_332, v213_335, v213_337, v213_340, v213_341, v213_344, v213_345, v213_348, v213_349, v213_351, u213_352, v213_355, v213_356, v213_358, v213_359, v213_362, v213_363, v213_364, v213_367, Nat.add_zero, n_cl, n_in_t, n_lt_t, n_lt_f, n_eq_t, n_eq_f, n_sub, nI_add, n_mul, n_01, ↓reduceIte, if_true, if_false, eq_self, true_or, or_true, and_self, and_true, true_and, Nat.reduceAdd, Nat.reduceMul, Nat.reduceLeDiff, Nat.zero_le, not_true_eq_false, not_false_eq_true, cat2_n, cat2_i, cat2_r, ws_0, ws_i, ws_r, ws_l, ws_d, aftr_n, aftr_s, bI_ok, bI_t, bI_f, up_s, up_n, n_bit, decide_true, decide_false, Bool.not_true, Bool.not_false, Bool.and_true, Bool.true_and, Bool.false_and, Bool.and_false, n_nlt0, n_neg_t, n_neg_f, k_0, k_566, k_567, k_568, k_569, k_570, k_571, k_572, k_573, k_574, k_575, k_576, m0]
    exact hQ I1 q1 c n (by omega) (by omega) hT ho ga
  | succ d ih =>
    intro p I1 q1 c n h hc hn hT ho ga
    have m0 := hT.2.2.2.2.2.1.1.1.1
    have k0 := hT.2.2.2.2.2.2.2.2 g hg
    rw [v213_292]
    by_cases e : p ∈ (grps A).2 g
    · have tb : (maskL ((grps A).2 g)).testBit p = true := by rw [maskL_t]; exact decide_eq_true e
      have ml := (mem_lof (A := A) (A 6) g p).mp e
      have hd := (okg2.2.2.2 p e).2.2
      have r1 : perV A p 7 = g := ml.2.2
      have r2 : perV A p 8 = (if sentB A ((grps A).2 g) = true then 0 else 4) := by
        show rsn A p = _
        unfold rsn
        rw [if_pos ml.2.1, ml.2.2]
      have r3 : letV A g 2 = A (13 + p) := by
        show A (13 + ((grps A).2 g).headD 0) = A (13 + p)
        exact hd.symm
      simp (disch := omega) only [v213_294, v213_295, v213_296, v213_297, v213_300, v213_302, v213_304, v213_305, v213_307, v213_308, v213_309, v213_310, v213_311, v213_314, v213_315, v213_317, u213_319, Nat.add_zero, n_cl, n_in_t, n_lt_t, n_lt_f, n_eq_t, n_eq_f, n_sub, nI_add, n_mul, n_01, ↓reduceIte, if_true, if_false, eq_self, true_or, or_true, and_self, and_true, true_and, Nat.reduceAdd, Nat.reduceMul, Nat.reduceLeDiff, Nat.zero_le, not_true_eq_false, not_false_eq_true, cat2_n, cat2_i, cat2_r, ws_0, ws_i, ws_r, ws_l, ws_d, aftr_n, aftr_s, bI_ok, bI_t, bI_f, up_s, up_n, n_bit, decide_true, decide_false, Bool.not_true, Bool.not_false, Bool.and_true, Bool.true_and, Bool.false_and, Bool.and_false, n_nlt0, n_neg_t, n_neg_f, k_0, k_566, k_567, k_568, k_569, k_570, k_571, k_572, k_573, k_574, k_575, k_576, m0, k0, tb, leq_t]
      refine tPer (k := 7) hT (by omega) (by omega) r1 (fun I2 q2 T2 g2 => ?_)
      simp (disch := omega) only [v213_322, v213_324, v213_327, v213_328, v213_330, u213_332, Nat.add_zero, n_cl, n_in_t, n_lt_t, n_lt_f, n_eq_t, n_eq_f, n_sub, nI_add, n_mul, n_01, ↓reduceIte, if_true, if_false, eq_self, true_or, or_true, and_self, and_true, true_and, Nat.reduceAdd, Nat.reduceMul, Nat.reduceLeDiff, Nat.zero_le, not_true_eq_false, not_false_eq_true, cat2_n, cat2_i, cat2_r, ws_0, ws_i, ws_r, ws_l, ws_d, aftr_n, aftr_s, bI_ok, bI_t, bI_f, up_s, up_n, n_bit, decide_true, decide_false, Bool.not_true, Bool.not_false, Bool.and_true, Bool.true_and, Bool.false_and, Bool.and_false, n_nlt0, n_neg_t, n_neg_f, k_0, k_566, k_567, k_568, k_569, k_570, k_571, k_572, k_573, k_574, k_575, k_576, leq_t]
      refine tPer (k := 8) T2 (by omega) (by omega) r2 (fun I3 q3 T3 g3 => ?_)
      have last : X z 213 348 [some (.ref (ad b 0)), some (.int (nI (sd))), some (.ref (ad b 566)), some (.ref (ad b 567)), some (.ref (ad b 568)), some (.ref (ad b 569)), some (.ref (ad b 570)), some (.ref (ad b 571)), some (.ref (ad b 572)), some (.ref (ad b 573)), some (.ref (ad b 574)), some (.ref (ad b 575)), some (.ref (ad b 576)), some (.ref (ad b t)), x14, x15, x16, x17, some (.int (nI (g))), some (.int (bI (sentB A ((grps A).2 g)))), x20, some (.int v21), some (.int (nI (p)))] [] (c + 1 + 1, n + 6 + 6) (KAt KL b, I3, RAt RL b (q3), L, sz, ex) Q := by
        simp (disch := omega) only [v213_348, v213_349, v213_351, u213_352, Nat.add_zero, n_cl, n_in_t, n_lt_t, n_lt_f, n_eq_t, n_eq_f, n_sub, nI_add, n_mul, n_01, ↓reduceIte, if_true, if_false, eq_self, true_or, or_true, and_self, and_true, true_and, Nat.reduceAdd, Nat.reduceMul, Nat.reduceLeDiff, Nat.zero_le, not_true_eq_false, not_false_eq_true, cat2_n, cat2_i, cat2_r, ws_0, ws_i, ws_r, ws_l, ws_d, aftr_n, aftr_s, bI_ok, bI_t, bI_f, up_s, up_n, n_bit, decide_true, decide_false, Bool.not_true, Bool.not_false, Bool.and_true, Bool.true_and, Bool.false_and, Bool.and_false, n_nlt0, n_neg_t, n_neg_f, k_0, k_566, k_567, k_568, k_569, k_570, k_571, k_572, k_573, k_574, k_575, k_576, leq_t]
        refine tLet (k := 2) T3 hg (by omega) r3 (fun I4 q4 T4 g4 => ?_)
        have mp := (T4.2.2.2.2.2.1.2.1 p (by omega)).1
        simp (disch := omega) only [v213_355, v213_356, v213_358, v213_359, v213_362, v213_363, v213_364, v213_367, Nat.add_zero, n_cl, n_in_t, n_lt_t, n_lt_f, n_eq_t, n_eq_f, n_sub, nI_add, n_mul, n_01, ↓reduceIte, if_true, if_false, eq_self, true_or, or_true, and_self, and_true, true_and, Nat.reduceAdd, Nat.reduceMul, Nat.reduceLeDiff, Nat.zero_le, not_true_eq_false, not_false_eq_true, cat2_n, cat2_i, cat2_r, ws_0, ws_i, ws_r, ws_l, ws_d, aftr_n, aftr_s, bI_ok, bI_t, bI_f, up_s, up_n, n_bit, decide_true, decide_false, Bool.not_true, Bool.not_false, Bool.and_true, Bool.true_and, Bool.false_and, Bool.and_false, n_nlt0, n_neg_t, n_neg_f, k_0, k_566, k_567, k_568, k_569, k_570, k_571, k_572, k_573, k_574, k_575, k_576, mp]
        exact ih (p + 1) I4 q4 _ _ (by omega) (by omega) (by omega) T4 (((ho.cls ht g2).cls ht g3).cls ht g4) (((ga.tr g2).tr g3).tr g4)
      cases hs : sentB A ((grps A).2 g) with
      | true =>
        rw [hs, bI_t] at last
        simp (disch := omega) only [v213_335, v213_337, v213_340, v213_341, v213_344, v213_345, Nat.add_zero, n_cl, n_in_t, n_lt_t, n_lt_f, n_eq_t, n_eq_f, n_sub, nI_add, n_mul, n_01, ↓reduceIte, if_true, if_false, eq_self, true_or, or_true, and_self, and_true, true_and, Nat.reduceAdd, Nat.reduceMul, Nat.reduceLeDiff, Nat.zero_le, not_true_eq_false, not_false_eq_true, cat2_n, cat2_i, cat2_r, ws_0, ws_i, ws_r, ws_l, ws_d, aftr_n, aftr_s, bI_ok, bI_t, bI_f, up_s, up_n, n_bit, decide_true, decide_false, Bool.not_true, Bool.not_false, Bool.and_true, Bool.true_and, Bool.false_and, Bool.and_false, n_nlt0, n_neg_t, n_neg_f, k_0, k_566, k_567, k_568, k_569, k_570, k_571, k_572, k_573, k_574, k_575, k_576]
        exact last
      | false =>
        rw [hs, bI_f] at last
        simp (disch := omega) only [v213_335, v213_337, v213_340, v213_341, v213_344, v213_345, Nat.add_zero, n_cl, n_in_t, n_lt_t, n_lt_f, n_eq_t, n_eq_f, n_sub, nI_add, n_mul, n_01, ↓reduceIte, if_true, if_false, eq_self, true_or, or_true, and_self, and_true, true_and, Nat.reduceAdd, Nat.reduceMul, Nat.reduceLeDiff, Nat.zero_le, not_true_eq_false, not_false_eq_true, cat2_n, cat2_i, cat2_r, ws_0, ws_i, ws_r, ws_l, ws_d, aftr_n, aftr_s, bI_ok, bI_t, bI_f, up_s, up_n, n_bit, decide_true, decide_false, Bool.not_true, Bool.not_false, Bool.and_true, Bool.true_and, Bool.false_and, Bool.and_false, n_nlt0, n_neg_t, n_neg_f, k_0, k_566, k_567, k_568, k_569, k_570, k_571, k_572, k_573, k_574, k_575, k_576, Bool.false_eq_true]
        exact last
    · have tb : (maskL ((grps A).2 g)).testBit p = false := by rw [maskL_t]; exact decide_eq_false e
      simp (disch := omega) only [v213_294, v213_295, v213_296, v213_297, v213_300, v213_302, v213_304, v213_305, v213_307, v213_308, v213_309, v213_310, v213_311, v213_314, v213_315, v213_317, u213_319, v213_364, v213_367, Nat.add_zero, n_cl, n_in_t, n_lt_t, n_lt_f, n_eq_t, n_eq_f, n_sub, nI_add, n_mul, n_01, ↓reduceIte, if_true, if_false, eq_self, true_or, or_true, and_self, and_true, true_and, Nat.reduceAdd, Nat.reduceMul, Nat.reduceLeDiff, Nat.zero_le, not_true_eq_false, not_false_eq_true, cat2_n, cat2_i, cat2_r, ws_0, ws_i, ws_r, ws_l, ws_d, aftr_n, aftr_s, bI_ok, bI_t, bI_f, up_s, up_n, n_bit, decide_true, decide_false, Bool.not_true, Bool.not_false, Bool.and_true, Bool.true_and, Bool.false_and, Bool.and_false, n_nlt0, n_neg_t, n_neg_f, k_0, k_566, k_567, k_568, k_569, k_570, k_571, k_572, k_573, k_574, k_575, k_576, m0, k0, tb]
      exact ih (p + 1) I1 q1 c n (by omega) (by omega) (by omega) hT ho ga
end LM
