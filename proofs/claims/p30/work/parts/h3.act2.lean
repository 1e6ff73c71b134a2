/-! THE LAW: an act, the rest of the cases -/
theorem sub_1 {m : Nat} (h : m < 1000) : nI m - nI 1 = nI (if m = 0 then 4294967295 else m - 1) := by
  by_cases e : m = 0
  · rw [e, if_pos rfl]; decide +kernel
  · rw [if_neg e, n_sub (by omega)]
section LL
variable {z : P0} {KL : Nat → Nat × Nat} {RL : Nat → Nat → Option Nat} {q : Nat → Nat} {b : Nat} {I : Nat → Nat → Int32} {L : Nat → Nat → Int64} {sz : Nat} {ex : Bool} {Q : Res → Mem → Prop} {A : Row}
variable {n m D : Nat} {H : Nat → Row} {B : List Nat} {x y : Int32} {x14 x15 x16 : Option Value}
/-- one thing of a person is changed, and the class answers as the law has it -/
theorem WL.fld {o base p v : Nat} {I2 : Nat → Nat → Int32} {q2 : Nat → Nat} (hf : (o = 567 ∧ base = 13) ∨ (o = 568 ∧ base = 33) ∨ (o = 569 ∧ base = 53) ∨ (o = 570 ∧ base = 73)) (hW : WL KL RL z b I q (A, m, H, B) n D) (hp : p < A 6) (hv : v < 4294967296) (g2 : Ag pCls b (up2 I (ad b o) p (nI v)) I2) (w2 : CSt b I2 q2 (sv (A, m, H, B) (upr A (base + p) v))) (kg : GoodW (sv (A, m, H, B) (upr A (base + p) v))) : WL KL RL z b I2 q2 (sv (A, m, H, B) (upr A (base + p) v)) n D ∧ Ag pW b I I2 := by
  obtain ⟨hw, hg, hm, hz, hv0, hl, hlt, hD⟩ := hW
  have h6 := hg.1.1.1
  dsimp only at hm hl hlt hD h6
  have gW : Ag pW b I (up2 I (ad b o) p (nI v)) := Ag.rf.up (by unfold pW; omega)
  refine ⟨⟨w2, kg, hm.up hv, (hz.ag gW).ag g2, (hv0.ag gW).ag g2, (hl.fld (by omega) h6 hp).ag g2 pLw_c, hlt.up (by omega), ?_⟩, gW.tr (g2.mn pCls_w)⟩
  show upr A (base + p) v 8 ≤ D
  rw [upr_n (by omega)]
  exact hD
set_option maxHeartbeats 4000000 in
theorem h294 {p x13 : Nat} (hW : WL KL RL z b I q (A, m, H, B) n D) (hp : p < A 6) (hQ : ∀ I' q' w', WL KL RL z b I' q' w' n D → w'.2.1 = svN m → Ag pW b I I' → Q (.inl (some (.int (nI 1)))) (KAt KL b, I', RAt RL b (q'), L, sz, ex)) : X z 212 294 [some (.ref (ad b 0)), some (.int x), some (.int y), some (.ref (ad b 566)), some (.ref (ad b 567)), some (.ref (ad b 568)), some (.ref (ad b 569)), some (.ref (ad b 570)), some (.ref (ad b 571)), some (.ref (ad b 572)), some (.ref (ad b 573)), some (.ref (ad b 574)), some (.ref (ad b 575)), some (.int (nI (x13))), some (.int (nI (p))), x15, x16] [] (0, 0) (KAt KL b, I, RAt RL b q, L, sz, ex) Q := by
  have hW0 := hW
  obtain ⟨hw, hg, hm, hz, hv, hl, hlt, hD⟩ := hW
  dsimp only at hm hl hlt hD
  have h6 := hg.1.1.1
  have h7 := hg.1.1.2.1
  dsimp only at h6 h7
  have m1 := hl.1.1.2.1
  have mp := (hl.2.1 p hp).2.2.1
  have gp := (hg.1.2.2.1 p hp).2.2.1
  dsimp only at gp
  have v1 := atN_lt (v := y >>> (nI 5 &&& 31)) (show 0 < A 7 + 1 by omega)
  have hv2 : ∀ k, k < A 7 + 1 → (if k = 0 then 4294967295 else k - 1) = 4294967295 ∨ (if k = 0 then 4294967295 else k - 1) < A 7 := fun k hk => by split <;> omega
  have hv3 := hv2 _ v1
  simp (disch := omega) only [v212_294, v212_296, v212_298, v212_299, v212_301, v212_303, v212_305, v212_306, v212_307, v212_308, v212_309, v212_310, v212_311, v212_312, u212_313, v212_316, v212_317, v212_318, v212_319, v212_320, v212_322, v212_324, v212_326, u212_327, Nat.add_zero, n_cl, n_in_t, n_lt_t, n_lt_f, n_eq_t, n_eq_f, n_sub, nI_add, n_mul, n_01, ↓reduceIte, if_true, if_false, eq_self, true_or, or_true, and_self, and_true, true_and, Nat.reduceAdd, Nat.reduceMul, Nat.reduceLeDiff, Nat.zero_le, not_true_eq_false, not_false_eq_true, cat2_n, cat2_i, cat2_r, ws_0, ws_i, ws_r, ws_l, ws_d, aftr_n, aftr_s, bI_ok, bI_t, bI_f, up_s, up_n, n_bit, decide_true, decide_false, Bool.not_true, Bool.not_false, Bool.and_true, Bool.true_and, Bool.false_and, Bool.and_false, n_nlt0, n_neg_t, n_neg_f, k_0, k_566, k_567, k_568, k_569, k_570, k_571, k_572, k_573, k_574, k_575, k_576, leq_t, c193v, mp, m1, sub_1]
  generalize (if atN (y >>> (nI 5 &&& 31)) (A 7 + 1) = 0 then 4294967295 else atN (y >>> (nI 5 &&& 31)) (A 7 + 1) - 1) = v at hv3
  have gN : Ag pN b I (up2 I (ad b 569) p (nI v)) := Ag.rf.up (by unfold pN; omega)
  have op : opGive (A, m, H, B) p v = (0, A (53 + p), sv (A, m, H, B) (upr A (53 + p) v)) := by unfold opGive; rw [if_pos ⟨hp, hv3⟩]
  have kg : GoodW (sv (A, m, H, B) (upr A (53 + p) v)) := by
    have := k_Give (p := p) (v := v) hg
    rwa [op] at this
  refine c62 (by omega) (by omega) (hw.scr hg gN (fun o j h => by unfold pN at h; omega)) hg (CQ_ok op (fun I2 q2 w2 g2 => ?_))
  have r := hW0.fld (o := 569) (base := 53) (v := v) (by omega) hp (by omega) g2 w2 kg
  simp (disch := omega) only [v212_330, v212_332, v212_335, v212_336, v212_339, v212_340, Nat.add_zero, n_cl, n_in_t, n_lt_t, n_lt_f, n_eq_t, n_eq_f, n_sub, nI_add, n_mul, n_01, ↓reduceIte, if_true, if_false, eq_self, true_or, or_true, and_self, and_true, true_and, Nat.reduceAdd, Nat.reduceMul, Nat.reduceLeDiff, Nat.zero_le, not_true_eq_false, not_false_eq_true, cat2_n, cat2_i, cat2_r, ws_0, ws_i, ws_r, ws_l, ws_d, aftr_n, aftr_s, bI_ok, bI_t, bI_f, up_s, up_n, n_bit, decide_true, decide_false, Bool.not_true, Bool.not_false, Bool.and_true, Bool.true_and, Bool.false_and, Bool.and_false, n_nlt0, n_neg_t, n_neg_f, k_0, k_566, k_567, k_568, k_569, k_570, k_571, k_572, k_573, k_574, k_575, k_576]
  exact hQ I2 q2 _ r.1 rfl r.2
set_option maxHeartbeats 4000000 in
theorem h348 {p x13 : Nat} (hW : WL KL RL z b I q (A, m, H, B) n D) (hp : p < A 6) (hQ : ∀ I' q' w', WL KL RL z b I' q' w' n D → w'.2.1 = svN m → Ag pW b I I' → Q (.inl (some (.int (nI 1)))) (KAt KL b, I', RAt RL b (q'), L, sz, ex)) : X z 212 348 [some (.ref (ad b 0)), some (.int x), some (.int y), some (.ref (ad b 566)), some (.ref (ad b 567)), some (.ref (ad b 568)), some (.ref (ad b 569)), some (.ref (ad b 570)), some (.ref (ad b 571)), some (.ref (ad b 572)), some (.ref (ad b 573)), some (.ref (ad b 574)), some (.ref (ad b 575)), some (.int (nI (x13))), some (.int (nI (p))), x15, x16] [] (0, 0) (KAt KL b, I, RAt RL b q, L, sz, ex) Q := by
  have hW0 := hW
  obtain ⟨hw, hg, hm, hz, hv, hl, hlt, hD⟩ := hW
  dsimp only at hm hl hlt hD
  have h6 := hg.1.1.1
  dsimp only at h6
  have mp := (hl.2.1 p hp).1
  have gp := (hg.1.2.2.1 p hp).1
  dsimp only at gp
  have v1 := atN_lt (v := y >>> (nI 5 &&& 31)) (show 0 < 3 by omega)
  simp (disch := omega) only [v212_348, v212_350, v212_352, v212_353, v212_355, v212_357, v212_359, v212_360, v212_361, v212_362, u212_363, v212_366, v212_367, v212_368, v212_370, v212_372, v212_374, u212_375, Nat.add_zero, n_cl, n_in_t, n_lt_t, n_lt_f, n_eq_t, n_eq_f, n_sub, nI_add, n_mul, n_01, ↓reduceIte, if_true, if_false, eq_self, true_or, or_true, and_self, and_true, true_and, Nat.reduceAdd, Nat.reduceMul, Nat.reduceLeDiff, Nat.zero_le, not_true_eq_false, not_false_eq_true, cat2_n, cat2_i, cat2_r, ws_0, ws_i, ws_r, ws_l, ws_d, aftr_n, aftr_s, bI_ok, bI_t, bI_f, up_s, up_n, n_bit, decide_true, decide_false, Bool.not_true, Bool.not_false, Bool.and_true, Bool.true_and, Bool.false_and, Bool.and_false, n_nlt0, n_neg_t, n_neg_f, k_0, k_566, k_567, k_568, k_569, k_570, k_571, k_572, k_573, k_574, k_575, k_576, leq_t, c193v, mp]
  generalize atN (y >>> (nI 5 &&& 31)) 3 = v at v1
  have gN : Ag pN b I (up2 I (ad b 567) p (nI v)) := Ag.rf.up (by unfold pN; omega)
  have op : opMove (A, m, H, B) p v = (0, A (13 + p), sv (A, m, H, B) (upr A (13 + p) v)) := by unfold opMove; rw [if_pos hp, if_pos (by omega)]
  have kg : GoodW (sv (A, m, H, B) (upr A (13 + p) v)) := by
    have := k_Move (p := p) (a := v) hg
    rwa [op] at this
  refine c61 (by omega) (by omega) (hw.scr hg gN (fun o j h => by unfold pN at h; omega)) hg (CQ_ok op (fun I2 q2 w2 g2 => ?_))
  have r := hW0.fld (o := 567) (base := 13) (v := v) (by omega) hp (by omega) g2 w2 kg
  simp (disch := omega) only [v212_378, v212_380, v212_383, v212_384, v212_387, v212_388, Nat.add_zero, n_cl, n_in_t, n_lt_t, n_lt_f, n_eq_t, n_eq_f, n_sub, nI_add, n_mul, n_01, ↓reduceIte, if_true, if_false, eq_self, true_or, or_true, and_self, and_true, true_and, Nat.reduceAdd, Nat.reduceMul, Nat.reduceLeDiff, Nat.zero_le, not_true_eq_false, not_false_eq_true, cat2_n, cat2_i, cat2_r, ws_0, ws_i, ws_r, ws_l, ws_d, aftr_n, aftr_s, bI_ok, bI_t, bI_f, up_s, up_n, n_bit, decide_true, decide_false, Bool.not_true, Bool.not_false, Bool.and_true, Bool.true_and, Bool.false_and, Bool.and_false, n_nlt0, n_neg_t, n_neg_f, k_0, k_566, k_567, k_568, k_569, k_570, k_571, k_572, k_573, k_574, k_575, k_576]
  exact hQ I2 q2 _ r.1 rfl r.2
/-- the unsubscribed ones are summed up -/
theorem l212u {A' : Row} {x13 p cc cn : Nat} (h6 : A' 6 ≤ 20) (m0 : I (ad b 566) 0 = nI (A' 6)) (mg : ∀ k, k < A' 6 → I (ad b 570) k = nI (A' (73 + k))) : ∀ d k c, k + d = A' 6 → X z 212 422 [some (.ref (ad b 0)), some (.int x), some (.int y), some (.ref (ad b 566)), some (.ref (ad b 567)), some (.ref (ad b 568)), some (.ref (ad b 569)), some (.ref (ad b 570)), some (.ref (ad b 571)), some (.ref (ad b 572)), some (.ref (ad b 573)), some (.ref (ad b 574)), some (.ref (ad b 575)), some (.int (nI (x13))), some (.int (nI (p))), some (.int (nI (c))), some (.int (nI (k)))] [] (cc, cn) (KAt KL b, I, RAt RL b q, L, sz, ex) Q = X z 212 446 [some (.ref (ad b 0)), some (.int x), some (.int y), some (.ref (ad b 566)), some (.ref (ad b 567)), some (.ref (ad b 568)), some (.ref (ad b 569)), some (.ref (ad b 570)), some (.ref (ad b 571)), some (.ref (ad b 572)), some (.ref (ad b 573)), some (.ref (ad b 574)), some (.ref (ad b 575)), some (.int (nI (x13))), some (.int (nI (p))), some (.int (nI (c + sumF (fun k => A' (73 + k)) k d))), some (.int (nI (A' 6)))] [] (cc, cn) (KAt KL b, I, RAt RL b q, L, sz, ex) Q := by
  intro d
  induction d with
  | zero =>
    intro k c h
    obtain rfl : k = A' 6 := by omega
    rw [v212_422]
    simp (disch := omega) only [v212_424, v212_425, v212_426, v212_427, v212_430, v212_432, v212_434, v212_436, v212_437, v212_438, v212_440, v212_443, Nat.add_zero, n_cl, n_in_t, n_lt_t, n_lt_f, n_eq_t, n_eq_f, n_sub, nI_add, n_mul, n_01, ↓reduceIte, if_true, if_false, eq_self, true_or, or_true, and_self, and_true, true_and, Nat.reduceAdd, Nat.reduceMul, Nat.reduceLeDiff, Nat.zero_le, not_true_eq_false, not_false_eq_true, cat2_n, cat2_i, cat2_r, ws_0, ws_i, ws_r, ws_l, ws_d, aftr_n, aftr_s, bI_ok, bI_t, bI_f, up_s, up_n, n_bit, decide_true, decide_false, Bool.not_true, Bool.not_false, Bool.and_true, Bool.true_and, Bool.false_and, Bool.and_false, n_nlt0, n_neg_t, n_neg_f, k_0, k_566, k_567, k_568, k_569, k_570, k_571, k_572, k_573, k_574, k_575, k_576, m0]
    rfl
  | succ d ih =>
    intro k c h
    have mk := mg k (by omega)
    rw [v212_422]
    unfold sumF
    simp (disch := omega) only [v212_424, v212_425, v212_426, v212_427, v212_430, v212_432, v212_434, v212_436, v212_437, v212_438, v212_440, v212_443, Nat.add_zero, n_cl, n_in_t, n_lt_t, n_lt_f, n_eq_t, n_eq_f, n_sub, nI_add, n_mul, n_01, ↓reduceIte, if_true, if_false, eq_self, true_or, or_true, and_self, and_true, true_and, Nat.reduceAdd, Nat.reduceMul, Nat.reduceLeDiff, Nat.zero_le, not_true_eq_false, not_false_eq_true, cat2_n, cat2_i, cat2_r, ws_0, ws_i, ws_r, ws_l, ws_d, aftr_n, aftr_s, bI_ok, bI_t, bI_f, up_s, up_n, n_bit, decide_true, decide_false, Bool.not_true, Bool.not_false, Bool.and_true, Bool.true_and, Bool.false_and, Bool.and_false, n_nlt0, n_neg_t, n_neg_f, k_0, k_566, k_567, k_568, k_569, k_570, k_571, k_572, k_573, k_574, k_575, k_576, m0, mk, ih (k + 1), Nat.add_assoc]
set_option maxHeartbeats 4000000 in
theorem h396 {p x13 : Nat} (hW : WL KL RL z b I q (A, m, H, B) n D) (hp : p < A 6) (hQ : ∀ I' q' w', WL KL RL z b I' q' w' n D → w'.2.1 = svN m → Ag pW b I I' → Q (.inl (some (.int (nI 1)))) (KAt KL b, I', RAt RL b (q'), L, sz, ex)) : X z 212 396 [some (.ref (ad b 0)), some (.int x), some (.int y), some (.ref (ad b 566)), some (.ref (ad b 567)), some (.ref (ad b 568)), some (.ref (ad b 569)), some (.ref (ad b 570)), some (.ref (ad b 571)), some (.ref (ad b 572)), some (.ref (ad b 573)), some (.ref (ad b 574)), some (.ref (ad b 575)), some (.int (nI (x13))), some (.int (nI (p))), x15, x16] [] (0, 0) (KAt KL b, I, RAt RL b q, L, sz, ex) Q := by
  have hW0 := hW
  obtain ⟨hw, hg, hm, hz, hv, hl, hlt, hD⟩ := hW
  dsimp only at hm hl hlt hD
  have h6 := hg.1.1.1
  dsimp only at h6
  have fin : ∀ v, v ≤ 1 → X z 212 416 [some (.ref (ad b 0)), some (.int x), some (.int y), some (.ref (ad b 566)), some (.ref (ad b 567)), some (.ref (ad b 568)), some (.ref (ad b 569)), some (.ref (ad b 570)), some (.ref (ad b 571)), some (.ref (ad b 572)), some (.ref (ad b 573)), some (.ref (ad b 574)), some (.ref (ad b 575)), some (.int (nI (x13))), some (.int (nI (p))), x15, x16] [] (0, 0) (KAt KL b, up2 I (ad b 570) p (nI v), RAt RL b q, L, sz, ex) Q := by
    intro v hv1
    have lf := hl.fld (o := 570) (base := 73) (v := v) (by omega) h6 hp
    have op : opUns (A, m, H, B) p v = (0, gone (upr A (73 + p) v), sv (A, m, H, B) (upr A (73 + p) v)) := by unfold opUns; rw [if_pos hp]
    have kg : GoodW (sv (A, m, H, B) (upr A (73 + p) v)) := by
      have := k_Uns (p := p) hv1 hg
      rwa [op] at this
    have gN : Ag pN b I (up2 I (ad b 570) p (nI v)) := Ag.rf.up (by unfold pN; omega)
    have e6 : upr A (73 + p) v 6 = A 6 := upr_n (by omega)
    have m0 := lf.1.1.1
    have mg : ∀ k, k < upr A (73 + p) v 6 → up2 I (ad b 570) p (nI v) (ad b 570) k = nI (upr A (73 + p) v (73 + k)) := fun k hk => (lf.2.1 k hk).2.2.2.1
    have gl : gone (upr A (73 + p) v) = sumF (fun k => upr A (73 + p) v (73 + k)) 0 (upr A (73 + p) v 6) := rfl
    rw [gl] at op
    simp (disch := omega) only [v212_416, v212_417, v212_419, v212_420, Nat.add_zero, n_cl, n_in_t, n_lt_t, n_lt_f, n_eq_t, n_eq_f, n_sub, nI_add, n_mul, n_01, ↓reduceIte, if_true, if_false, eq_self, true_or, or_true, and_self, and_true, true_and, Nat.reduceAdd, Nat.reduceMul, Nat.reduceLeDiff, Nat.zero_le, not_true_eq_false, not_false_eq_true, cat2_n, cat2_i, cat2_r, ws_0, ws_i, ws_r, ws_l, ws_d, aftr_n, aftr_s, bI_ok, bI_t, bI_f, up_s, up_n, n_bit, decide_true, decide_false, Bool.not_true, Bool.not_false, Bool.and_true, Bool.true_and, Bool.false_and, Bool.and_false, n_nlt0, n_neg_t, n_neg_f, k_0, k_566, k_567, k_568, k_569, k_570, k_571, k_572, k_573, k_574, k_575, k_576]
    rw [l212u (A' := upr A (73 + p) v) (by omega) m0 mg (upr A (73 + p) v 6) 0 0 (by omega), Nat.zero_add]
    have call : X z 63 0 [some (.ref (ad b 0)), some (.int (nI (p))), some (.int (nI (v)))] [] (0, 0) (KAt KL b, up2 I (ad b 570) p (nI v), RAt RL b q, L, sz, ex) (aftr (X z) mT 212 463 [some (.ref (ad b 0)), some (.int x), some (.int y), some (.ref (ad b 566)), some (.ref (ad b 567)), some (.ref (ad b 568)), some (.ref (ad b 569)), some (.ref (ad b 570)), some (.ref (ad b 571)), some (.ref (ad b 572)), some (.ref (ad b 573)), some (.ref (ad b 574)), some (.ref (ad b 575)), some (.int (nI (x13))), some (.int (nI (p))), some (.int (nI (sumF (fun k => upr A (73 + p) v (73 + k)) 0 (upr A (73 + p) v 6)))), some (.int (nI (upr A (73 + p) v 6)))] [] (0 + 1, 0 + 6) Q) := by
      refine c63 (by omega) hv1 (hw.scr hg gN (fun o j h => by unfold pN at h; omega)) hg (CQ_ok op (fun I2 q2 w2 g2 => ?_))
      have r := hW0.fld (o := 570) (base := 73) (v := v) (by omega) hp (by omega) g2 w2 kg
      simp (disch := omega) only [v212_466, v212_468, v212_471, v212_472, v212_475, v212_476, Nat.add_zero, n_cl, n_in_t, n_lt_t, n_lt_f, n_eq_t, n_eq_f, n_sub, nI_add, n_mul, n_01, ↓reduceIte, if_true, if_false, eq_self, true_or, or_true, and_self, and_true, true_and, Nat.reduceAdd, Nat.reduceMul, Nat.reduceLeDiff, Nat.zero_le, not_true_eq_false, not_false_eq_true, cat2_n, cat2_i, cat2_r, ws_0, ws_i, ws_r, ws_l, ws_d, aftr_n, aftr_s, bI_ok, bI_t, bI_f, up_s, up_n, n_bit, decide_true, decide_false, Bool.not_true, Bool.not_false, Bool.and_true, Bool.true_and, Bool.false_and, Bool.and_false, n_nlt0, n_neg_t, n_neg_f, k_0, k_566, k_567, k_568, k_569, k_570, k_571, k_572, k_573, k_574, k_575, k_576]
      exact hQ I2 q2 _ r.1 rfl r.2
    rcases (show v = 0 ∨ v = 1 by omega) with rfl | rfl
    · simp (disch := omega) only [v212_446, v212_447, v212_449, v212_451, v212_453, v212_454, v212_455, v212_458, v212_459, v212_462, u212_463, Nat.add_zero, n_cl, n_in_t, n_lt_t, n_lt_f, n_eq_t, n_eq_f, n_sub, nI_add, n_mul, n_01, ↓reduceIte, if_true, if_false, eq_self, true_or, or_true, and_self, and_true, true_and, Nat.reduceAdd, Nat.reduceMul, Nat.reduceLeDiff, Nat.zero_le, not_true_eq_false, not_false_eq_true, cat2_n, cat2_i, cat2_r, ws_0, ws_i, ws_r, ws_l, ws_d, aftr_n, aftr_s, bI_ok, bI_t, bI_f, up_s, up_n, n_bit, decide_true, decide_false, Bool.not_true, Bool.not_false, Bool.and_true, Bool.true_and, Bool.false_and, Bool.and_false, n_nlt0, n_neg_t, n_neg_f, k_0, k_566, k_567, k_568, k_569, k_570, k_571, k_572, k_573, k_574, k_575, k_576, leq_t]
      exact call
    · simp (disch := omega) only [v212_446, v212_447, v212_449, v212_451, v212_453, v212_454, v212_455, v212_458, v212_459, v212_462, u212_463, Nat.add_zero, n_cl, n_in_t, n_lt_t, n_lt_f, n_eq_t, n_eq_f, n_sub, nI_add, n_mul, n_01, ↓reduceIte, if_true, if_false, eq_self, true_or, or_true, and_self, and_true, true_and, Nat.reduceAdd, Nat.reduceMul, Nat.reduceLeDiff, Nat.zero_le, not_true_eq_false, not_false_eq_true, cat2_n, cat2_i, cat2_r, ws_0, ws_i, ws_r, ws_l, ws_d, aftr_n, aftr_s, bI_ok, bI_t, bI_f, up_s, up_n, n_bit, decide_true, decide_false, Bool.not_true, Bool.not_false, Bool.and_true, Bool.true_and, Bool.false_and, Bool.and_false, n_nlt0, n_neg_t, n_neg_f, k_0, k_566, k_567, k_568, k_569, k_570, k_571, k_572, k_573, k_574, k_575, k_576, leq_t]
      exact call
  by_cases e : atN (y >>> (nI 5 &&& 31)) 4 = 0
  · have f := fin 1 (by omega)
    simp (disch := omega) only [v212_396, v212_398, v212_400, v212_401, v212_402, v212_403, u212_404, v212_407, v212_410, v212_411, v212_414, v212_415, Nat.add_zero, n_cl, n_in_t, n_lt_t, n_lt_f, n_eq_t, n_eq_f, n_sub, nI_add, n_mul, n_01, ↓reduceIte, if_true, if_false, eq_self, true_or, or_true, and_self, and_true, true_and, Nat.reduceAdd, Nat.reduceMul, Nat.reduceLeDiff, Nat.zero_le, not_true_eq_false, not_false_eq_true, cat2_n, cat2_i, cat2_r, ws_0, ws_i, ws_r, ws_l, ws_d, aftr_n, aftr_s, bI_ok, bI_t, bI_f, up_s, up_n, n_bit, decide_true, decide_false, Bool.not_true, Bool.not_false, Bool.and_true, Bool.true_and, Bool.false_and, Bool.and_false, n_nlt0, n_neg_t, n_neg_f, k_0, k_566, k_567, k_568, k_569, k_570, k_571, k_572, k_573, k_574, k_575, k_576, leq_t, c193v, e]
    exact f
  · have v1 := atN_lt (v := y >>> (nI 5 &&& 31)) (show 0 < 4 by omega)
    have f := fin 0 (by omega)
    simp (disch := omega) only [v212_396, v212_398, v212_400, v212_401, v212_402, v212_403, u212_404, v212_407, v212_410, v212_411, v212_414, v212_415, Nat.add_zero, n_cl, n_in_t, n_lt_t, n_lt_f, n_eq_t, n_eq_f, n_sub, nI_add, n_mul, n_01, ↓reduceIte, if_true, if_false, eq_self, true_or, or_true, and_self, and_true, true_and, Nat.reduceAdd, Nat.reduceMul, Nat.reduceLeDiff, Nat.zero_le, not_true_eq_false, not_false_eq_true, cat2_n, cat2_i, cat2_r, ws_0, ws_i, ws_r, ws_l, ws_d, aftr_n, aftr_s, bI_ok, bI_t, bI_f, up_s, up_n, n_bit, decide_true, decide_false, Bool.not_true, Bool.not_false, Bool.and_true, Bool.true_and, Bool.false_and, Bool.and_false, n_nlt0, n_neg_t, n_neg_f, k_0, k_566, k_567, k_568, k_569, k_570, k_571, k_572, k_573, k_574, k_575, k_576, leq_t, c193v]
    exact f
set_option maxHeartbeats 4000000 in
theorem h484 {p x13 : Nat} (hW : WL KL RL z b I q (A, m, H, B) n D) (hDm : D ≤ 9000) (hQ : ∀ I' q' w', WL KL RL z b I' q' w' n (D + 9) → w'.2.1 = svN m → Ag pW b I I' → Q (.inl (some (.int (nI 1)))) (KAt KL b, I', RAt RL b (q'), L, sz, ex)) : X z 212 484 [some (.ref (ad b 0)), some (.int x), some (.int y), some (.ref (ad b 566)), some (.ref (ad b 567)), some (.ref (ad b 568)), some (.ref (ad b 569)), some (.ref (ad b 570)), some (.ref (ad b 571)), some (.ref (ad b 572)), some (.ref (ad b 573)), some (.ref (ad b 574)), some (.ref (ad b 575)), some (.int (nI (x13))), some (.int (nI (p))), x15, x16] [] (0, 0) (KAt KL b, I, RAt RL b q, L, sz, ex) Q := by
  obtain ⟨hw, hg, hm, hz, hv, hl, hlt, hD⟩ := hW
  dsimp only at hm hl hlt hD
  have m3 := hl.1.1.2.2.2.1
  have v1 := atN_lt (v := y) (show 0 < 9 by omega)
  simp (disch := omega) only [v212_484, v212_485, v212_486, u212_488, v212_491, v212_492, v212_494, v212_495, v212_496, v212_497, v212_498, v212_500, v212_501, v212_502, v212_503, u212_505, Nat.add_zero, n_cl, n_in_t, n_lt_t, n_lt_f, n_eq_t, n_eq_f, n_sub, nI_add, n_mul, n_01, ↓reduceIte, if_true, if_false, eq_self, true_or, or_true, and_self, and_true, true_and, Nat.reduceAdd, Nat.reduceMul, Nat.reduceLeDiff, Nat.zero_le, not_true_eq_false, not_false_eq_true, cat2_n, cat2_i, cat2_r, ws_0, ws_i, ws_r, ws_l, ws_d, aftr_n, aftr_s, bI_ok, bI_t, bI_f, up_s, up_n, n_bit, decide_true, decide_false, Bool.not_true, Bool.not_false, Bool.and_true, Bool.true_and, Bool.false_and, Bool.and_false, n_nlt0, n_neg_t, n_neg_f, k_0, k_566, k_567, k_568, k_569, k_570, k_571, k_572, k_573, k_574, k_575, k_576, leq_t, c193v, m3]
  generalize atN y 9 = v at v1
  have gN : Ag pN b I (up2 I (ad b 566) 3 (nI (A 8 + (1 + v)))) := Ag.rf.up (by unfold pN; omega)
  have gW : Ag pW b I (up2 I (ad b 566) 3 (nI (A 8 + (1 + v)))) := Ag.rf.up (by unfold pW; omega)
  have op : opPass (A, m, H, B) (1 + v) = (0, A 8 + (1 + v), sv (A, m, H, B) (upr A 8 (A 8 + (1 + v)))) := by unfold opPass; rw [if_pos (by omega), if_pos (by dsimp only; omega)]
  have kg : GoodW (sv (A, m, H, B) (upr A 8 (A 8 + (1 + v)))) := by
    have := k_Pass (d := 1 + v) hg
    rwa [op] at this
  refine c66 (by omega) (hw.scr hg gN (fun o j h => by unfold pN at h; omega)) hg (CQ_ok op (fun I2 q2 w2 g2 => ?_))
  have l3 := (hl.day (v := A 8 + (1 + v))).ag g2 pLw_c
  have m3' : I2 (ad b 566) 3 = nI (A 8 + (1 + v)) := (g2.at (fun x => by unfold pCls at x; omega)).trans up_s
  simp (disch := omega) only [v212_508, v212_509, v212_510, v212_511, v212_514, v212_515, v212_518, v212_519, Nat.add_zero, n_cl, n_in_t, n_lt_t, n_lt_f, n_eq_t, n_eq_f, n_sub, nI_add, n_mul, n_01, ↓reduceIte, if_true, if_false, eq_self, true_or, or_true, and_self, and_true, true_and, Nat.reduceAdd, Nat.reduceMul, Nat.reduceLeDiff, Nat.zero_le, not_true_eq_false, not_false_eq_true, cat2_n, cat2_i, cat2_r, ws_0, ws_i, ws_r, ws_l, ws_d, aftr_n, aftr_s, bI_ok, bI_t, bI_f, up_s, up_n, n_bit, decide_true, decide_false, Bool.not_true, Bool.not_false, Bool.and_true, Bool.true_and, Bool.false_and, Bool.and_false, n_nlt0, n_neg_t, n_neg_f, k_0, k_566, k_567, k_568, k_569, k_570, k_571, k_572, k_573, k_574, k_575, k_576, m3']
  refine hQ I2 q2 _ ⟨w2, kg, hm.up (by omega), (hz.ag gW).ag g2, (hv.ag gW).ag g2, l3, hlt.up (by omega), ?_⟩ rfl (gW.tr (g2.mn pCls_w))
  show upr A 8 (A 8 + (1 + v)) 8 ≤ D + 9
  rw [upr_s]
  omega
set_option maxHeartbeats 4000000 in
theorem h520 {p x13 : Nat} (hW : WL KL RL z b I q (A, m, H, B) n D) (hQ : ∀ I' q' w', WL KL RL z b I' q' w' n D → w'.2.1 = svN m → Ag pW b I I' → Q (.inl (some (.int (nI 1)))) (KAt KL b, I', RAt RL b (q'), L, sz, ex)) : X z 212 520 [some (.ref (ad b 0)), some (.int x), some (.int y), some (.ref (ad b 566)), some (.ref (ad b 567)), some (.ref (ad b 568)), some (.ref (ad b 569)), some (.ref (ad b 570)), some (.ref (ad b 571)), some (.ref (ad b 572)), some (.ref (ad b 573)), some (.ref (ad b 574)), some (.ref (ad b 575)), some (.int (nI (x13))), some (.int (nI (p))), x15, x16] [] (0, 0) (KAt KL b, I, RAt RL b q, L, sz, ex) Q := by
  obtain ⟨hw, hg, hm, hz, hv, hl, hlt, hD⟩ := hW
  dsimp only at hm hl hlt hD
  have v1 := atN_lt (v := y) (show 0 < 6 by omega)
  have w36 := atN_lt (v := y >>> (nI 3 &&& 31)) (show 0 < 36 by omega)
  have w6 := atN_lt (v := y >>> (nI 3 &&& 31)) (show 0 < 6 by omega)
  have w12 := atN_lt (v := y >>> (nI 3 &&& 31)) (show 0 < 12 by omega)
  have w9 := atN_lt (v := y >>> (nI 3 &&& 31)) (show 0 < 9 by omega)
  have w20 := atN_lt (v := y >>> (nI 3 &&& 31)) (show 0 < 20 by omega)
  have fin : ∀ k v, k < 6 → okV k v = true → v ≤ 1000 → X z 212 626 [some (.ref (ad b 0)), some (.int x), some (.int y), some (.ref (ad b 566)), some (.ref (ad b 567)), some (.ref (ad b 568)), some (.ref (ad b 569)), some (.ref (ad b 570)), some (.ref (ad b 571)), some (.ref (ad b 572)), some (.ref (ad b 573)), some (.ref (ad b 574)), some (.ref (ad b 575)), some (.int (nI (x13))), some (.int (nI (p))), some (.int (nI (k))), some (.int (nI (A k)))] [.int (nI v), .int (nI (8 + k)), .ref (ad b 566)] (0, 0) (KAt KL b, I, RAt RL b q, L, sz, ex) Q := by
    intro k v hk hok hv1
    have gN : Ag pN b I (up2 I (ad b 566) (8 + k) (nI v)) := Ag.rf.up (by unfold pN; omega)
    have gW : Ag pW b I (up2 I (ad b 566) (8 + k) (nI v)) := Ag.rf.up (by unfold pW; omega)
    have op : opSet (A, m, H, B) k v = (0, A k, sv (A, m, H, B) (upr A k v)) := by unfold opSet; rw [if_pos (by omega), if_pos hok]
    have kg : GoodW (sv (A, m, H, B) (upr A k v)) := by
      have := k_Set (k := k) (v := v) hg
      rwa [op] at this
    simp (disch := omega) only [v212_626, v212_627, v212_628, v212_630, v212_631, v212_633, v212_635, v212_636, u212_637, Nat.add_zero, n_cl, n_in_t, n_lt_t, n_lt_f, n_eq_t, n_eq_f, n_sub, nI_add, n_mul, n_01, ↓reduceIte, if_true, if_false, eq_self, true_or, or_true, and_self, and_true, true_and, Nat.reduceAdd, Nat.reduceMul, Nat.reduceLeDiff, Nat.zero_le, not_true_eq_false, not_false_eq_true, cat2_n, cat2_i, cat2_r, ws_0, ws_i, ws_r, ws_l, ws_d, aftr_n, aftr_s, bI_ok, bI_t, bI_f, up_s, up_n, n_bit, decide_true, decide_false, Bool.not_true, Bool.not_false, Bool.and_true, Bool.true_and, Bool.false_and, Bool.and_false, n_nlt0, n_neg_t, n_neg_f, k_0, k_566, k_567, k_568, k_569, k_570, k_571, k_572, k_573, k_574, k_575, k_576, leq_t]
    refine c64 (by omega) (by omega) (hv.ag gN) (hw.scr hg gN (fun o j h => by unfold pN at h; omega)) hg (CQ_ok op (fun I2 q2 w2 g2 => ?_))
    simp (disch := omega) only [v212_640, v212_642, v212_645, v212_646, v212_649, v212_650, Nat.add_zero, n_cl, n_in_t, n_lt_t, n_lt_f, n_eq_t, n_eq_f, n_sub, nI_add, n_mul, n_01, ↓reduceIte, if_true, if_false, eq_self, true_or, or_true, and_self, and_true, true_and, Nat.reduceAdd, Nat.reduceMul, Nat.reduceLeDiff, Nat.zero_le, not_true_eq_false, not_false_eq_true, cat2_n, cat2_i, cat2_r, ws_0, ws_i, ws_r, ws_l, ws_d, aftr_n, aftr_s, bI_ok, bI_t, bI_f, up_s, up_n, n_bit, decide_true, decide_false, Bool.not_true, Bool.not_false, Bool.and_true, Bool.true_and, Bool.false_and, Bool.and_false, n_nlt0, n_neg_t, n_neg_f, k_0, k_566, k_567, k_568, k_569, k_570, k_571, k_572, k_573, k_574, k_575, k_576]
    refine hQ I2 q2 _ ⟨w2, kg, hm.up (by omega), (hz.ag gW).ag g2, (hv.ag gW).ag g2, (hl.set hk).ag g2 pLw_c, hlt.up (by omega), ?_⟩ rfl (gW.tr (g2.mn pCls_w))
    show upr A k v 8 ≤ D
    rw [upr_n (by omega)]
    exact hD
  have mk : ∀ k, k < 6 → I (ad b 566) (8 + k) = nI (A k) := hl.1.2
  have m8 : I (ad b 566) 8 = nI (A 0) := mk 0 (by omega)
  have m9 : I (ad b 566) 9 = nI (A 1) := mk 1 (by omega)
  have m10 : I (ad b 566) 10 = nI (A 2) := mk 2 (by omega)
  have m11 : I (ad b 566) 11 = nI (A 3) := mk 3 (by omega)
  have m12 : I (ad b 566) 12 = nI (A 4) := mk 4 (by omega)
  have m13 : I (ad b 566) 13 = nI (A 5) := mk 5 (by omega)
  simp (disch := omega) only [v212_520, v212_521, u212_523, v212_526, Nat.add_zero, n_cl, n_in_t, n_lt_t, n_lt_f, n_eq_t, n_eq_f, n_sub, nI_add, n_mul, n_01, ↓reduceIte, if_true, if_false, eq_self, true_or, or_true, and_self, and_true, true_and, Nat.reduceAdd, Nat.reduceMul, Nat.reduceLeDiff, Nat.zero_le, not_true_eq_false, not_false_eq_true, cat2_n, cat2_i, cat2_r, ws_0, ws_i, ws_r, ws_l, ws_d, aftr_n, aftr_s, bI_ok, bI_t, bI_f, up_s, up_n, n_bit, decide_true, decide_false, Bool.not_true, Bool.not_false, Bool.and_true, Bool.true_and, Bool.false_and, Bool.and_false, n_nlt0, n_neg_t, n_neg_f, k_0, k_566, k_567, k_568, k_569, k_570, k_571, k_572, k_573, k_574, k_575, k_576, leq_t, c193v]
  generalize atN y 6 = k at v1
  rcases (show k = 0 ∨ k = 1 ∨ k = 2 ∨ k = 3 ∨ k = 4 ∨ k = 5 by omega) with rfl | rfl | rfl | rfl | rfl | rfl
  · have f := fin 0 (5 + atN (y >>> (nI 3 &&& 31)) 36) (by omega) (by unfold okV; rw [if_pos rfl]; exact decide_eq_true (by omega)) (by omega)
    simp (disch := omega) only [v212_528, v212_529, v212_531, v212_533, v212_534, v212_535, v212_537, v212_538, v212_540, v212_542, v212_543, v212_545, v212_548, v212_549, v212_550, v212_551, v212_552, u212_554, v212_557, v212_558, v212_561, v212_563, v212_564, v212_567, v212_568, v212_569, v212_570, v212_571, u212_573, v212_576, v212_577, v212_580, v212_582, v212_583, v212_586, v212_587, v212_588, v212_589, u212_591, v212_594, v212_597, v212_599, v212_600, v212_603, v212_604, v212_605, v212_606, v212_607, u212_609, v212_612, v212_613, v212_616, v212_617, v212_618, v212_619, v212_620, u212_622, v212_625, Nat.add_zero, n_cl, n_in_t, n_lt_t, n_lt_f, n_eq_t, n_eq_f, n_sub, nI_add, n_mul, n_01, ↓reduceIte, if_true, if_false, eq_self, true_or, or_true, and_self, and_true, true_and, Nat.reduceAdd, Nat.reduceMul, Nat.reduceLeDiff, Nat.zero_le, not_true_eq_false, not_false_eq_true, cat2_n, cat2_i, cat2_r, ws_0, ws_i, ws_r, ws_l, ws_d, aftr_n, aftr_s, bI_ok, bI_t, bI_f, up_s, up_n, n_bit, decide_true, decide_false, Bool.not_true, Bool.not_false, Bool.and_true, Bool.true_and, Bool.false_and, Bool.and_false, n_nlt0, n_neg_t, n_neg_f, k_0, k_566, k_567, k_568, k_569, k_570, k_571, k_572, k_573, k_574, k_575, k_576, leq_t, c193v, m8]
    exact f
  · have f := fin 1 (1 + atN (y >>> (nI 3 &&& 31)) 20) (by omega) (by unfold okV; rw [if_neg (by omega), if_neg (by omega), if_neg (by omega), if_neg (by omega)]; exact decide_eq_true (by omega)) (by omega)
    simp (disch := omega) only [v212_528, v212_529, v212_531, v212_533, v212_534, v212_535, v212_537, v212_538, v212_540, v212_542, v212_543, v212_545, v212_548, v212_549, v212_550, v212_551, v212_552, u212_554, v212_557, v212_558, v212_561, v212_563, v212_564, v212_567, v212_568, v212_569, v212_570, v212_571, u212_573, v212_576, v212_577, v212_580, v212_582, v212_583, v212_586, v212_587, v212_588, v212_589, u212_591, v212_594, v212_597, v212_599, v212_600, v212_603, v212_604, v212_605, v212_606, v212_607, u212_609, v212_612, v212_613, v212_616, v212_617, v212_618, v212_619, v212_620, u212_622, v212_625, Nat.add_zero, n_cl, n_in_t, n_lt_t, n_lt_f, n_eq_t, n_eq_f, n_sub, nI_add, n_mul, n_01, ↓reduceIte, if_true, if_false, eq_self, true_or, or_true, and_self, and_true, true_and, Nat.reduceAdd, Nat.reduceMul, Nat.reduceLeDiff, Nat.zero_le, not_true_eq_false, not_false_eq_true, cat2_n, cat2_i, cat2_r, ws_0, ws_i, ws_r, ws_l, ws_d, aftr_n, aftr_s, bI_ok, bI_t, bI_f, up_s, up_n, n_bit, decide_true, decide_false, Bool.not_true, Bool.not_false, Bool.and_true, Bool.true_and, Bool.false_and, Bool.and_false, n_nlt0, n_neg_t, n_neg_f, k_0, k_566, k_567, k_568, k_569, k_570, k_571, k_572, k_573, k_574, k_575, k_576, leq_t, c193v, m9]
    exact f
  · have f := fin 2 (1 + atN (y >>> (nI 3 &&& 31)) 6) (by omega) (by unfold okV; rw [if_neg (by omega), if_pos rfl]; exact decide_eq_true (by omega)) (by omega)
    simp (disch := omega) only [v212_528, v212_529, v212_531, v212_533, v212_534, v212_535, v212_537, v212_538, v212_540, v212_542, v212_543, v212_545, v212_548, v212_549, v212_550, v212_551, v212_552, u212_554, v212_557, v212_558, v212_561, v212_563, v212_564, v212_567, v212_568, v212_569, v212_570, v212_571, u212_573, v212_576, v212_577, v212_580, v212_582, v212_583, v212_586, v212_587, v212_588, v212_589, u212_591, v212_594, v212_597, v212_599, v212_600, v212_603, v212_604, v212_605, v212_606, v212_607, u212_609, v212_612, v212_613, v212_616, v212_617, v212_618, v212_619, v212_620, u212_622, v212_625, Nat.add_zero, n_cl, n_in_t, n_lt_t, n_lt_f, n_eq_t, n_eq_f, n_sub, nI_add, n_mul, n_01, ↓reduceIte, if_true, if_false, eq_self, true_or, or_true, and_self, and_true, true_and, Nat.reduceAdd, Nat.reduceMul, Nat.reduceLeDiff, Nat.zero_le, not_true_eq_false, not_false_eq_true, cat2_n, cat2_i, cat2_r, ws_0, ws_i, ws_r, ws_l, ws_d, aftr_n, aftr_s, bI_ok, bI_t, bI_f, up_s, up_n, n_bit, decide_true, decide_false, Bool.not_true, Bool.not_false, Bool.and_true, Bool.true_and, Bool.false_and, Bool.and_false, n_nlt0, n_neg_t, n_neg_f, k_0, k_566, k_567, k_568, k_569, k_570, k_571, k_572, k_573, k_574, k_575, k_576, leq_t, c193v, m10]
    exact f
  · have f := fin 3 (atN (y >>> (nI 3 &&& 31)) 12) (by omega) (by unfold okV; rw [if_neg (by omega), if_neg (by omega), if_pos rfl]; exact decide_eq_true (by omega)) (by omega)
    simp (disch := omega) only [v212_528, v212_529, v212_531, v212_533, v212_534, v212_535, v212_537, v212_538, v212_540, v212_542, v212_543, v212_545, v212_548, v212_549, v212_550, v212_551, v212_552, u212_554, v212_557, v212_558, v212_561, v212_563, v212_564, v212_567, v212_568, v212_569, v212_570, v212_571, u212_573, v212_576, v212_577, v212_580, v212_582, v212_583, v212_586, v212_587, v212_588, v212_589, u212_591, v212_594, v212_597, v212_599, v212_600, v212_603, v212_604, v212_605, v212_606, v212_607, u212_609, v212_612, v212_613, v212_616, v212_617, v212_618, v212_619, v212_620, u212_622, v212_625, Nat.add_zero, n_cl, n_in_t, n_lt_t, n_lt_f, n_eq_t, n_eq_f, n_sub, nI_add, n_mul, n_01, ↓reduceIte, if_true, if_false, eq_self, true_or, or_true, and_self, and_true, true_and, Nat.reduceAdd, Nat.reduceMul, Nat.reduceLeDiff, Nat.zero_le, not_true_eq_false, not_false_eq_true, cat2_n, cat2_i, cat2_r, ws_0, ws_i, ws_r, ws_l, ws_d, aftr_n, aftr_s, bI_ok, bI_t, bI_f, up_s, up_n, n_bit, decide_true, decide_false, Bool.not_true, Bool.not_false, Bool.and_true, Bool.true_and, Bool.false_and, Bool.and_false, n_nlt0, n_neg_t, n_neg_f, k_0, k_566, k_567, k_568, k_569, k_570, k_571, k_572, k_573, k_574, k_575, k_576, leq_t, c193v, m11]
    exact f
  · have f := fin 4 (1 + atN (y >>> (nI 3 &&& 31)) 9) (by omega) (by unfold okV; rw [if_neg (by omega), if_neg (by omega), if_neg (by omega), if_pos rfl]; exact decide_eq_true (by omega)) (by omega)
    simp (disch := omega) only [v212_528, v212_529, v212_531, v212_533, v212_534, v212_535, v212_537, v212_538, v212_540, v212_542, v212_543, v212_545, v212_548, v212_549, v212_550, v212_551, v212_552, u212_554, v212_557, v212_558, v212_561, v212_563, v212_564, v212_567, v212_568, v212_569, v212_570, v212_571, u212_573, v212_576, v212_577, v212_580, v212_582, v212_583, v212_586, v212_587, v212_588, v212_589, u212_591, v212_594, v212_597, v212_599, v212_600, v212_603, v212_604, v212_605, v212_606, v212_607, u212_609, v212_612, v212_613, v212_616, v212_617, v212_618, v212_619, v212_620, u212_622, v212_625, Nat.add_zero, n_cl, n_in_t, n_lt_t, n_lt_f, n_eq_t, n_eq_f, n_sub, nI_add, n_mul, n_01, ↓reduceIte, if_true, if_false, eq_self, true_or, or_true, and_self, and_true, true_and, Nat.reduceAdd, Nat.reduceMul, Nat.reduceLeDiff, Nat.zero_le, not_true_eq_false, not_false_eq_true, cat2_n, cat2_i, cat2_r, ws_0, ws_i, ws_r, ws_l, ws_d, aftr_n, aftr_s, bI_ok, bI_t, bI_f, up_s, up_n, n_bit, decide_true, decide_false, Bool.not_true, Bool.not_false, Bool.and_true, Bool.true_and, Bool.false_and, Bool.and_false, n_nlt0, n_neg_t, n_neg_f, k_0, k_566, k_567, k_568, k_569, k_570, k_571, k_572, k_573, k_574, k_575, k_576, leq_t, c193v, m12]
    exact f
  · have f := fin 5 (1 + atN (y >>> (nI 3 &&& 31)) 20) (by omega) (by unfold okV; rw [if_neg (by omega), if_neg (by omega), if_neg (by omega), if_neg (by omega)]; exact decide_eq_true (by omega)) (by omega)
    simp (disch := omega) only [v212_528, v212_529, v212_531, v212_533, v212_534, v212_535, v212_537, v212_538, v212_540, v212_542, v212_543, v212_545, v212_548, v212_549, v212_550, v212_551, v212_552, u212_554, v212_557, v212_558, v212_561, v212_563, v212_564, v212_567, v212_568, v212_569, v212_570, v212_571, u212_573, v212_576, v212_577, v212_580, v212_582, v212_583, v212_586, v212_587, v212_588, v212_589, u212_591, v212_594, v212_597, v212_599, v212_600, v212_603, v212_604, v212_605, v212_606, v212_607, u212_609, v212_612, v212_613, v212_616, v212_617, v212_618, v212_619, v212_620, u212_622, v212_625, Nat.add_zero, n_cl, n_in_t, n_lt_t, n_lt_f, n_eq_t, n_eq_f, n_sub, nI_add, n_mul, n_01, ↓reduceIte, if_true, if_false, eq_self, true_or, or_true, and_self, and_true, true_and, Nat.reduceAdd, Nat.reduceMul, Nat.reduceLeDiff, Nat.zero_le, not_true_eq_false, not_false_eq_true, cat2_n, cat2_i, cat2_r, ws_0, ws_i, ws_r, ws_l, ws_d, aftr_n, aftr_s, bI_ok, bI_t, bI_f, up_s, up_n, n_bit, decide_true, decide_false, Bool.not_true, Bool.not_false, Bool.and_true, Bool.true_and, Bool.false_and, Bool.and_false, n_nlt0, n_neg_t, n_neg_f, k_0, k_566, k_567, k_568, k_569, k_570, k_571, k_572, k_573, k_574, k_575, k_576, leq_t, c193v, m13]
    exact f
theorem WL.mono {w : Wd} {D' : Nat} (h : WL KL RL z b I q w n D) (hD : D ≤ D') : WL KL RL z b I q w n D' := ⟨h.1, h.2.1, h.2.2.1, h.2.2.2.1, h.2.2.2.2.1, h.2.2.2.2.2.1, h.2.2.2.2.2.2.1, Nat.le_trans h.2.2.2.2.2.2.2 hD⟩
set_option maxHeartbeats 4000000 in
theorem c212 (hW : WL KL RL z b I q (A, m, H, B) n D) (hDm : D ≤ 9000) (hQ : ∀ I' q' w', WL KL RL z b I' q' w' n (D + 9) → w'.2.1 = svN m → Ag pW b I I' → Q (.inl (some (.int (nI 1)))) (KAt KL b, I', RAt RL b (q'), L, sz, ex)) : X z 212 0 [some (.ref (ad b 0)), some (.int x), some (.int y), some (.ref (ad b 566)), some (.ref (ad b 567)), some (.ref (ad b 568)), some (.ref (ad b 569)), some (.ref (ad b 570)), some (.ref (ad b 571)), some (.ref (ad b 572)), some (.ref (ad b 573)), some (.ref (ad b 574)), some (.ref (ad b 575)), none, none, none, none] [] (0, 0) (KAt KL b, I, RAt RL b q, L, sz, ex) Q := by
  have hQ1 : ∀ I' q' w', WL KL RL z b I' q' w' n D → w'.2.1 = svN m → Ag pW b I I' → Q (.inl (some (.int (nI 1)))) (KAt KL b, I', RAt RL b (q'), L, sz, ex) := fun I' q' w' h1 h2 h3 => hQ I' q' w' (h1.mono (by omega)) h2 h3
  have hl := hW.2.2.2.2.2.1
  have hlt := hW.2.2.2.2.2.2.1
  dsimp only at hl hlt
  have m0 := hl.1.1.1
  have m1 := hl.1.1.2.1
  have h12 := hlt.2.2.1
  have h76 := hlt.2.2.2.1
  have v1 := atN_lt (v := x) (show 0 < 12 by omega)
  simp (disch := omega) only [v212_0, v212_1, u212_3, v212_6, Nat.add_zero, n_cl, n_in_t, n_lt_t, n_lt_f, n_eq_t, n_eq_f, n_sub, nI_add, n_mul, n_01, ↓reduceIte, if_true, if_false, eq_self, true_or, or_true, and_self, and_true, true_and, Nat.reduceAdd, Nat.reduceMul, Nat.reduceLeDiff, Nat.zero_le, not_true_eq_false, not_false_eq_true, cat2_n, cat2_i, cat2_r, ws_0, ws_i, ws_r, ws_l, ws_d, aftr_n, aftr_s, bI_ok, bI_t, bI_f, up_s, up_n, n_bit, decide_true, decide_false, Bool.not_true, Bool.not_false, Bool.and_true, Bool.true_and, Bool.false_and, Bool.and_false, n_nlt0, n_neg_t, n_neg_f, k_0, k_566, k_567, k_568, k_569, k_570, k_571, k_572, k_573, k_574, k_575, k_576, leq_t, c193v]
  generalize atN x 12 = a at v1
  by_cases e0 : A 6 = 0
  · simp (disch := omega) only [v212_8, v212_9, v212_10, v212_11, v212_14, v212_16, v212_17, v212_20, v212_21, v212_22, v212_23, v212_25, Nat.add_zero, n_cl, n_in_t, n_lt_t, n_lt_f, n_eq_t, n_eq_f, n_sub, nI_add, n_mul, n_01, ↓reduceIte, if_true, if_false, eq_self, true_or, or_true, and_self, and_true, true_and, Nat.reduceAdd, Nat.reduceMul, Nat.reduceLeDiff, Nat.zero_le, not_true_eq_false, not_false_eq_true, cat2_n, cat2_i, cat2_r, ws_0, ws_i, ws_r, ws_l, ws_d, aftr_n, aftr_s, bI_ok, bI_t, bI_f, up_s, up_n, n_bit, decide_true, decide_false, Bool.not_true, Bool.not_false, Bool.and_true, Bool.true_and, Bool.false_and, Bool.and_false, n_nlt0, n_neg_t, n_neg_f, k_0, k_566, k_567, k_568, k_569, k_570, k_571, k_572, k_573, k_574, k_575, k_576, m0]
    exact h28 hW (by omega) hQ1
  by_cases ea : a < 2 ∧ A 6 < 12
  · obtain ⟨ea, eb⟩ := ea
    simp (disch := omega) only [v212_8, v212_9, v212_10, v212_11, v212_14, v212_16, v212_17, v212_20, v212_21, v212_22, v212_23, v212_25, Nat.add_zero, n_cl, n_in_t, n_lt_t, n_lt_f, n_eq_t, n_eq_f, n_sub, nI_add, n_mul, n_01, ↓reduceIte, if_true, if_false, eq_self, true_or, or_true, and_self, and_true, true_and, Nat.reduceAdd, Nat.reduceMul, Nat.reduceLeDiff, Nat.zero_le, not_true_eq_false, not_false_eq_true, cat2_n, cat2_i, cat2_r, ws_0, ws_i, ws_r, ws_l, ws_d, aftr_n, aftr_s, bI_ok, bI_t, bI_f, up_s, up_n, n_bit, decide_true, decide_false, Bool.not_true, Bool.not_false, Bool.and_true, Bool.true_and, Bool.false_and, Bool.and_false, n_nlt0, n_neg_t, n_neg_f, k_0, k_566, k_567, k_568, k_569, k_570, k_571, k_572, k_573, k_574, k_575, k_576, m0]
    exact h28 hW (by omega) hQ1
  have to122 : X z 212 122 [some (.ref (ad b 0)), some (.int x), some (.int y), some (.ref (ad b 566)), some (.ref (ad b 567)), some (.ref (ad b 568)), some (.ref (ad b 569)), some (.ref (ad b 570)), some (.ref (ad b 571)), some (.ref (ad b 572)), some (.ref (ad b 573)), some (.ref (ad b 574)), some (.ref (ad b 575)), some (.int (nI (a))), none, none, none] [] (0, 0) (KAt KL b, I, RAt RL b q, L, sz, ex) Q → X z 212 8 [some (.ref (ad b 0)), some (.int x), some (.int y), some (.ref (ad b 566)), some (.ref (ad b 567)), some (.ref (ad b 568)), some (.ref (ad b 569)), some (.ref (ad b 570)), some (.ref (ad b 571)), some (.ref (ad b 572)), some (.ref (ad b 573)), some (.ref (ad b 574)), some (.ref (ad b 575)), some (.int (nI (a))), none, none, none] [] (0, 0) (KAt KL b, I, RAt RL b q, L, sz, ex) Q := by
    intro h
    by_cases e2 : a < 2
    · simp (disch := omega) only [v212_8, v212_9, v212_10, v212_11, v212_14, v212_16, v212_17, v212_20, v212_21, v212_22, v212_23, v212_25, Nat.add_zero, n_cl, n_in_t, n_lt_t, n_lt_f, n_eq_t, n_eq_f, n_sub, nI_add, n_mul, n_01, ↓reduceIte, if_true, if_false, eq_self, true_or, or_true, and_self, and_true, true_and, Nat.reduceAdd, Nat.reduceMul, Nat.reduceLeDiff, Nat.zero_le, not_true_eq_false, not_false_eq_true, cat2_n, cat2_i, cat2_r, ws_0, ws_i, ws_r, ws_l, ws_d, aftr_n, aftr_s, bI_ok, bI_t, bI_f, up_s, up_n, n_bit, decide_true, decide_false, Bool.not_true, Bool.not_false, Bool.and_true, Bool.true_and, Bool.false_and, Bool.and_false, n_nlt0, n_neg_t, n_neg_f, k_0, k_566, k_567, k_568, k_569, k_570, k_571, k_572, k_573, k_574, k_575, k_576, m0]
      exact h
    · simp (disch := omega) only [v212_8, v212_9, v212_10, v212_11, v212_14, v212_16, v212_17, v212_20, v212_21, v212_22, v212_23, v212_25, Nat.add_zero, n_cl, n_in_t, n_lt_t, n_lt_f, n_eq_t, n_eq_f, n_sub, nI_add, n_mul, n_01, ↓reduceIte, if_true, if_false, eq_self, true_or, or_true, and_self, and_true, true_and, Nat.reduceAdd, Nat.reduceMul, Nat.reduceLeDiff, Nat.zero_le, not_true_eq_false, not_false_eq_true, cat2_n, cat2_i, cat2_r, ws_0, ws_i, ws_r, ws_l, ws_d, aftr_n, aftr_s, bI_ok, bI_t, bI_f, up_s, up_n, n_bit, decide_true, decide_false, Bool.not_true, Bool.not_false, Bool.and_true, Bool.true_and, Bool.false_and, Bool.and_false, n_nlt0, n_neg_t, n_neg_f, k_0, k_566, k_567, k_568, k_569, k_570, k_571, k_572, k_573, k_574, k_575, k_576, m0]
      exact h
  refine to122 ?_
  by_cases eb : a = 2 ∧ A 7 < 6
  · obtain ⟨rfl, eb⟩ := eb
    simp (disch := omega) only [v212_122, v212_124, v212_125, v212_128, v212_129, v212_130, v212_131, v212_133, Nat.add_zero, n_cl, n_in_t, n_lt_t, n_lt_f, n_eq_t, n_eq_f, n_sub, nI_add, n_mul, n_01, ↓reduceIte, if_true, if_false, eq_self, true_or, or_true, and_self, and_true, true_and, Nat.reduceAdd, Nat.reduceMul, Nat.reduceLeDiff, Nat.zero_le, not_true_eq_false, not_false_eq_true, cat2_n, cat2_i, cat2_r, ws_0, ws_i, ws_r, ws_l, ws_d, aftr_n, aftr_s, bI_ok, bI_t, bI_f, up_s, up_n, n_bit, decide_true, decide_false, Bool.not_true, Bool.not_false, Bool.and_true, Bool.true_and, Bool.false_and, Bool.and_false, n_nlt0, n_neg_t, n_neg_f, k_0, k_566, k_567, k_568, k_569, k_570, k_571, k_572, k_573, k_574, k_575, k_576, m1]
    exact h136 hW eb hQ1
  have to203 : X z 212 203 [some (.ref (ad b 0)), some (.int x), some (.int y), some (.ref (ad b 566)), some (.ref (ad b 567)), some (.ref (ad b 568)), some (.ref (ad b 569)), some (.ref (ad b 570)), some (.ref (ad b 571)), some (.ref (ad b 572)), some (.ref (ad b 573)), some (.ref (ad b 574)), some (.ref (ad b 575)), some (.int (nI (a))), none, none, none] [] (0, 0) (KAt KL b, I, RAt RL b q, L, sz, ex) Q → X z 212 122 [some (.ref (ad b 0)), some (.int x), some (.int y), some (.ref (ad b 566)), some (.ref (ad b 567)), some (.ref (ad b 568)), some (.ref (ad b 569)), some (.ref (ad b 570)), some (.ref (ad b 571)), some (.ref (ad b 572)), some (.ref (ad b 573)), some (.ref (ad b 574)), some (.ref (ad b 575)), some (.int (nI (a))), none, none, none] [] (0, 0) (KAt KL b, I, RAt RL b q, L, sz, ex) Q := by
    intro h
    by_cases e2 : a = 2
    · subst e2
      simp (disch := omega) only [v212_122, v212_124, v212_125, v212_128, v212_129, v212_130, v212_131, v212_133, Nat.add_zero, n_cl, n_in_t, n_lt_t, n_lt_f, n_eq_t, n_eq_f, n_sub, nI_add, n_mul, n_01, ↓reduceIte, if_true, if_false, eq_self, true_or, or_true, and_self, and_true, true_and, Nat.reduceAdd, Nat.reduceMul, Nat.reduceLeDiff, Nat.zero_le, not_true_eq_false, not_false_eq_true, cat2_n, cat2_i, cat2_r, ws_0, ws_i, ws_r, ws_l, ws_d, aftr_n, aftr_s, bI_ok, bI_t, bI_f, up_s, up_n, n_bit, decide_true, decide_false, Bool.not_true, Bool.not_false, Bool.and_true, Bool.true_and, Bool.false_and, Bool.and_false, n_nlt0, n_neg_t, n_neg_f, k_0, k_566, k_567, k_568, k_569, k_570, k_571, k_572, k_573, k_574, k_575, k_576, m1]
      exact h
    · simp (disch := omega) only [v212_122, v212_124, v212_125, v212_128, v212_129, v212_130, v212_131, v212_133, Nat.add_zero, n_cl, n_in_t, n_lt_t, n_lt_f, n_eq_t, n_eq_f, n_sub, nI_add, n_mul, n_01, ↓reduceIte, if_true, if_false, eq_self, true_or, or_true, and_self, and_true, true_and, Nat.reduceAdd, Nat.reduceMul, Nat.reduceLeDiff, Nat.zero_le, not_true_eq_false, not_false_eq_true, cat2_n, cat2_i, cat2_r, ws_0, ws_i, ws_r, ws_l, ws_d, aftr_n, aftr_s, bI_ok, bI_t, bI_f, up_s, up_n, n_bit, decide_true, decide_false, Bool.not_true, Bool.not_false, Bool.and_true, Bool.true_and, Bool.false_and, Bool.and_false, n_nlt0, n_neg_t, n_neg_f, k_0, k_566, k_567, k_568, k_569, k_570, k_571, k_572, k_573, k_574, k_575, k_576]
      exact h
  refine to203 ?_
  by_cases e5 : a < 5
  · simp (disch := omega) only [v212_203, v212_205, v212_206, Nat.add_zero, n_cl, n_in_t, n_lt_t, n_lt_f, n_eq_t, n_eq_f, n_sub, nI_add, n_mul, n_01, ↓reduceIte, if_true, if_false, eq_self, true_or, or_true, and_self, and_true, true_and, Nat.reduceAdd, Nat.reduceMul, Nat.reduceLeDiff, Nat.zero_le, not_true_eq_false, not_false_eq_true, cat2_n, cat2_i, cat2_r, ws_0, ws_i, ws_r, ws_l, ws_d, aftr_n, aftr_s, bI_ok, bI_t, bI_f, up_s, up_n, n_bit, decide_true, decide_false, Bool.not_true, Bool.not_false, Bool.and_true, Bool.true_and, Bool.false_and, Bool.and_false, n_nlt0, n_neg_t, n_neg_f, k_0, k_566, k_567, k_568, k_569, k_570, k_571, k_572, k_573, k_574, k_575, k_576]
    exact h209 hW hQ1
  have vp := atN_lt (v := y) (show 0 < A 6 by omega)
  simp (disch := omega) only [v212_203, v212_205, v212_206, v212_278, v212_279, v212_280, v212_281, u212_282, v212_285, Nat.add_zero, n_cl, n_in_t, n_lt_t, n_lt_f, n_eq_t, n_eq_f, n_sub, nI_add, n_mul, n_01, ↓reduceIte, if_true, if_false, eq_self, true_or, or_true, and_self, and_true, true_and, Nat.reduceAdd, Nat.reduceMul, Nat.reduceLeDiff, Nat.zero_le, not_true_eq_false, not_false_eq_true, cat2_n, cat2_i, cat2_r, ws_0, ws_i, ws_r, ws_l, ws_d, aftr_n, aftr_s, bI_ok, bI_t, bI_f, up_s, up_n, n_bit, decide_true, decide_false, Bool.not_true, Bool.not_false, Bool.and_true, Bool.true_and, Bool.false_and, Bool.and_false, n_nlt0, n_neg_t, n_neg_f, k_0, k_566, k_567, k_568, k_569, k_570, k_571, k_572, k_573, k_574, k_575, k_576, leq_t, c193v, m0]
  generalize atN y (A 6) = p at vp
  by_cases e7 : a < 7
  · simp (disch := omega) only [v212_287, v212_289, v212_291, Nat.add_zero, n_cl, n_in_t, n_lt_t, n_lt_f, n_eq_t, n_eq_f, n_sub, nI_add, n_mul, n_01, ↓reduceIte, if_true, if_false, eq_self, true_or, or_true, and_self, and_true, true_and, Nat.reduceAdd, Nat.reduceMul, Nat.reduceLeDiff, Nat.zero_le, not_true_eq_false, not_false_eq_true, cat2_n, cat2_i, cat2_r, ws_0, ws_i, ws_r, ws_l, ws_d, aftr_n, aftr_s, bI_ok, bI_t, bI_f, up_s, up_n, n_bit, decide_true, decide_false, Bool.not_true, Bool.not_false, Bool.and_true, Bool.true_and, Bool.false_and, Bool.and_false, n_nlt0, n_neg_t, n_neg_f, k_0, k_566, k_567, k_568, k_569, k_570, k_571, k_572, k_573, k_574, k_575, k_576]
    exact h294 hW vp hQ1
  by_cases e8 : a = 7
  · subst e8
    simp (disch := omega) only [v212_287, v212_289, v212_291, v212_341, v212_343, v212_345, Nat.add_zero, n_cl, n_in_t, n_lt_t, n_lt_f, n_eq_t, n_eq_f, n_sub, nI_add, n_mul, n_01, ↓reduceIte, if_true, if_false, eq_self, true_or, or_true, and_self, and_true, true_and, Nat.reduceAdd, Nat.reduceMul, Nat.reduceLeDiff, Nat.zero_le, not_true_eq_false, not_false_eq_true, cat2_n, cat2_i, cat2_r, ws_0, ws_i, ws_r, ws_l, ws_d, aftr_n, aftr_s, bI_ok, bI_t, bI_f, up_s, up_n, n_bit, decide_true, decide_false, Bool.not_true, Bool.not_false, Bool.and_true, Bool.true_and, Bool.false_and, Bool.and_false, n_nlt0, n_neg_t, n_neg_f, k_0, k_566, k_567, k_568, k_569, k_570, k_571, k_572, k_573, k_574, k_575, k_576]
    exact h348 hW vp hQ1
  by_cases e9 : a = 8
  · subst e9
    simp (disch := omega) only [v212_287, v212_289, v212_291, v212_341, v212_343, v212_345, v212_389, v212_391, v212_393, Nat.add_zero, n_cl, n_in_t, n_lt_t, n_lt_f, n_eq_t, n_eq_f, n_sub, nI_add, n_mul, n_01, ↓reduceIte, if_true, if_false, eq_self, true_or, or_true, and_self, and_true, true_and, Nat.reduceAdd, Nat.reduceMul, Nat.reduceLeDiff, Nat.zero_le, not_true_eq_false, not_false_eq_true, cat2_n, cat2_i, cat2_r, ws_0, ws_i, ws_r, ws_l, ws_d, aftr_n, aftr_s, bI_ok, bI_t, bI_f, up_s, up_n, n_bit, decide_true, decide_false, Bool.not_true, Bool.not_false, Bool.and_true, Bool.true_and, Bool.false_and, Bool.and_false, n_nlt0, n_neg_t, n_neg_f, k_0, k_566, k_567, k_568, k_569, k_570, k_571, k_572, k_573, k_574, k_575, k_576]
    exact h396 hW vp hQ1
  by_cases e10 : a = 9
  · subst e10
    simp (disch := omega) only [v212_287, v212_289, v212_291, v212_341, v212_343, v212_345, v212_389, v212_391, v212_393, v212_477, v212_479, v212_481, Nat.add_zero, n_cl, n_in_t, n_lt_t, n_lt_f, n_eq_t, n_eq_f, n_sub, nI_add, n_mul, n_01, ↓reduceIte, if_true, if_false, eq_self, true_or, or_true, and_self, and_true, true_and, Nat.reduceAdd, Nat.reduceMul, Nat.reduceLeDiff, Nat.zero_le, not_true_eq_false, not_false_eq_true, cat2_n, cat2_i, cat2_r, ws_0, ws_i, ws_r, ws_l, ws_d, aftr_n, aftr_s, bI_ok, bI_t, bI_f, up_s, up_n, n_bit, decide_true, decide_false, Bool.not_true, Bool.not_false, Bool.and_true, Bool.true_and, Bool.false_and, Bool.and_false, n_nlt0, n_neg_t, n_neg_f, k_0, k_566, k_567, k_568, k_569, k_570, k_571, k_572, k_573, k_574, k_575, k_576]
    exact h484 hW hDm hQ
  · simp (disch := omega) only [v212_287, v212_289, v212_291, v212_341, v212_343, v212_345, v212_389, v212_391, v212_393, v212_477, v212_479, v212_481, Nat.add_zero, n_cl, n_in_t, n_lt_t, n_lt_f, n_eq_t, n_eq_f, n_sub, nI_add, n_mul, n_01, ↓reduceIte, if_true, if_false, eq_self, true_or, or_true, and_self, and_true, true_and, Nat.reduceAdd, Nat.reduceMul, Nat.reduceLeDiff, Nat.zero_le, not_true_eq_false, not_false_eq_true, cat2_n, cat2_i, cat2_r, ws_0, ws_i, ws_r, ws_l, ws_d, aftr_n, aftr_s, bI_ok, bI_t, bI_f, up_s, up_n, n_bit, decide_true, decide_false, Bool.not_true, Bool.not_false, Bool.and_true, Bool.true_and, Bool.false_and, Bool.and_false, n_nlt0, n_neg_t, n_neg_f, k_0, k_566, k_567, k_568, k_569, k_570, k_571, k_572, k_573, k_574, k_575, k_576]
    exact h520 hW hQ1
end LL
