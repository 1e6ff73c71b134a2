/-! THE REFERENCE: all letters laid; what they come to -/
def LZ (b : Nat) (I : Nat → Nat → Int32) (A : Row) : Prop := GZ b I (grps A).1 (grps A).2 ∧ (∀ j, j < A 6 → I (ad b 575) j = nI (lof A j)) ∧ ∀ k, k < (grps A).1 → I (ad b 572) k = nI (textT A ((grps A).2 k)).length ∧ I (ad b 573) k = nI (linesT A ((grps A).2 k)) ∧ I (ad b 574) k = nI (pagesT A ((grps A).2 k))
theorem grps_le {A : Row} (hg : Good A) : (grps A).1 ≤ A 6 := (okg (A := A) (by have := hg.2.1; omega) (A 6)).1
theorem grps_ok {A : Row} (hg : Good A) {k : Nat} (hk : k < (grps A).1) : OkL A ((grps A).2 k) := okL_of hg (okg (A := A) (by have := hg.2.1; omega) (A 6)) (Nat.le_refl _) hk
theorem lay_bd {A : Row} {g : List Nat} (hg : Good A) (h : OkL A g) : linesT A g ≤ 4000 ∧ pagesT A g ≤ 4000 := by
  have h1 := layF_bd (W := A 0) (H := A 1) hg.2.1.2.2.1 (textT A g) 0 0 none 0 0 (Nat.le_refl _) (Nat.le_refl _)
  have h2 := textT_len hg h
  unfold linesT pagesT layT
  omega
theorem lof_lt {A : Row} (hg : Good A) : ∀ (n p : Nat), p < n → reas A p (A 8) = 0 → lof A p < (grp A n).1 := by
  intro n
  induction n with
  | zero => intro p hp; exact absurd hp (Nat.not_lt_zero _)
  | succ n ih =>
    intro p hp hr
    by_cases e : p = n
    · subst e
      have gl := gix_le (A := A) (G := grp A p) (p := p)
      have e1 : grp A (p + 1) = insG A (grp A p) p := by show (if _ then _ else _) = _; rw [if_pos hr]
      rw [e1]
      unfold lof insG
      rw [if_pos hr]
      dsimp only
      split <;> omega
    · have h1 := ih p (by omega) hr
      have h2 : (grp A n).1 ≤ (grp A (n + 1)).1 := by
        show _ ≤ Prod.fst (if _ then _ else _)
        split
        · unfold insG; dsimp only; split <;> omega
        · exact Nat.le_refl _
      omega
section RI
variable {z : P0} {KL : Nat → Nat × Nat} {RL : Nat → Nat → Option Nat} {q : Nat → Nat} {b : Nat} {I : Nat → Nat → Int32} {L : Nat → Nat → Int64} {sz : Nat} {ex : Bool} {Q : Res → Mem → Prop} {A : Row}
variable {t : List Nat}
theorem pScr_z : ∀ j, ¬ pScr 567 j := fun j h => by unfold pScr at h; omega
theorem pTx_s : ∀ o j, pTx o j → pScr o j := fun o j h => by unfold pTx at h; unfold pScr; omega
theorem pGr_s : ∀ o j, pGr o j → pScr o j := fun o j h => by unfold pGr at h; unfold pScr; omega
theorem pLy_s {lt : Nat} : ∀ o j, pLy lt o j → pScr o j := fun o j h => by unfold pLy at h; unfold pScr; omega
theorem l130 (hg : Good A) : ∀ d k I, k + d = (grps A).1 → RZ b I A → GZ b I (grps A).1 (grps A).2 → (∀ j, j < A 6 → I (ad b 575) j = nI (lof A j)) → (∀ j, j < k → I (ad b 572) j = nI (textT A ((grps A).2 j)).length ∧ I (ad b 573) j = nI (linesT A ((grps A).2 j)) ∧ I (ad b 574) j = nI (pagesT A ((grps A).2 j))) →
    (∀ I', LZ b I' A → Ag pScr b I I' → Q (.inl none) (KAt KL b, I', RAt RL b q, L, sz, ex)) → X z 130 6 [some (.ref (ad b 566)), some (.int (nI k))] [] (0, 0) (KAt KL b, I, RAt RL b q, L, sz, ex) Q := by
  have h6 := hg.1.1
  have hn := grps_le hg
  intro d
  induction d with
  | zero =>
    intro k I hk hz hm hl hs hQ
    have m12 := hm.1
    rw [v130_6]
    simp (disch := omega) only [v130_7, v130_8, v130_11, v130_14, v130_15, u130_16, v130_19, v130_20, u130_21, v130_24, v130_27, v130_30, k_566, k_567, k_568, k_569, k_570, k_571, k_572, k_573, k_574, k_575, k_576, r_566_0, r_566_2, r_566_4, r_566_6, r_566_7, r_566_8, r_566_9, r_566_10, r_566_11, r_566_13, va_rf_s, n_cl, n_in_t, n_lt_t, n_lt_f, n_eq_t, n_eq_f, n_sub, nI_add, n_mul, ↓reduceIte, if_true, if_false, eq_self, true_or, or_true, and_self, and_true, true_and, Nat.reduceAdd, Nat.reduceMul, Nat.reduceLeDiff, Nat.zero_le, not_true_eq_false, not_false_eq_true, cat2_n, cat2_i, cat2_r, ws_0, ws_i, ws_r, ws_l, ws_d, aftr_n, aftr_s, bI_ok, bI_t, bI_f, up_s, up_n, n_bit, decide_true, decide_false, Bool.not_true, Bool.not_false, Bool.and_true, Bool.true_and, Bool.false_and, Bool.and_false, m12]
    exact hQ I ⟨hm, hl, fun j hj => hs j (by omega)⟩ Ag.rf
  | succ d ih =>
    intro k I hk hz hm hl hs hQ
    have m12 := hm.1
    have mm := hm.2 k (by omega)
    have ok := grps_ok hg (k := k) (by omega)
    rw [v130_6]
    simp (disch := omega) only [v130_7, v130_8, v130_11, v130_14, v130_15, u130_16, v130_19, v130_20, u130_21, v130_24, v130_27, v130_30, k_566, k_567, k_568, k_569, k_570, k_571, k_572, k_573, k_574, k_575, k_576, r_566_0, r_566_2, r_566_4, r_566_6, r_566_7, r_566_8, r_566_9, r_566_10, r_566_11, r_566_13, va_rf_s, n_cl, n_in_t, n_lt_t, n_lt_f, n_eq_t, n_eq_f, n_sub, nI_add, n_mul, ↓reduceIte, if_true, if_false, eq_self, true_or, or_true, and_self, and_true, true_and, Nat.reduceAdd, Nat.reduceMul, Nat.reduceLeDiff, Nat.zero_le, not_true_eq_false, not_false_eq_true, cat2_n, cat2_i, cat2_r, ws_0, ws_i, ws_r, ws_l, ws_d, aftr_n, aftr_s, bI_ok, bI_t, bI_f, up_s, up_n, n_bit, decide_true, decide_false, Bool.not_true, Bool.not_false, Bool.and_true, Bool.true_and, Bool.false_and, Bool.and_false, m12]
    refine c124 hg (by omega) ok hz mm.1 mm.2 (fun I1 g1 g2 => ?_)
    simp (disch := omega) only [v130_19, v130_20, u130_21, v130_24, v130_27, v130_30, k_566, k_567, k_568, k_569, k_570, k_571, k_572, k_573, k_574, k_575, k_576, r_566_0, r_566_2, r_566_4, r_566_6, r_566_7, r_566_8, r_566_9, r_566_10, r_566_11, r_566_13, va_rf_s, n_cl, n_in_t, n_lt_t, n_lt_f, n_eq_t, n_eq_f, n_sub, nI_add, n_mul, ↓reduceIte, if_true, if_false, eq_self, true_or, or_true, and_self, and_true, true_and, Nat.reduceAdd, Nat.reduceMul, Nat.reduceLeDiff, Nat.zero_le, not_true_eq_false, not_false_eq_true, cat2_n, cat2_i, cat2_r, ws_0, ws_i, ws_r, ws_l, ws_d, aftr_n, aftr_s, bI_ok, bI_t, bI_f, up_s, up_n, n_bit, decide_true, decide_false, Bool.not_true, Bool.not_false, Bool.and_true, Bool.true_and, Bool.false_and, Bool.and_false]
    refine c129 hg (by omega) (by have := textT_len hg ok; omega) (fun c hc => by have := textF_lt hg ok (toks A) false (toks_ok hg) c hc; omega) (hz.ag g2 pTx_z) g1 (fun I2 q1 q2 q3 g3 => ?_)
    simp (disch := omega) only [v130_24, v130_27, v130_30, k_566, k_567, k_568, k_569, k_570, k_571, k_572, k_573, k_574, k_575, k_576, r_566_0, r_566_2, r_566_4, r_566_6, r_566_7, r_566_8, r_566_9, r_566_10, r_566_11, r_566_13, va_rf_s, n_cl, n_in_t, n_lt_t, n_lt_f, n_eq_t, n_eq_f, n_sub, nI_add, n_mul, ↓reduceIte, if_true, if_false, eq_self, true_or, or_true, and_self, and_true, true_and, Nat.reduceAdd, Nat.reduceMul, Nat.reduceLeDiff, Nat.zero_le, not_true_eq_false, not_false_eq_true, cat2_n, cat2_i, cat2_r, ws_0, ws_i, ws_r, ws_l, ws_d, aftr_n, aftr_s, bI_ok, bI_t, bI_f, up_s, up_n, n_bit, decide_true, decide_false, Bool.not_true, Bool.not_false, Bool.and_true, Bool.true_and, Bool.false_and, Bool.and_false]
    have g4 := (g2.mn pTx_s).tr (g3.mn pLy_s)
    refine ih (k + 1) I2 (by omega) (hz.ag g4 pScr_z) ((hm.ag g2 (fun x => by unfold pTx at x; omega) (fun j x => by unfold pTx at x; omega) (fun j x => by unfold pTx at x; omega)).ag g3 (fun x => by unfold pLy at x; omega) (fun j x => by unfold pLy at x; omega) (fun j x => by unfold pLy at x; omega)) (fun j hj => (g3.at (fun x => by unfold pLy at x; omega)).trans ((g2.at (fun x => by unfold pTx at x; omega)).trans (hl j hj))) (fun j hj => ?_) (fun I3 q4 q5 => hQ I3 q4 (g4.tr q5))
    by_cases e : j = k
    · subst e
      exact ⟨q1, q2, q3⟩
    · have := hs j (by omega)
      exact ⟨(g3.at (fun x => by unfold pLy at x; omega)).trans ((g2.at (fun x => by unfold pTx at x; omega)).trans this.1), (g3.at (fun x => by unfold pLy at x; omega)).trans ((g2.at (fun x => by unfold pTx at x; omega)).trans this.2.1), (g3.at (fun x => by unfold pLy at x; omega)).trans ((g2.at (fun x => by unfold pTx at x; omega)).trans this.2.2)⟩
theorem c115 (hg : Good A) (hz : RZ b I A) (hQ : ∀ I', GZ b I' (grps A).1 (grps A).2 → (∀ j, j < A 6 → I' (ad b 575) j = nI (lof A j)) → Ag pGr b I I' → Q (.inl none) (KAt KL b, I', RAt RL b q, L, sz, ex)) : X z 115 0 [some (.ref (ad b 566)), none, none] [] (0, 0) (KAt KL b, I, RAt RL b q, L, sz, ex) Q := by
  simp (disch := omega) only [v115_0, v115_1, v115_2, v115_5, v115_6, k_566, k_567, k_568, k_569, k_570, k_571, k_572, k_573, k_574, k_575, k_576, r_566_0, r_566_2, r_566_4, r_566_6, r_566_7, r_566_8, r_566_9, r_566_10, r_566_11, r_566_13, va_rf_s, n_cl, n_in_t, n_lt_t, n_lt_f, n_eq_t, n_eq_f, n_sub, nI_add, n_mul, ↓reduceIte, if_true, if_false, eq_self, true_or, or_true, and_self, and_true, true_and, Nat.reduceAdd, Nat.reduceMul, Nat.reduceLeDiff, Nat.zero_le, not_true_eq_false, not_false_eq_true, cat2_n, cat2_i, cat2_r, ws_0, ws_i, ws_r, ws_l, ws_d, aftr_n, aftr_s, bI_ok, bI_t, bI_f, up_s, up_n, n_bit, decide_true, decide_false, Bool.not_true, Bool.not_false, Bool.and_true, Bool.true_and, Bool.false_and, Bool.and_false]
  have a1 : Ag pGr b I (up2 I (ad b 566) 12 (nI 0)) := Ag.rf.up (Or.inl ⟨rfl, rfl⟩)
  exact l115 hg (A 6) 0 _ none rfl (by omega) (hz.ag a1 pGr_z) ⟨up_s, fun k hk => absurd hk (Nat.not_lt_zero _)⟩ (fun j hj => absurd hj (Nat.not_lt_zero _)) (fun I2 q1 q2 q3 => hQ I2 q1 q2 (a1.tr q3))
theorem c130 (hg : Good A) (hz : RZ b I A) (hQ : ∀ I', LZ b I' A → Ag pScr b I I' → Q (.inl none) (KAt KL b, I', RAt RL b q, L, sz, ex)) : X z 130 0 [some (.ref (ad b 566)), none] [] (0, 0) (KAt KL b, I, RAt RL b q, L, sz, ex) Q := by
  simp (disch := omega) only [v130_0, u130_1, v130_4, v130_5, k_566, k_567, k_568, k_569, k_570, k_571, k_572, k_573, k_574, k_575, k_576, r_566_0, r_566_2, r_566_4, r_566_6, r_566_7, r_566_8, r_566_9, r_566_10, r_566_11, r_566_13, va_rf_s, n_cl, n_in_t, n_lt_t, n_lt_f, n_eq_t, n_eq_f, n_sub, nI_add, n_mul, ↓reduceIte, if_true, if_false, eq_self, true_or, or_true, and_self, and_true, true_and, Nat.reduceAdd, Nat.reduceMul, Nat.reduceLeDiff, Nat.zero_le, not_true_eq_false, not_false_eq_true, cat2_n, cat2_i, cat2_r, ws_0, ws_i, ws_r, ws_l, ws_d, aftr_n, aftr_s, bI_ok, bI_t, bI_f, up_s, up_n, n_bit, decide_true, decide_false, Bool.not_true, Bool.not_false, Bool.and_true, Bool.true_and, Bool.false_and, Bool.and_false]
  refine c115 hg hz (fun I1 q1 q2 q3 => ?_)
  simp (disch := omega) only [v130_4, v130_5, k_566, k_567, k_568, k_569, k_570, k_571, k_572, k_573, k_574, k_575, k_576, r_566_0, r_566_2, r_566_4, r_566_6, r_566_7, r_566_8, r_566_9, r_566_10, r_566_11, r_566_13, va_rf_s, n_cl, n_in_t, n_lt_t, n_lt_f, n_eq_t, n_eq_f, n_sub, nI_add, n_mul, ↓reduceIte, if_true, if_false, eq_self, true_or, or_true, and_self, and_true, true_and, Nat.reduceAdd, Nat.reduceMul, Nat.reduceLeDiff, Nat.zero_le, not_true_eq_false, not_false_eq_true, cat2_n, cat2_i, cat2_r, ws_0, ws_i, ws_r, ws_l, ws_d, aftr_n, aftr_s, bI_ok, bI_t, bI_f, up_s, up_n, n_bit, decide_true, decide_false, Bool.not_true, Bool.not_false, Bool.and_true, Bool.true_and, Bool.false_and, Bool.and_false]
  exact l130 hg (grps A).1 0 I1 (by omega) (hz.ag q3 pGr_z) q1 q2 (fun j hj => absurd hj (Nat.not_lt_zero _)) (fun I2 q4 q5 => hQ I2 q4 ((q3.mn pGr_s).tr q5))
theorem LZ.ag {P : Nat → Nat → Prop} {I' : Nat → Nat → Int32} (h : LZ b I A) (hg : Ag P b I I') (hP : ∀ o j, P o j → ¬ pScr o j) : LZ b I' A := by
  have k : ∀ {o j}, (570 ≤ o ∧ o ≤ 575) → I' (ad b o) j = I (ad b o) j := fun ho => hg.at (fun x => hP _ _ x (Or.inl (by omega)))
  refine ⟨⟨(hg.at (fun x => hP _ _ x (Or.inr ⟨rfl, Or.inl rfl⟩))).trans h.1.1, fun i hi => ⟨(k (by omega)).trans (h.1.2 i hi).1, (k (by omega)).trans (h.1.2 i hi).2⟩⟩, fun j hj => (k (by omega)).trans (h.2.1 j hj), fun i hi => ⟨(k (by omega)).trans (h.2.2 i hi).1, (k (by omega)).trans (h.2.2 i hi).2.1, (k (by omega)).trans (h.2.2 i hi).2.2⟩⟩
theorem c131 {k : Nat} (hg : Good A) (z4 : I (ad b 567) 4 = nI (A 4)) (hl : LZ b I A) (hk : k < (grps A).1) : X z 131 0 [some (.ref (ad b 566)), some (.int (nI k))] [] (0, 0) (KAt KL b, I, RAt RL b q, L, sz, ex) Q = Q (.inl (some (.int (bI (sentB A ((grps A).2 k)))))) (KAt KL b, I, RAt RL b q, L, sz, ex) := by
  have h6 := hg.1.1
  have hn := grps_le hg
  have h24 := hg.2.1
  have m := (hl.2.2 k hk).2.2
  have bd := lay_bd hg (grps_ok hg hk)
  unfold sentB
  by_cases e : pagesT A ((grps A).2 k) ≤ A 4
  · rw [decide_eq_true e]
    simp (disch := omega) only [v131_0, v131_1, v131_4, v131_5, v131_6, v131_7, v131_10, v131_11, v131_12, v131_15, v131_16, v131_19, v131_20, k_566, k_567, k_568, k_569, k_570, k_571, k_572, k_573, k_574, k_575, k_576, r_566_0, r_566_2, r_566_4, r_566_6, r_566_7, r_566_8, r_566_9, r_566_10, r_566_11, r_566_13, va_rf_s, n_cl, n_in_t, n_lt_t, n_lt_f, n_eq_t, n_eq_f, n_sub, nI_add, n_mul, ↓reduceIte, if_true, if_false, eq_self, true_or, or_true, and_self, and_true, true_and, Nat.reduceAdd, Nat.reduceMul, Nat.reduceLeDiff, Nat.zero_le, not_true_eq_false, not_false_eq_true, cat2_n, cat2_i, cat2_r, ws_0, ws_i, ws_r, ws_l, ws_d, aftr_n, aftr_s, bI_ok, bI_t, bI_f, up_s, up_n, n_bit, decide_true, decide_false, Bool.not_true, Bool.not_false, Bool.and_true, Bool.true_and, Bool.false_and, Bool.and_false, z4, m]
  · rw [decide_eq_false e]
    simp (disch := omega) only [v131_0, v131_1, v131_4, v131_5, v131_6, v131_7, v131_10, v131_11, v131_12, v131_15, v131_16, v131_19, v131_20, k_566, k_567, k_568, k_569, k_570, k_571, k_572, k_573, k_574, k_575, k_576, r_566_0, r_566_2, r_566_4, r_566_6, r_566_7, r_566_8, r_566_9, r_566_10, r_566_11, r_566_13, va_rf_s, n_cl, n_in_t, n_lt_t, n_lt_f, n_eq_t, n_eq_f, n_sub, nI_add, n_mul, ↓reduceIte, if_true, if_false, eq_self, true_or, or_true, and_self, and_true, true_and, Nat.reduceAdd, Nat.reduceMul, Nat.reduceLeDiff, Nat.zero_le, not_true_eq_false, not_false_eq_true, cat2_n, cat2_i, cat2_r, ws_0, ws_i, ws_r, ws_l, ws_d, aftr_n, aftr_s, bI_ok, bI_t, bI_f, up_s, up_n, n_bit, decide_true, decide_false, Bool.not_true, Bool.not_false, Bool.and_true, Bool.true_and, Bool.false_and, Bool.and_false, z4, m]
def totF (A : Row) (w k : Nat) : Nat := bif sentB A ((grps A).2 k) then (if w = 0 then 1 else if w = 1 then ((grps A).2 k).length else if w = 2 then pagesT A ((grps A).2 k) else pagesT A ((grps A).2 k) * A 5) else 0
set_option maxHeartbeats 4000000 in
theorem l132 {w : Nat} (hg : Good A) (hw : w < 4) (z4 : I (ad b 567) 4 = nI (A 4)) (z5 : I (ad b 567) 5 = nI (A 5)) (hl : LZ b I A) : ∀ d k s (x4 : Option Value), k + d = (grps A).1 → X z 132 4 [some (.ref (ad b 566)), some (.int (nI w)), some (.int (nI s)), some (.int (nI k)), x4] [] (0, 0) (KAt KL b, I, RAt RL b q, L, sz, ex) Q = Q (.inl (some (.int (nI (s + sumF (totF A w) k d))))) (KAt KL b, I, RAt RL b q, L, sz, ex) := by
  have h6 := hg.1.1
  have hn := grps_le hg
  have m12 := hl.1.1
  intro d
  induction d with
  | zero =>
    intro k s x4 hk
    rw [v132_4]
    simp (disch := omega) only [v132_5, v132_6, v132_9, v132_12, v132_13, v132_16, v132_17, v132_20, v132_21, v132_22, v132_25, v132_26, v132_29, v132_30, v132_31, v132_34, v132_35, v132_36, v132_39, v132_40, v132_43, v132_44, v132_45, v132_48, v132_49, v132_52, v132_53, v132_54, v132_55, v132_58, v132_59, v132_60, v132_61, v132_63, v132_64, v132_65, u132_66, v132_69, v132_72, v132_74, v132_77, v132_78, v132_79, v132_80, v132_83, v132_86, v132_87, k_566, k_567, k_568, k_569, k_570, k_571, k_572, k_573, k_574, k_575, k_576, r_566_0, r_566_2, r_566_4, r_566_6, r_566_7, r_566_8, r_566_9, r_566_10, r_566_11, r_566_13, va_rf_s, n_cl, n_in_t, n_lt_t, n_lt_f, n_eq_t, n_eq_f, n_sub, nI_add, n_mul, ↓reduceIte, if_true, if_false, eq_self, true_or, or_true, and_self, and_true, true_and, Nat.reduceAdd, Nat.reduceMul, Nat.reduceLeDiff, Nat.zero_le, not_true_eq_false, not_false_eq_true, cat2_n, cat2_i, cat2_r, ws_0, ws_i, ws_r, ws_l, ws_d, aftr_n, aftr_s, bI_ok, bI_t, bI_f, up_s, up_n, n_bit, decide_true, decide_false, Bool.not_true, Bool.not_false, Bool.and_true, Bool.true_and, Bool.false_and, Bool.and_false, m12]
    rfl
  | succ d ih =>
    intro k s x4 hk
    have mm := hl.1.2 k (by omega)
    have m3 := hl.2.2 k (by omega)
    unfold sumF
    rw [v132_4]
    rcases (show w = 0 ∨ w = 1 ∨ w = 2 ∨ w = 3 by omega) with rfl | rfl | rfl | rfl
    · cases hs : sentB A ((grps A).2 k) with
      | true =>
        simp (disch := omega) only [v132_5, v132_6, v132_9, v132_12, v132_13, v132_16, v132_17, v132_20, v132_21, v132_22, v132_25, v132_26, v132_29, v132_30, v132_31, v132_34, v132_35, v132_36, v132_39, v132_40, v132_43, v132_44, v132_45, v132_48, v132_49, v132_52, v132_53, v132_54, v132_55, v132_58, v132_59, v132_60, v132_61, v132_63, v132_64, v132_65, u132_66, v132_69, v132_72, v132_74, v132_77, v132_78, v132_79, v132_80, v132_83, v132_86, v132_87, k_566, k_567, k_568, k_569, k_570, k_571, k_572, k_573, k_574, k_575, k_576, r_566_0, r_566_2, r_566_4, r_566_6, r_566_7, r_566_8, r_566_9, r_566_10, r_566_11, r_566_13, va_rf_s, n_cl, n_in_t, n_lt_t, n_lt_f, n_eq_t, n_eq_f, n_sub, nI_add, n_mul, ↓reduceIte, if_true, if_false, eq_self, true_or, or_true, and_self, and_true, true_and, Nat.reduceAdd, Nat.reduceMul, Nat.reduceLeDiff, Nat.zero_le, not_true_eq_false, not_false_eq_true, cat2_n, cat2_i, cat2_r, ws_0, ws_i, ws_r, ws_l, ws_d, aftr_n, aftr_s, bI_ok, bI_t, bI_f, up_s, up_n, n_bit, decide_true, decide_false, Bool.not_true, Bool.not_false, Bool.and_true, Bool.true_and, Bool.false_and, Bool.and_false, m12, c131 hg z4 hl (k := k), hs, ih (k + 1)]
        rw [show totF A 0 k = 1 by unfold totF; rw [hs]; rfl, Nat.add_assoc]
      | false =>
        simp (disch := omega) only [v132_5, v132_6, v132_9, v132_12, v132_13, v132_16, v132_17, v132_20, v132_21, v132_22, v132_25, v132_26, v132_29, v132_30, v132_31, v132_34, v132_35, v132_36, v132_39, v132_40, v132_43, v132_44, v132_45, v132_48, v132_49, v132_52, v132_53, v132_54, v132_55, v132_58, v132_59, v132_60, v132_61, v132_63, v132_64, v132_65, u132_66, v132_69, v132_72, v132_74, v132_77, v132_78, v132_79, v132_80, v132_83, v132_86, v132_87, k_566, k_567, k_568, k_569, k_570, k_571, k_572, k_573, k_574, k_575, k_576, r_566_0, r_566_2, r_566_4, r_566_6, r_566_7, r_566_8, r_566_9, r_566_10, r_566_11, r_566_13, va_rf_s, n_cl, n_in_t, n_lt_t, n_lt_f, n_eq_t, n_eq_f, n_sub, nI_add, n_mul, ↓reduceIte, if_true, if_false, eq_self, true_or, or_true, and_self, and_true, true_and, Nat.reduceAdd, Nat.reduceMul, Nat.reduceLeDiff, Nat.zero_le, not_true_eq_false, not_false_eq_true, cat2_n, cat2_i, cat2_r, ws_0, ws_i, ws_r, ws_l, ws_d, aftr_n, aftr_s, bI_ok, bI_t, bI_f, up_s, up_n, n_bit, decide_true, decide_false, Bool.not_true, Bool.not_false, Bool.and_true, Bool.true_and, Bool.false_and, Bool.and_false, m12, c131 hg z4 hl (k := k), hs, ih (k + 1)]
        rw [show totF A 0 k = 0 by unfold totF; rw [hs]; rfl, Nat.add_assoc]
    · cases hs : sentB A ((grps A).2 k) with
      | true =>
        simp (disch := omega) only [v132_5, v132_6, v132_9, v132_12, v132_13, v132_16, v132_17, v132_20, v132_21, v132_22, v132_25, v132_26, v132_29, v132_30, v132_31, v132_34, v132_35, v132_36, v132_39, v132_40, v132_43, v132_44, v132_45, v132_48, v132_49, v132_52, v132_53, v132_54, v132_55, v132_58, v132_59, v132_60, v132_61, v132_63, v132_64, v132_65, u132_66, v132_69, v132_72, v132_74, v132_77, v132_78, v132_79, v132_80, v132_83, v132_86, v132_87, k_566, k_567, k_568, k_569, k_570, k_571, k_572, k_573, k_574, k_575, k_576, r_566_0, r_566_2, r_566_4, r_566_6, r_566_7, r_566_8, r_566_9, r_566_10, r_566_11, r_566_13, va_rf_s, n_cl, n_in_t, n_lt_t, n_lt_f, n_eq_t, n_eq_f, n_sub, nI_add, n_mul, ↓reduceIte, if_true, if_false, eq_self, true_or, or_true, and_self, and_true, true_and, Nat.reduceAdd, Nat.reduceMul, Nat.reduceLeDiff, Nat.zero_le, not_true_eq_false, not_false_eq_true, cat2_n, cat2_i, cat2_r, ws_0, ws_i, ws_r, ws_l, ws_d, aftr_n, aftr_s, bI_ok, bI_t, bI_f, up_s, up_n, n_bit, decide_true, decide_false, Bool.not_true, Bool.not_false, Bool.and_true, Bool.true_and, Bool.false_and, Bool.and_false, m12, mm.2, c131 hg z4 hl (k := k), hs, ih (k + 1)]
        rw [show totF A 1 k = ((grps A).2 k).length by unfold totF; rw [hs]; rfl, Nat.add_assoc]
      | false =>
        simp (disch := omega) only [v132_5, v132_6, v132_9, v132_12, v132_13, v132_16, v132_17, v132_20, v132_21, v132_22, v132_25, v132_26, v132_29, v132_30, v132_31, v132_34, v132_35, v132_36, v132_39, v132_40, v132_43, v132_44, v132_45, v132_48, v132_49, v132_52, v132_53, v132_54, v132_55, v132_58, v132_59, v132_60, v132_61, v132_63, v132_64, v132_65, u132_66, v132_69, v132_72, v132_74, v132_77, v132_78, v132_79, v132_80, v132_83, v132_86, v132_87, k_566, k_567, k_568, k_569, k_570, k_571, k_572, k_573, k_574, k_575, k_576, r_566_0, r_566_2, r_566_4, r_566_6, r_566_7, r_566_8, r_566_9, r_566_10, r_566_11, r_566_13, va_rf_s, n_cl, n_in_t, n_lt_t, n_lt_f, n_eq_t, n_eq_f, n_sub, nI_add, n_mul, ↓reduceIte, if_true, if_false, eq_self, true_or, or_true, and_self, and_true, true_and, Nat.reduceAdd, Nat.reduceMul, Nat.reduceLeDiff, Nat.zero_le, not_true_eq_false, not_false_eq_true, cat2_n, cat2_i, cat2_r, ws_0, ws_i, ws_r, ws_l, ws_d, aftr_n, aftr_s, bI_ok, bI_t, bI_f, up_s, up_n, n_bit, decide_true, decide_false, Bool.not_true, Bool.not_false, Bool.and_true, Bool.true_and, Bool.false_and, Bool.and_false, m12, mm.2, c131 hg z4 hl (k := k), hs, ih (k + 1)]
        rw [show totF A 1 k = 0 by unfold totF; rw [hs]; rfl, Nat.add_assoc]
    · cases hs : sentB A ((grps A).2 k) with
      | true =>
        simp (disch := omega) only [v132_5, v132_6, v132_9, v132_12, v132_13, v132_16, v132_17, v132_20, v132_21, v132_22, v132_25, v132_26, v132_29, v132_30, v132_31, v132_34, v132_35, v132_36, v132_39, v132_40, v132_43, v132_44, v132_45, v132_48, v132_49, v132_52, v132_53, v132_54, v132_55, v132_58, v132_59, v132_60, v132_61, v132_63, v132_64, v132_65, u132_66, v132_69, v132_72, v132_74, v132_77, v132_78, v132_79, v132_80, v132_83, v132_86, v132_87, k_566, k_567, k_568, k_569, k_570, k_571, k_572, k_573, k_574, k_575, k_576, r_566_0, r_566_2, r_566_4, r_566_6, r_566_7, r_566_8, r_566_9, r_566_10, r_566_11, r_566_13, va_rf_s, n_cl, n_in_t, n_lt_t, n_lt_f, n_eq_t, n_eq_f, n_sub, nI_add, n_mul, ↓reduceIte, if_true, if_false, eq_self, true_or, or_true, and_self, and_true, true_and, Nat.reduceAdd, Nat.reduceMul, Nat.reduceLeDiff, Nat.zero_le, not_true_eq_false, not_false_eq_true, cat2_n, cat2_i, cat2_r, ws_0, ws_i, ws_r, ws_l, ws_d, aftr_n, aftr_s, bI_ok, bI_t, bI_f, up_s, up_n, n_bit, decide_true, decide_false, Bool.not_true, Bool.not_false, Bool.and_true, Bool.true_and, Bool.false_and, Bool.and_false, m12, m3.2.2, c131 hg z4 hl (k := k), hs, ih (k + 1)]
        rw [show totF A 2 k = pagesT A ((grps A).2 k) by unfold totF; rw [hs]; rfl, Nat.add_assoc]
      | false =>
        simp (disch := omega) only [v132_5, v132_6, v132_9, v132_12, v132_13, v132_16, v132_17, v132_20, v132_21, v132_22, v132_25, v132_26, v132_29, v132_30, v132_31, v132_34, v132_35, v132_36, v132_39, v132_40, v132_43, v132_44, v132_45, v132_48, v132_49, v132_52, v132_53, v132_54, v132_55, v132_58, v132_59, v132_60, v132_61, v132_63, v132_64, v132_65, u132_66, v132_69, v132_72, v132_74, v132_77, v132_78, v132_79, v132_80, v132_83, v132_86, v132_87, k_566, k_567, k_568, k_569, k_570, k_571, k_572, k_573, k_574, k_575, k_576, r_566_0, r_566_2, r_566_4, r_566_6, r_566_7, r_566_8, r_566_9, r_566_10, r_566_11, r_566_13, va_rf_s, n_cl, n_in_t, n_lt_t, n_lt_f, n_eq_t, n_eq_f, n_sub, nI_add, n_mul, ↓reduceIte, if_true, if_false, eq_self, true_or, or_true, and_self, and_true, true_and, Nat.reduceAdd, Nat.reduceMul, Nat.reduceLeDiff, Nat.zero_le, not_true_eq_false, not_false_eq_true, cat2_n, cat2_i, cat2_r, ws_0, ws_i, ws_r, ws_l, ws_d, aftr_n, aftr_s, bI_ok, bI_t, bI_f, up_s, up_n, n_bit, decide_true, decide_false, Bool.not_true, Bool.not_false, Bool.and_true, Bool.true_and, Bool.false_and, Bool.and_false, m12, m3.2.2, c131 hg z4 hl (k := k), hs, ih (k + 1)]
        rw [show totF A 2 k = 0 by unfold totF; rw [hs]; rfl, Nat.add_assoc]
    · cases hs : sentB A ((grps A).2 k) with
      | true =>
        simp (disch := omega) only [v132_5, v132_6, v132_9, v132_12, v132_13, v132_16, v132_17, v132_20, v132_21, v132_22, v132_25, v132_26, v132_29, v132_30, v132_31, v132_34, v132_35, v132_36, v132_39, v132_40, v132_43, v132_44, v132_45, v132_48, v132_49, v132_52, v132_53, v132_54, v132_55, v132_58, v132_59, v132_60, v132_61, v132_63, v132_64, v132_65, u132_66, v132_69, v132_72, v132_74, v132_77, v132_78, v132_79, v132_80, v132_83, v132_86, v132_87, k_566, k_567, k_568, k_569, k_570, k_571, k_572, k_573, k_574, k_575, k_576, r_566_0, r_566_2, r_566_4, r_566_6, r_566_7, r_566_8, r_566_9, r_566_10, r_566_11, r_566_13, va_rf_s, n_cl, n_in_t, n_lt_t, n_lt_f, n_eq_t, n_eq_f, n_sub, nI_add, n_mul, ↓reduceIte, if_true, if_false, eq_self, true_or, or_true, and_self, and_true, true_and, Nat.reduceAdd, Nat.reduceMul, Nat.reduceLeDiff, Nat.zero_le, not_true_eq_false, not_false_eq_true, cat2_n, cat2_i, cat2_r, ws_0, ws_i, ws_r, ws_l, ws_d, aftr_n, aftr_s, bI_ok, bI_t, bI_f, up_s, up_n, n_bit, decide_true, decide_false, Bool.not_true, Bool.not_false, Bool.and_true, Bool.true_and, Bool.false_and, Bool.and_false, m12, m3.2.2, z5, c131 hg z4 hl (k := k), hs, ih (k + 1)]
        rw [show totF A 3 k = pagesT A ((grps A).2 k) * A 5 by unfold totF; rw [hs]; rfl, Nat.add_assoc]
      | false =>
        simp (disch := omega) only [v132_5, v132_6, v132_9, v132_12, v132_13, v132_16, v132_17, v132_20, v132_21, v132_22, v132_25, v132_26, v132_29, v132_30, v132_31, v132_34, v132_35, v132_36, v132_39, v132_40, v132_43, v132_44, v132_45, v132_48, v132_49, v132_52, v132_53, v132_54, v132_55, v132_58, v132_59, v132_60, v132_61, v132_63, v132_64, v132_65, u132_66, v132_69, v132_72, v132_74, v132_77, v132_78, v132_79, v132_80, v132_83, v132_86, v132_87, k_566, k_567, k_568, k_569, k_570, k_571, k_572, k_573, k_574, k_575, k_576, r_566_0, r_566_2, r_566_4, r_566_6, r_566_7, r_566_8, r_566_9, r_566_10, r_566_11, r_566_13, va_rf_s, n_cl, n_in_t, n_lt_t, n_lt_f, n_eq_t, n_eq_f, n_sub, nI_add, n_mul, ↓reduceIte, if_true, if_false, eq_self, true_or, or_true, and_self, and_true, true_and, Nat.reduceAdd, Nat.reduceMul, Nat.reduceLeDiff, Nat.zero_le, not_true_eq_false, not_false_eq_true, cat2_n, cat2_i, cat2_r, ws_0, ws_i, ws_r, ws_l, ws_d, aftr_n, aftr_s, bI_ok, bI_t, bI_f, up_s, up_n, n_bit, decide_true, decide_false, Bool.not_true, Bool.not_false, Bool.and_true, Bool.true_and, Bool.false_and, Bool.and_false, m12, m3.2.2, z5, c131 hg z4 hl (k := k), hs, ih (k + 1)]
        rw [show totF A 3 k = 0 by unfold totF; rw [hs]; rfl, Nat.add_assoc]
theorem c132 {w : Nat} (hg : Good A) (hw : w < 4) (z4 : I (ad b 567) 4 = nI (A 4)) (z5 : I (ad b 567) 5 = nI (A 5)) (hl : LZ b I A) : X z 132 0 [some (.ref (ad b 566)), some (.int (nI w)), none, none, none] [] (0, 0) (KAt KL b, I, RAt RL b q, L, sz, ex) Q = Q (.inl (some (.int (nI (totS A w))))) (KAt KL b, I, RAt RL b q, L, sz, ex) := by
  simp (disch := omega) only [v132_0, v132_1, v132_2, v132_3, k_566, k_567, k_568, k_569, k_570, k_571, k_572, k_573, k_574, k_575, k_576, r_566_0, r_566_2, r_566_4, r_566_6, r_566_7, r_566_8, r_566_9, r_566_10, r_566_11, r_566_13, va_rf_s, n_cl, n_in_t, n_lt_t, n_lt_f, n_eq_t, n_eq_f, n_sub, nI_add, n_mul, ↓reduceIte, if_true, if_false, eq_self, true_or, or_true, and_self, and_true, true_and, Nat.reduceAdd, Nat.reduceMul, Nat.reduceLeDiff, Nat.zero_le, not_true_eq_false, not_false_eq_true, cat2_n, cat2_i, cat2_r, ws_0, ws_i, ws_r, ws_l, ws_d, aftr_n, aftr_s, bI_ok, bI_t, bI_f, up_s, up_n, n_bit, decide_true, decide_false, Bool.not_true, Bool.not_false, Bool.and_true, Bool.true_and, Bool.false_and, Bool.and_false, l132 hg hw z4 z5 hl (grps A).1 0 0, Nat.zero_add]
  rfl
end RI
