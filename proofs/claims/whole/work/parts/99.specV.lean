/-! THE REFERENCE: adding a word; taking a letter -/
section OV
variable {z : P0} {KL : Nat → Nat × Nat} {RL : Nat → Nat → Option Nat} {q : Nat → Nat} {b : Nat} {I : Nat → Nat → Int32} {L : Nat → Nat → Int64} {sz : Nat} {ex : Bool} {Q : Res → Mem → Prop} {A : Row}
variable {n : Nat} {H : Nat → Row} {B : List Nat}
theorem l134 {X0 : Row} {w g fg : Nat} (hw : w < 10) (hfg : fg ≤ 8) (hfB : fg ≤ B.length) : ∀ (R D : List Nat) I, D ++ R = B.take fg → RS b I (updL X0 (333 + 8 * w) D, n, H, B) → I (ad b 566) 18 = nI fg → (∀ I', RS b I' (updL X0 (333 + 8 * w) (B.take fg), n, H, []) → Ag pRef b I I' → I' (ad b 566) 5 = I (ad b 566) 5 → Q (.inl (some (.int (nI w)))) (KAt KL b, I', RAt RL b q, L, sz, ex)) →
    X z 134 125 [some (.ref (ad b 566)), some (.int (nI g)), some (.int (nI w)), some (.int (nI D.length))] [] (0, 0) (KAt KL b, I, RAt RL b q, L, sz, ex) Q := by
  have hlen : (B.take fg).length = fg := by rw [List.length_take]; omega
  intro R
  induction R with
  | nil =>
    intro D I hD hs m hQ
    rw [List.append_nil] at hD
    subst hD
    rw [v134_125]
    simp (disch := omega) only [v134_126, v134_127, v134_130, v134_133, v134_134, v134_137, v134_140, v134_142, v134_143, v134_144, v134_145, v134_146, v134_147, v134_148, v134_151, v134_152, v134_153, v134_154, v134_157, v134_160, v134_161, v134_162, v134_165, v134_166, k_566, k_567, k_568, k_569, k_570, k_571, k_572, k_573, k_574, k_575, k_576, r_566_0, r_566_2, r_566_4, r_566_6, r_566_7, r_566_8, r_566_9, r_566_10, r_566_11, r_566_13, va_rf_s, n_cl, n_in_t, n_lt_t, n_lt_f, n_eq_t, n_eq_f, n_sub, nI_add, n_mul, ↓reduceIte, if_true, if_false, eq_self, true_or, or_true, and_self, and_true, true_and, Nat.reduceAdd, Nat.reduceMul, Nat.reduceLeDiff, Nat.zero_le, not_true_eq_false, not_false_eq_true, cat2_n, cat2_i, cat2_r, ws_0, ws_i, ws_r, ws_l, ws_d, aftr_n, aftr_s, bI_ok, bI_t, bI_f, up_s, up_n, n_bit, decide_true, decide_false, Bool.not_true, Bool.not_false, Bool.and_true, Bool.true_and, Bool.false_and, Bool.and_false, m]
    exact hQ _ hs.clr (Ag.rf.up (by unfold pRef; omega)) (up_n (by omega))
  | cons c R ih =>
    intro D I hD hs m hQ
    have hL : D.length + (R.length + 1) = fg := by rw [← hlen, ← hD, List.length_append, List.length_cons]
    have hb := hs.buf (k := D.length) (by omega)
    have hc := hs.chr (k := D.length) (by omega)
    have hd : B.getD D.length 0 = c := by
      have h1 : (B.take fg).getD D.length 0 = c := by rw [← hD]; exact getD_mid
      rw [List.getD_eq_getElem?_getD, List.getElem?_take_of_lt (by omega), ← List.getD_eq_getElem?_getD] at h1
      exact h1
    rw [hd] at hb hc
    rw [v134_125]
    simp (disch := omega) only [v134_126, v134_127, v134_130, v134_133, v134_134, v134_137, v134_140, v134_142, v134_143, v134_144, v134_145, v134_146, v134_147, v134_148, v134_151, v134_152, v134_153, v134_154, v134_157, v134_160, v134_161, v134_162, v134_165, v134_166, k_566, k_567, k_568, k_569, k_570, k_571, k_572, k_573, k_574, k_575, k_576, r_566_0, r_566_2, r_566_4, r_566_6, r_566_7, r_566_8, r_566_9, r_566_10, r_566_11, r_566_13, va_rf_s, n_cl, n_in_t, n_lt_t, n_lt_f, n_eq_t, n_eq_f, n_sub, nI_add, n_mul, ↓reduceIte, if_true, if_false, eq_self, true_or, or_true, and_self, and_true, true_and, Nat.reduceAdd, Nat.reduceMul, Nat.reduceLeDiff, Nat.zero_le, not_true_eq_false, not_false_eq_true, cat2_n, cat2_i, cat2_r, ws_0, ws_i, ws_r, ws_l, ws_d, aftr_n, aftr_s, bI_ok, bI_t, bI_f, up_s, up_n, n_bit, decide_true, decide_false, Bool.not_true, Bool.not_false, Bool.and_true, Bool.true_and, Bool.false_and, Bool.and_false, m, hb]
    have s2 := hs.setz (k := 333 + 8 * w + D.length) (v := c) (by omega) (by omega)
    rw [updL_snoc] at s2
    have := ih (D ++ [c]) _ (by rw [List.append_assoc]; exact hD) s2 (by rw [up_n (by omega)]; exact m) (fun I2 q1 q2 q3 => hQ I2 q1 ((Ag.rf.up (by unfold pRef; omega)).tr q2) (q3.trans (up_n (by omega))))
    rwa [List.length_append, List.length_singleton] at this
set_option maxHeartbeats 8000000 in
theorem c134 (hs : RS b I (A, n, H, B)) (hg : Good A) (hQ : RQ b I (opAddW (A, n, H, B)) fun v I' => Q (.inl (some (.int (nI v)))) (KAt KL b, I', RAt RL b q, L, sz, ex)) : X z 134 0 [some (.ref (ad b 566)), none, none, none] [] (0, 0) (KAt KL b, I, RAt RL b q, L, sz, ex) Q := by
  have h7 := hg.1.2.1
  have hl := hs.len.1
  have hb60 := hs.len.2
  unfold opAddW at hQ
  dsimp only at hQ
  simp (disch := omega) only [v134_0, v134_1, u134_2, k_566, k_567, k_568, k_569, k_570, k_571, k_572, k_573, k_574, k_575, k_576, r_566_0, r_566_2, r_566_4, r_566_6, r_566_7, r_566_8, r_566_9, r_566_10, r_566_11, r_566_13, va_rf_s, n_cl, n_in_t, n_lt_t, n_lt_f, n_eq_t, n_eq_f, n_sub, nI_add, n_mul, ↓reduceIte, if_true, if_false, eq_self, true_or, or_true, and_self, and_true, true_and, Nat.reduceAdd, Nat.reduceMul, Nat.reduceLeDiff, Nat.zero_le, not_true_eq_false, not_false_eq_true, cat2_n, cat2_i, cat2_r, ws_0, ws_i, ws_r, ws_l, ws_d, aftr_n, aftr_s, bI_ok, bI_t, bI_f, up_s, up_n, n_bit, decide_true, decide_false, Bool.not_true, Bool.not_false, Bool.and_true, Bool.true_and, Bool.false_and, Bool.and_false]
  refine c150 (by omega) hs (fun I1 g1 h1 => ?_)
  have hl1 : I1 (ad b 566) 3 = nI B.length := (g1.at (fun x => by unfold pSx at x; omega)).trans hl
  have rl : rgt 1 B ≤ B.length := wE_le B 0
  have no : ¬ (cpl 1 B = true) → X z 134 24 [some (.ref (ad b 566)), none, none, none] [] (0, 0) (KAt KL b, I1, RAt RL b q, L, sz, ex) Q := by
    intro e
    rw [if_neg e] at hQ
    simp (disch := omega) only [v134_24, v134_25, v134_26, v134_27, v134_28, v134_31, v134_32, v134_35, v134_36, v134_39, v134_41, v134_42, v134_44, v134_47, v134_48, v134_51, v134_52, v134_55, v134_56, v134_59, v134_62, v134_63, k_566, k_567, k_568, k_569, k_570, k_571, k_572, k_573, k_574, k_575, k_576, r_566_0, r_566_2, r_566_4, r_566_6, r_566_7, r_566_8, r_566_9, r_566_10, r_566_11, r_566_13, va_rf_s, n_cl, n_in_t, n_lt_t, n_lt_f, n_eq_t, n_eq_f, n_sub, nI_add, n_mul, ↓reduceIte, if_true, if_false, eq_self, true_or, or_true, and_self, and_true, true_and, Nat.reduceAdd, Nat.reduceMul, Nat.reduceLeDiff, Nat.zero_le, not_true_eq_false, not_false_eq_true, cat2_n, cat2_i, cat2_r, ws_0, ws_i, ws_r, ws_l, ws_d, aftr_n, aftr_s, bI_ok, bI_t, bI_f, up_s, up_n, n_bit, decide_true, decide_false, Bool.not_true, Bool.not_false, Bool.and_true, Bool.true_and, Bool.false_and, Bool.and_false]
    exact hQ _ 0 (hs.sx g1).thr up_s ((g1.mn pSx_r).tr (agThr.mn pThr_r)) (fun x => ne_s x)
  by_cases e3 : rgt 1 B = B.length
  · have hw := (h1 e3).1
    obtain ⟨m18, m19⟩ := (h1 e3).2 rfl
    simp (disch := omega) only [v134_5, v134_6, v134_9, v134_12, v134_13, u134_14, v134_17, k_566, k_567, k_568, k_569, k_570, k_571, k_572, k_573, k_574, k_575, k_576, r_566_0, r_566_2, r_566_4, r_566_6, r_566_7, r_566_8, r_566_9, r_566_10, r_566_11, r_566_13, va_rf_s, n_cl, n_in_t, n_lt_t, n_lt_f, n_eq_t, n_eq_f, n_sub, nI_add, n_mul, ↓reduceIte, if_true, if_false, eq_self, true_or, or_true, and_self, and_true, true_and, Nat.reduceAdd, Nat.reduceMul, Nat.reduceLeDiff, Nat.zero_le, not_true_eq_false, not_false_eq_true, cat2_n, cat2_i, cat2_r, ws_0, ws_i, ws_r, ws_l, ws_d, aftr_n, aftr_s, bI_ok, bI_t, bI_f, up_s, up_n, n_bit, decide_true, decide_false, Bool.not_true, Bool.not_false, Bool.and_true, Bool.true_and, Bool.false_and, Bool.and_false, hl1, hw]
    cases hc : whl 1 B with
    | false =>
      rw [if_pos (by rw [bI_f])]
      exact no (fun x => by rw [cpl_eq, hc, Bool.and_false] at x; exact absurd x (by decide))
    | true =>
      rw [if_neg (by rw [bI_t]; exact fun x => absurd (n_inj (by omega) (by omega) x) (by omega))]
      have hcp : cpl 1 B = true := by rw [cpl_eq, hc, decide_eq_true e3]; rfl
      rw [if_pos hcp] at hQ
      have hs1 := hs.sx g1
      have hz1 : RZ b I1 A := hs1.rz
      have ll := ldr_le 8 B
      by_cases e6 : A 7 < 10
      · rw [if_pos e6] at hQ
        simp (disch := omega) only [v134_20, v134_21, v134_24, v134_25, v134_26, v134_27, v134_28, v134_31, v134_32, v134_35, v134_36, v134_39, v134_41, v134_42, v134_44, v134_47, v134_48, v134_51, v134_52, v134_55, v134_56, v134_59, v134_62, v134_63, v134_64, u134_65, k_566, k_567, k_568, k_569, k_570, k_571, k_572, k_573, k_574, k_575, k_576, r_566_0, r_566_2, r_566_4, r_566_6, r_566_7, r_566_8, r_566_9, r_566_10, r_566_11, r_566_13, va_rf_s, n_cl, n_in_t, n_lt_t, n_lt_f, n_eq_t, n_eq_f, n_sub, nI_add, n_mul, ↓reduceIte, if_true, if_false, eq_self, true_or, or_true, and_self, and_true, true_and, Nat.reduceAdd, Nat.reduceMul, Nat.reduceLeDiff, Nat.zero_le, not_true_eq_false, not_false_eq_true, cat2_n, cat2_i, cat2_r, ws_0, ws_i, ws_r, ws_l, ws_d, aftr_n, aftr_s, bI_ok, bI_t, bI_f, up_s, up_n, n_bit, decide_true, decide_false, Bool.not_true, Bool.not_false, Bool.and_true, Bool.true_and, Bool.false_and, Bool.and_false, hz1.at]
        refine c107 hs1.thr (fun I2 g2 g3 => ?_)
        have hz2 : RZ b I2 A := g2.rz
        have k18 : I2 (ad b 566) 18 = nI (ldr 8 B) := (g3.at (fun x => by unfold pSv at x; omega)).trans ((up_n (by omega)).trans m18)
        have k19 : I2 (ad b 566) 19 = nI (if ldr 8 B < B.length then 1 else 0) := (g3.at (fun x => by unfold pSv at x; omega)).trans ((up_n (by omega)).trans m19)
        have fr : Ag pRef b I I2 := ((g1.mn pSx_r).tr (agThr.mn pThr_r)).tr (g3.mn pSv_r)
        have t5 : I2 (ad b 566) 5 = nI 0 := (g3.at (fun x => by unfold pSv at x; omega)).trans up_s
        have fin : X z 134 123 [some (.ref (ad b 566)), some (.int (nI 1)), some (.int (nI (A 7))), none] [] (0, 0) (KAt KL b, up2 (up2 (up2 I2 (ad b 567) 7 (nI (A 7 + 1))) (ad b 567) (323 + A 7) (nI (if ldr 8 B < B.length then 1 else 0))) (ad b 567) (313 + A 7) (nI (ldr 8 B)), RAt RL b q, L, sz, ex) Q := by
          simp (disch := omega) only [v134_123, v134_124, k_566, k_567, k_568, k_569, k_570, k_571, k_572, k_573, k_574, k_575, k_576, r_566_0, r_566_2, r_566_4, r_566_6, r_566_7, r_566_8, r_566_9, r_566_10, r_566_11, r_566_13, va_rf_s, n_cl, n_in_t, n_lt_t, n_lt_f, n_eq_t, n_eq_f, n_sub, nI_add, n_mul, ↓reduceIte, if_true, if_false, eq_self, true_or, or_true, and_self, and_true, true_and, Nat.reduceAdd, Nat.reduceMul, Nat.reduceLeDiff, Nat.zero_le, not_true_eq_false, not_false_eq_true, cat2_n, cat2_i, cat2_r, ws_0, ws_i, ws_r, ws_l, ws_d, aftr_n, aftr_s, bI_ok, bI_t, bI_f, up_s, up_n, n_bit, decide_true, decide_false, Bool.not_true, Bool.not_false, Bool.and_true, Bool.true_and, Bool.false_and, Bool.and_false]
          have s2 := ((g2.setz (k := 7) (v := A 7 + 1) (by omega) (by omega)).setz (k := 323 + A 7) (v := if ldr 8 B < B.length then 1 else 0) (by omega) (by split <;> omega)).setz (k := 313 + A 7) (v := ldr 8 B) (by omega) (by omega)
          refine l134 (X0 := worR A (A 7) (if ldr 8 B < B.length then 1 else 0) (ldr 8 B)) (w := A 7) (fg := ldr 8 B) e6 ll.1 ll.2 (B.take (ldr 8 B)) [] _ rfl (by rw [updL_nil]; exact s2) (by rw [up_n (by omega), up_n (by omega), up_n (by omega)]; exact k18) (fun I3 q1 q2 q3 => ?_)
          refine hQ I3 _ q1 (q3.trans ?_) ((((fr.up (by unfold pRef; omega)).up (by unfold pRef; omega)).up (by unfold pRef; omega)).tr q2) (fun _ => rfl)
          rw [up_n (by omega), up_n (by omega), up_n (by omega), t5]
        by_cases e7 : ldr 8 B < B.length
        · rw [if_pos e7] at k19 fin
          simp (disch := omega) only [v134_68, v134_69, v134_72, v134_74, v134_75, v134_76, v134_77, v134_80, v134_82, v134_83, v134_84, v134_85, v134_86, v134_87, v134_88, v134_91, v134_94, v134_95, v134_96, v134_97, v134_100, v134_103, v134_104, v134_107, v134_108, v134_109, v134_110, v134_113, v134_116, v134_117, v134_118, v134_119, v134_122, k_566, k_567, k_568, k_569, k_570, k_571, k_572, k_573, k_574, k_575, k_576, r_566_0, r_566_2, r_566_4, r_566_6, r_566_7, r_566_8, r_566_9, r_566_10, r_566_11, r_566_13, va_rf_s, n_cl, n_in_t, n_lt_t, n_lt_f, n_eq_t, n_eq_f, n_sub, nI_add, n_mul, ↓reduceIte, if_true, if_false, eq_self, true_or, or_true, and_self, and_true, true_and, Nat.reduceAdd, Nat.reduceMul, Nat.reduceLeDiff, Nat.zero_le, not_true_eq_false, not_false_eq_true, cat2_n, cat2_i, cat2_r, ws_0, ws_i, ws_r, ws_l, ws_d, aftr_n, aftr_s, bI_ok, bI_t, bI_f, up_s, up_n, n_bit, decide_true, decide_false, Bool.not_true, Bool.not_false, Bool.and_true, Bool.true_and, Bool.false_and, Bool.and_false, hz2.at, k18, k19]
          exact fin
        · rw [if_neg e7] at k19 fin
          simp (disch := omega) only [v134_68, v134_69, v134_72, v134_74, v134_75, v134_76, v134_77, v134_80, v134_82, v134_83, v134_84, v134_85, v134_86, v134_87, v134_88, v134_91, v134_94, v134_95, v134_96, v134_97, v134_100, v134_103, v134_104, v134_107, v134_108, v134_109, v134_110, v134_113, v134_116, v134_117, v134_118, v134_119, v134_122, k_566, k_567, k_568, k_569, k_570, k_571, k_572, k_573, k_574, k_575, k_576, r_566_0, r_566_2, r_566_4, r_566_6, r_566_7, r_566_8, r_566_9, r_566_10, r_566_11, r_566_13, va_rf_s, n_cl, n_in_t, n_lt_t, n_lt_f, n_eq_t, n_eq_f, n_sub, nI_add, n_mul, ↓reduceIte, if_true, if_false, eq_self, true_or, or_true, and_self, and_true, true_and, Nat.reduceAdd, Nat.reduceMul, Nat.reduceLeDiff, Nat.zero_le, not_true_eq_false, not_false_eq_true, cat2_n, cat2_i, cat2_r, ws_0, ws_i, ws_r, ws_l, ws_d, aftr_n, aftr_s, bI_ok, bI_t, bI_f, up_s, up_n, n_bit, decide_true, decide_false, Bool.not_true, Bool.not_false, Bool.and_true, Bool.true_and, Bool.false_and, Bool.and_false, hz2.at, k18, k19]
          exact fin
      · rw [if_neg e6] at hQ
        simp (disch := omega) only [v134_20, v134_21, v134_24, v134_25, v134_26, v134_27, v134_28, v134_31, v134_32, v134_35, v134_36, v134_39, v134_41, v134_42, v134_44, v134_47, v134_48, v134_51, v134_52, v134_55, v134_56, v134_59, v134_62, v134_63, k_566, k_567, k_568, k_569, k_570, k_571, k_572, k_573, k_574, k_575, k_576, r_566_0, r_566_2, r_566_4, r_566_6, r_566_7, r_566_8, r_566_9, r_566_10, r_566_11, r_566_13, va_rf_s, n_cl, n_in_t, n_lt_t, n_lt_f, n_eq_t, n_eq_f, n_sub, nI_add, n_mul, ↓reduceIte, if_true, if_false, eq_self, true_or, or_true, and_self, and_true, true_and, Nat.reduceAdd, Nat.reduceMul, Nat.reduceLeDiff, Nat.zero_le, not_true_eq_false, not_false_eq_true, cat2_n, cat2_i, cat2_r, ws_0, ws_i, ws_r, ws_l, ws_d, aftr_n, aftr_s, bI_ok, bI_t, bI_f, up_s, up_n, n_bit, decide_true, decide_false, Bool.not_true, Bool.not_false, Bool.and_true, Bool.true_and, Bool.false_and, Bool.and_false, hz1.at]
        exact hQ _ 0 hs1.thr up_s ((g1.mn pSx_r).tr (agThr.mn pThr_r)) (fun x => ne_s x)
  · simp (disch := omega) only [v134_5, v134_6, v134_9, v134_12, v134_13, u134_14, v134_17, k_566, k_567, k_568, k_569, k_570, k_571, k_572, k_573, k_574, k_575, k_576, r_566_0, r_566_2, r_566_4, r_566_6, r_566_7, r_566_8, r_566_9, r_566_10, r_566_11, r_566_13, va_rf_s, n_cl, n_in_t, n_lt_t, n_lt_f, n_eq_t, n_eq_f, n_sub, nI_add, n_mul, ↓reduceIte, if_true, if_false, eq_self, true_or, or_true, and_self, and_true, true_and, Nat.reduceAdd, Nat.reduceMul, Nat.reduceLeDiff, Nat.zero_le, not_true_eq_false, not_false_eq_true, cat2_n, cat2_i, cat2_r, ws_0, ws_i, ws_r, ws_l, ws_d, aftr_n, aftr_s, bI_ok, bI_t, bI_f, up_s, up_n, n_bit, decide_true, decide_false, Bool.not_true, Bool.not_false, Bool.and_true, Bool.true_and, Bool.false_and, Bool.and_false, hl1]
    exact no (fun x => by rw [cpl_eq, decide_eq_false e3, Bool.false_and] at x; exact absurd x (by decide))
end OV
