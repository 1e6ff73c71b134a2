/-! THE CLASS: set, pass, append, clearBuffer, firstError, undo -/
section CP
variable {z : P0} {KL : Nat → Nat × Nat} {RL : Nat → Nat → Option Nat} {q : Nat → Nat} {b : Nat} {I : Nat → Nat → Int32} {L : Nat → Nat → Int64} {sz : Nat} {ex : Bool} {Q : Res → Mem → Prop} {A : Row}
variable {n : Nat} {H : Nat → Row} {B : List Nat} {s : Nat}
theorem SP.sc {f base v : Nat} (hf : (f = 6 ∧ base = 8) ∨ (f = 7 ∧ base = 9) ∨ (f = 8 ∧ base = 10) ∨ (f = 9 ∧ base = 11)) (h : SP b I s A) (h6 : A 6 ≤ 20) (h7 : A 7 ≤ 10) : SP b (up2 I (ad b s) f (nI v)) s (upr A base v) := by
  obtain ⟨⟨a1, a2, a3, a4, a5, a6⟩, a7, a8, a9⟩ := h
  have fl : ∀ f' base', (f' = f ∧ base' = base ∨ f' ≠ f ∧ base' ≠ base) → I (ad b s) f' = nI (A base') → up2 I (ad b s) f (nI v) (ad b s) f' = nI (upr A base v base') := by
    intro f' base' hc hv
    rcases hc with ⟨e1, e2⟩ | ⟨e1, e2⟩
    · rw [e1, e2, up_s, upr_s]
    · rw [up_n (by omega), upr_n (by omega)]; exact hv
  refine ⟨⟨fl 1 6 (by omega) a1, fl 3 7 (by omega) a2, fl 6 8 (by omega) a3, fl 7 9 (by omega) a4, fl 8 10 (by omega) a5, fl 9 11 (by omega) a6⟩, fun i hi => ?_, fun w hw => ?_, ?_⟩
  · rw [upr_n (by omega)] at hi
    have a := a7 i hi
    obtain ⟨b1, b2, b3, b4, b5, b6, b7, b8⟩ := a.ag (P := fun o _ => o = s) (Ag.rf.up (b := b) (I := I) (o := s) (j := f) (v := nI v) rfl) (fun j x => by omega) (fun j x => by omega)
    refine ⟨by rw [upr_n (by omega)]; exact b1, by rw [upr_n (by omega)]; exact b2, by rw [upr_n (by omega)]; exact b3, by rw [upr_n (by omega)]; exact b4, by rw [upr_n (by omega)]; exact b5, by rw [upr_n (by omega)]; exact b6, by rw [upr_n (by omega)]; exact b7, fun k hk => ?_⟩
    rw [upr_n (by omega)] at hk ⊢
    exact b8 k hk
  · rw [upr_n (by omega)] at hw
    have a := a8 w hw
    obtain ⟨b1, b2, b3⟩ := a.ag (P := fun o _ => o = s) (Ag.rf.up (b := b) (I := I) (o := s) (j := f) (v := nI v) rfl) (fun j x => by omega) (fun j x => by omega)
    refine ⟨by rw [upr_n (by omega)]; exact b1, by rw [upr_n (by omega)]; exact b2, fun k hk => ?_⟩
    rw [upr_n (by omega)] at hk ⊢
    exact b3 k hk
  · unfold IR raw
    rw [toks_upr (by omega)]
    exact ⟨by rw [up_n (by omega)]; exact a9.1, fun k hk => by rw [up_n (by omega)]; exact a9.2 k hk⟩
theorem SR.sc {f base v : Nat} (hf : (f = 6 ∧ base = 8) ∨ (f = 7 ∧ base = 9) ∨ (f = 8 ∧ base = 10) ∨ (f = 9 ∧ base = 11)) (h : SR b I s A) (h6 : A 6 ≤ 20) (h7 : A 7 ≤ 10) : SR b (up2 I (ad b s) f (nI v)) s (upr A base v) :=
  ⟨h.1.sc hf h6 h7, fun k hk => by rw [up_n (by omega), upr_n (by omega)]; exact h.2 k hk⟩
theorem SP.ag5 {P : Nat → Nat → Prop} {I' : Nat → Nat → Int32} (h6 : A 6 ≤ 20) (h7 : A 7 ≤ 10) (h : SP b I s A) (hg : Ag P b I I') (hP : ∀ o j, s ≤ o → o < s + 66 → o ≠ s + 5 → ¬ P o j) : SP b I' s A := by
  obtain ⟨⟨a1, a2, a3, a4, a5, a6⟩, a7, a8, a9⟩ := h
  have k : ∀ {j}, I' (ad b s) j = I (ad b s) j := hg.at (hP _ _ (Nat.le_refl _) (by omega) (by omega))
  exact ⟨⟨k.trans a1, k.trans a2, k.trans a3, k.trans a4, k.trans a5, k.trans a6⟩, fun i hi => (a7 i hi).ag hg (fun j => hP _ _ (by omega) (by omega) (by omega)) (fun j => hP _ _ (by omega) (by omega) (by omega)), fun w hw => (a8 w hw).ag hg (fun j => hP _ _ (by omega) (by omega) (by omega)) (fun j => hP _ _ (by omega) (by omega) (by omega)), a9.ag hg (fun j => hP _ _ (by omega) (by omega) (by omega)) (fun j => hP _ _ (by omega) (by omega) (by omega))⟩
theorem SR.st {k v : Nat} (h : SR b I s A) (hk : k ≤ 5) (h6 : A 6 ≤ 20) (h7 : A 7 ≤ 10) : SR b (up2 I (ad b (s + 5)) k (nI v)) s (upr A k v) := by
  have a := h.1.ag5 h6 h7 (P := fun o _ => o = s + 5) (Ag.rf.up (b := b) (I := I) (o := s + 5) (j := k) (v := nI v) rfl) (fun o j x y z => by omega)
  refine ⟨a.set hk, fun j hj => ?_⟩
  by_cases e : j = k
  · rw [e, up_s, upr_s]
  · rw [up_n (by omega), upr_n (by omega)]; exact h.2 j hj
set_option maxHeartbeats 4000000 in
theorem c64 {k v : Nat} (hk : k < 4294967296) (hv : v < 4294967296) (hz : SV KL b I z) (hw : CSt b I q (A, n, H, B)) (hg : GoodW (A, n, H, B)) (hQ : CQ b I q (opSet (A, n, H, B) k v) (fun v I' q' => Q (.inl (some (.int (nI v)))) (KAt KL b, I', RAt RL b q', L, sz, ex)) (fun c I' => Q (.inr (if c = 1 then 2 else 0)) (KAt KL b, I', RAt RL b q, L, sz, false))) : X z 64 0 [some (.ref (ad b 0)), some (.int (nI k)), some (.int (nI v)), none] [] (0, 0) (KAt KL b, I, RAt RL b q, L, sz, ex) Q := by
  have hs := isS_N
  have sn : sN = 1 := rfl
  have h6 := hg.1.1.1
  unfold opSet at hQ
  dsimp only at hQ h6
  by_cases e1 : k ≤ 5
  · rw [if_pos e1] at hQ
    by_cases e2 : okV k v = true
    · rw [if_pos e2] at hQ
      simp (disch := omega) only [v64_0, u64_1, v64_4, v64_7, v64_10, v64_10i, v64_17, v64_18, u64_19, v64_22, v64_25, v64_28, v64_28i, v64_35, v64_36, v64_39, v64_40, u64_43, n_cl, n_in_t, n_lt_t, n_lt_f, n_eq_t, n_eq_f, n_sub, nI_add, n_mul, n_01, ↓reduceIte, if_true, if_false, eq_self, true_or, or_true, and_self, and_true, true_and, Nat.reduceAdd, Nat.reduceMul, Nat.reduceLeDiff, Nat.zero_le, not_true_eq_false, not_false_eq_true, cat2_n, cat2_i, cat2_r, ws_0, ws_i, ws_r, ws_l, ws_d, aftr_n, aftr_s, bI_ok, bI_t, bI_f, up_s, up_n, n_bit, decide_true, decide_false, Bool.not_true, Bool.not_false, Bool.and_true, Bool.true_and, Bool.false_and, Bool.and_false, va_rf_s, n_nlt0, k_0, k_67, k_68, k_465, k_466, k_467, k_468, k_469, k_470, k_471, k_472, k_565, r_0_0, r_0_1, r_0_2, r_0_3, r_0_4, r_0_5, r_67_0, r_465_0, r_467_0, r_467_2, r_470_0, r_470_1, va_rf_s, n_neg_t, n_neg_f, kS0 hs, kS1 hs, kS2 hs, kS3 hs, kS4 hs, kS5 hs, kSp hs, kSn hs, kSw hs, kSl hs, rS0_0 hs, rS0_2 hs, rS0_4 hs, rS0_5 hs, rS3_0 hs, rS1 hs, rS2 hs, rSp hs, rSw hs, c86 hk, c87 e1 hv hz, decide_eq_true e1, e2]
      refine kp hw hg (fun I1 q1 w1 g1 => ?_)
      have ad1 := w1.1.2 k (by omega)
      simp (disch := omega) only [v64_46, v64_47, v64_50, v64_53, v64_54, v64_55, v64_56, v64_57, v64_60, v64_63, v64_64, v64_65, v64_66, v64_67, n_cl, n_in_t, n_lt_t, n_lt_f, n_eq_t, n_eq_f, n_sub, nI_add, n_mul, n_01, ↓reduceIte, if_true, if_false, eq_self, true_or, or_true, and_self, and_true, true_and, Nat.reduceAdd, Nat.reduceMul, Nat.reduceLeDiff, Nat.zero_le, not_true_eq_false, not_false_eq_true, cat2_n, cat2_i, cat2_r, ws_0, ws_i, ws_r, ws_l, ws_d, aftr_n, aftr_s, bI_ok, bI_t, bI_f, up_s, up_n, n_bit, decide_true, decide_false, Bool.not_true, Bool.not_false, Bool.and_true, Bool.true_and, Bool.false_and, Bool.and_false, va_rf_s, n_nlt0, k_0, k_67, k_68, k_465, k_466, k_467, k_468, k_469, k_470, k_471, k_472, k_565, r_0_0, r_0_1, r_0_2, r_0_3, r_0_4, r_0_5, r_67_0, r_465_0, r_467_0, r_467_2, r_470_0, r_470_1, va_rf_s, n_neg_t, n_neg_f, kS0 hs, kS1 hs, kS2 hs, kS3 hs, kS4 hs, kS5 hs, kSp hs, kSn hs, kSw hs, kSl hs, rS0_0 hs, rS0_2 hs, rS0_4 hs, rS0_5 hs, rS3_0 hs, rS1 hs, rS2 hs, rSp hs, rSw hs, ad1]
      exact hQ.1 rfl _ q1 (w1.blk hg.sv (P := fun o _ => o = sN + 5) (Ag.rf.up rfl) (fun o j x => by omega) (w1.1.st e1 h6 hg.1.1.2.1)) ((g1.mn pKp_c).up (by unfold pCls; omega))
    · rw [if_neg e2] at hQ
      rw [Bool.not_eq_true] at e2
      simp (disch := omega) only [v64_0, u64_1, v64_4, v64_7, v64_10, v64_10i, v64_17, v64_18, u64_19, v64_22, v64_25, v64_28, v64_28i, v64_35, v64_36, v64_39, v64_40, u64_43, v64_46, v64_47, v64_50, v64_53, v64_54, v64_55, v64_56, v64_57, v64_60, v64_63, v64_64, v64_65, v64_66, v64_67, n_cl, n_in_t, n_lt_t, n_lt_f, n_eq_t, n_eq_f, n_sub, nI_add, n_mul, n_01, ↓reduceIte, if_true, if_false, eq_self, true_or, or_true, and_self, and_true, true_and, Nat.reduceAdd, Nat.reduceMul, Nat.reduceLeDiff, Nat.zero_le, not_true_eq_false, not_false_eq_true, cat2_n, cat2_i, cat2_r, ws_0, ws_i, ws_r, ws_l, ws_d, aftr_n, aftr_s, bI_ok, bI_t, bI_f, up_s, up_n, n_bit, decide_true, decide_false, Bool.not_true, Bool.not_false, Bool.and_true, Bool.true_and, Bool.false_and, Bool.and_false, va_rf_s, n_nlt0, k_0, k_67, k_68, k_465, k_466, k_467, k_468, k_469, k_470, k_471, k_472, k_565, r_0_0, r_0_1, r_0_2, r_0_3, r_0_4, r_0_5, r_67_0, r_465_0, r_467_0, r_467_2, r_470_0, r_470_1, va_rf_s, n_neg_t, n_neg_f, c86 hk, c87 e1 hv hz, decide_eq_true e1, e2]
      exact hQ.2 (fun x => ne_s x) I hw Ag.rf
  · rw [if_neg e1] at hQ
    simp (disch := omega) only [v64_0, u64_1, v64_4, v64_7, v64_10, v64_10i, v64_17, v64_18, u64_19, v64_22, v64_25, v64_28, v64_28i, v64_35, v64_36, v64_39, v64_40, u64_43, v64_46, v64_47, v64_50, v64_53, v64_54, v64_55, v64_56, v64_57, v64_60, v64_63, v64_64, v64_65, v64_66, v64_67, n_cl, n_in_t, n_lt_t, n_lt_f, n_eq_t, n_eq_f, n_sub, nI_add, n_mul, n_01, ↓reduceIte, if_true, if_false, eq_self, true_or, or_true, and_self, and_true, true_and, Nat.reduceAdd, Nat.reduceMul, Nat.reduceLeDiff, Nat.zero_le, not_true_eq_false, not_false_eq_true, cat2_n, cat2_i, cat2_r, ws_0, ws_i, ws_r, ws_l, ws_d, aftr_n, aftr_s, bI_ok, bI_t, bI_f, up_s, up_n, n_bit, decide_true, decide_false, Bool.not_true, Bool.not_false, Bool.and_true, Bool.true_and, Bool.false_and, Bool.and_false, va_rf_s, n_nlt0, k_0, k_67, k_68, k_465, k_466, k_467, k_468, k_469, k_470, k_471, k_472, k_565, r_0_0, r_0_1, r_0_2, r_0_3, r_0_4, r_0_5, r_67_0, r_465_0, r_467_0, r_467_2, r_470_0, r_470_1, va_rf_s, n_neg_t, n_neg_f, c86 hk, decide_eq_false e1]
    exact hQ.2 (fun x => ne_s x) I hw Ag.rf
set_option maxHeartbeats 4000000 in
theorem c66 {d : Nat} (hd : d < 4294967296) (hw : CSt b I q (A, n, H, B)) (hg : GoodW (A, n, H, B)) (hQ : CQ b I q (opPass (A, n, H, B) d) (fun v I' q' => Q (.inl (some (.int (nI v)))) (KAt KL b, I', RAt RL b q', L, sz, ex)) (fun c I' => Q (.inr (if c = 1 then 0 else 1)) (KAt KL b, I', RAt RL b q, L, sz, false))) : X z 66 0 [some (.ref (ad b 0)), some (.int (nI d))] [] (0, 0) (KAt KL b, I, RAt RL b q, L, sz, ex) Q := by
  have hs := isS_N
  have sn : sN = 1 := rfl
  have h6 := hg.1.1.1
  have h7 := hg.1.1.2.1
  have h8 := hg.1.1.2.2.2
  unfold opPass at hQ
  dsimp only at hQ h6 h7 h8
  have m8 : I (ad b sN) 6 = nI (A 8) := hw.1.1.1.2.2.1
  by_cases e1 : 1 ≤ d ∧ d ≤ 100
  · rw [if_pos e1] at hQ
    by_cases e2 : A 8 + d ≤ 10000
    · rw [if_pos e2] at hQ
      simp (disch := omega) only [v66_0, v66_1, v66_2, v66_5, v66_6, v66_8, v66_11, v66_14, v66_14i, v66_21, v66_22, v66_25, v66_28, v66_29, v66_30, v66_33, v66_36, v66_39, v66_39i, v66_46, v66_47, v66_50, v66_51, u66_54, n_cl, n_in_t, n_lt_t, n_lt_f, n_eq_t, n_eq_f, n_sub, nI_add, n_mul, n_01, ↓reduceIte, if_true, if_false, eq_self, true_or, or_true, and_self, and_true, true_and, Nat.reduceAdd, Nat.reduceMul, Nat.reduceLeDiff, Nat.zero_le, not_true_eq_false, not_false_eq_true, cat2_n, cat2_i, cat2_r, ws_0, ws_i, ws_r, ws_l, ws_d, aftr_n, aftr_s, bI_ok, bI_t, bI_f, up_s, up_n, n_bit, decide_true, decide_false, Bool.not_true, Bool.not_false, Bool.and_true, Bool.true_and, Bool.false_and, Bool.and_false, va_rf_s, n_nlt0, k_0, k_67, k_68, k_465, k_466, k_467, k_468, k_469, k_470, k_471, k_472, k_565, r_0_0, r_0_1, r_0_2, r_0_3, r_0_4, r_0_5, r_67_0, r_465_0, r_467_0, r_467_2, r_470_0, r_470_1, va_rf_s, n_neg_t, n_neg_f, kS0 hs, kS1 hs, kS2 hs, kS3 hs, kS4 hs, kS5 hs, kSp hs, kSn hs, kSw hs, kSl hs, rS0_0 hs, rS0_2 hs, rS0_4 hs, rS0_5 hs, rS3_0 hs, rS1 hs, rS2 hs, rSp hs, rSw hs, m8]
      refine kp hw hg (fun I1 q1 w1 g1 => ?_)
      have ad1 : I1 (ad b sN) 6 = nI (A 8) := w1.1.1.1.2.2.1
      simp (disch := omega) only [v66_57, v66_58, v66_61, v66_61i, v66_62, v66_65, v66_66, v66_67, v66_70, v66_71, v66_74, v66_77, n_cl, n_in_t, n_lt_t, n_lt_f, n_eq_t, n_eq_f, n_sub, nI_add, n_mul, n_01, ↓reduceIte, if_true, if_false, eq_self, true_or, or_true, and_self, and_true, true_and, Nat.reduceAdd, Nat.reduceMul, Nat.reduceLeDiff, Nat.zero_le, not_true_eq_false, not_false_eq_true, cat2_n, cat2_i, cat2_r, ws_0, ws_i, ws_r, ws_l, ws_d, aftr_n, aftr_s, bI_ok, bI_t, bI_f, up_s, up_n, n_bit, decide_true, decide_false, Bool.not_true, Bool.not_false, Bool.and_true, Bool.true_and, Bool.false_and, Bool.and_false, va_rf_s, n_nlt0, k_0, k_67, k_68, k_465, k_466, k_467, k_468, k_469, k_470, k_471, k_472, k_565, r_0_0, r_0_1, r_0_2, r_0_3, r_0_4, r_0_5, r_67_0, r_465_0, r_467_0, r_467_2, r_470_0, r_470_1, va_rf_s, n_neg_t, n_neg_f, kS0 hs, kS1 hs, kS2 hs, kS3 hs, kS4 hs, kS5 hs, kSp hs, kSn hs, kSw hs, kSl hs, rS0_0 hs, rS0_2 hs, rS0_4 hs, rS0_5 hs, rS3_0 hs, rS1 hs, rS2 hs, rSp hs, rSw hs, ad1, up_s]
      exact hQ.1 rfl _ q1 (w1.blk hg.sv (P := fun o _ => o = sN) (Ag.rf.up rfl) (fun o j x => by omega) (w1.1.sc (Or.inl ⟨rfl, rfl⟩) h6 h7)) ((g1.mn pKp_c).up (by unfold pCls; omega))
    · rw [if_neg e2] at hQ
      simp (disch := omega) only [v66_0, v66_1, v66_2, v66_5, v66_6, v66_8, v66_11, v66_14, v66_14i, v66_21, v66_22, v66_25, v66_28, v66_29, v66_30, v66_33, v66_36, v66_39, v66_39i, v66_46, v66_47, v66_50, v66_51, u66_54, v66_57, v66_58, v66_61, v66_61i, v66_62, v66_65, v66_66, v66_67, v66_70, v66_71, v66_74, v66_77, n_cl, n_in_t, n_lt_t, n_lt_f, n_eq_t, n_eq_f, n_sub, nI_add, n_mul, n_01, ↓reduceIte, if_true, if_false, eq_self, true_or, or_true, and_self, and_true, true_and, Nat.reduceAdd, Nat.reduceMul, Nat.reduceLeDiff, Nat.zero_le, not_true_eq_false, not_false_eq_true, cat2_n, cat2_i, cat2_r, ws_0, ws_i, ws_r, ws_l, ws_d, aftr_n, aftr_s, bI_ok, bI_t, bI_f, up_s, up_n, n_bit, decide_true, decide_false, Bool.not_true, Bool.not_false, Bool.and_true, Bool.true_and, Bool.false_and, Bool.and_false, va_rf_s, n_nlt0, k_0, k_67, k_68, k_465, k_466, k_467, k_468, k_469, k_470, k_471, k_472, k_565, r_0_0, r_0_1, r_0_2, r_0_3, r_0_4, r_0_5, r_67_0, r_465_0, r_467_0, r_467_2, r_470_0, r_470_1, va_rf_s, n_neg_t, n_neg_f, kS0 hs, kS1 hs, kS2 hs, kS3 hs, kS4 hs, kS5 hs, kSp hs, kSn hs, kSw hs, kSl hs, rS0_0 hs, rS0_2 hs, rS0_4 hs, rS0_5 hs, rS3_0 hs, rS1 hs, rS2 hs, rSp hs, rSw hs, m8]
      exact hQ.2 (fun x => ne_s x) I hw Ag.rf
  · rw [if_neg e1] at hQ
    have key := hQ.2 (fun x => ne_s x) I hw Ag.rf
    by_cases d1 : d < 2147483648
    · by_cases d2 : d < 1
      · simp (disch := omega) only [v66_0, v66_1, v66_2, v66_5, v66_6, v66_8, v66_11, v66_14, v66_14i, v66_21, v66_22, v66_25, v66_28, v66_29, v66_30, v66_33, v66_36, v66_39, v66_39i, v66_46, v66_47, v66_50, v66_51, u66_54, v66_57, v66_58, v66_61, v66_61i, v66_62, v66_65, v66_66, v66_67, v66_70, v66_71, v66_74, v66_77, n_cl, n_in_t, n_lt_t, n_lt_f, n_eq_t, n_eq_f, n_sub, nI_add, n_mul, n_01, ↓reduceIte, if_true, if_false, eq_self, true_or, or_true, and_self, and_true, true_and, Nat.reduceAdd, Nat.reduceMul, Nat.reduceLeDiff, Nat.zero_le, not_true_eq_false, not_false_eq_true, cat2_n, cat2_i, cat2_r, ws_0, ws_i, ws_r, ws_l, ws_d, aftr_n, aftr_s, bI_ok, bI_t, bI_f, up_s, up_n, n_bit, decide_true, decide_false, Bool.not_true, Bool.not_false, Bool.and_true, Bool.true_and, Bool.false_and, Bool.and_false, va_rf_s, n_nlt0, k_0, k_67, k_68, k_465, k_466, k_467, k_468, k_469, k_470, k_471, k_472, k_565, r_0_0, r_0_1, r_0_2, r_0_3, r_0_4, r_0_5, r_67_0, r_465_0, r_467_0, r_467_2, r_470_0, r_470_1, va_rf_s, n_neg_t, n_neg_f]
        exact key
      · simp (disch := omega) only [v66_0, v66_1, v66_2, v66_5, v66_6, v66_8, v66_11, v66_14, v66_14i, v66_21, v66_22, v66_25, v66_28, v66_29, v66_30, v66_33, v66_36, v66_39, v66_39i, v66_46, v66_47, v66_50, v66_51, u66_54, v66_57, v66_58, v66_61, v66_61i, v66_62, v66_65, v66_66, v66_67, v66_70, v66_71, v66_74, v66_77, n_cl, n_in_t, n_lt_t, n_lt_f, n_eq_t, n_eq_f, n_sub, nI_add, n_mul, n_01, ↓reduceIte, if_true, if_false, eq_self, true_or, or_true, and_self, and_true, true_and, Nat.reduceAdd, Nat.reduceMul, Nat.reduceLeDiff, Nat.zero_le, not_true_eq_false, not_false_eq_true, cat2_n, cat2_i, cat2_r, ws_0, ws_i, ws_r, ws_l, ws_d, aftr_n, aftr_s, bI_ok, bI_t, bI_f, up_s, up_n, n_bit, decide_true, decide_false, Bool.not_true, Bool.not_false, Bool.and_true, Bool.true_and, Bool.false_and, Bool.and_false, va_rf_s, n_nlt0, k_0, k_67, k_68, k_465, k_466, k_467, k_468, k_469, k_470, k_471, k_472, k_565, r_0_0, r_0_1, r_0_2, r_0_3, r_0_4, r_0_5, r_67_0, r_465_0, r_467_0, r_467_2, r_470_0, r_470_1, va_rf_s, n_neg_t, n_neg_f]
        exact key
    · simp (disch := omega) only [v66_0, v66_1, v66_2, v66_5, v66_6, v66_8, v66_11, v66_14, v66_14i, v66_21, v66_22, v66_25, v66_28, v66_29, v66_30, v66_33, v66_36, v66_39, v66_39i, v66_46, v66_47, v66_50, v66_51, u66_54, v66_57, v66_58, v66_61, v66_61i, v66_62, v66_65, v66_66, v66_67, v66_70, v66_71, v66_74, v66_77, n_cl, n_in_t, n_lt_t, n_lt_f, n_eq_t, n_eq_f, n_sub, nI_add, n_mul, n_01, ↓reduceIte, if_true, if_false, eq_self, true_or, or_true, and_self, and_true, true_and, Nat.reduceAdd, Nat.reduceMul, Nat.reduceLeDiff, Nat.zero_le, not_true_eq_false, not_false_eq_true, cat2_n, cat2_i, cat2_r, ws_0, ws_i, ws_r, ws_l, ws_d, aftr_n, aftr_s, bI_ok, bI_t, bI_f, up_s, up_n, n_bit, decide_true, decide_false, Bool.not_true, Bool.not_false, Bool.and_true, Bool.true_and, Bool.false_and, Bool.and_false, va_rf_s, n_nlt0, k_0, k_67, k_68, k_465, k_466, k_467, k_468, k_469, k_470, k_471, k_472, k_565, r_0_0, r_0_1, r_0_2, r_0_3, r_0_4, r_0_5, r_67_0, r_465_0, r_467_0, r_467_2, r_470_0, r_470_1, va_rf_s, n_neg_t, n_neg_f]
      exact key
set_option maxHeartbeats 4000000 in
theorem c67 {c : Nat} (hc : c < 4294967296) (hw : CSt b I q (A, n, H, B)) (hg : GoodW (A, n, H, B)) (hQ : CQ b I q (opApp (A, n, H, B) c) (fun v I' q' => Q (.inl (some (.int (nI v)))) (KAt KL b, I', RAt RL b q', L, sz, ex)) (fun c I' => Q (.inr (if c = 1 then 0 else 1)) (KAt KL b, I', RAt RL b q, L, sz, false))) : X z 67 0 [some (.ref (ad b 0)), some (.int (nI c))] [] (0, 0) (KAt KL b, I, RAt RL b q, L, sz, ex) Q := by
  obtain ⟨w1, w2, w3, m1, hl, w5, w6⟩ := id hw
  unfold opApp at hQ
  dsimp only at hQ m1 hl w5 w6
  by_cases e1 : 33 ≤ c ∧ c ≤ 126
  · rw [if_pos e1] at hQ
    by_cases e2 : B.length < 60
    · rw [if_pos e2] at hQ
      simp (disch := omega) only [v67_0, v67_1, v67_3, v67_6, v67_7, v67_9, v67_12, v67_15, v67_15i, v67_22, v67_23, v67_26, v67_29, v67_31, v67_34, v67_37, v67_37i, v67_44, v67_45, v67_48, v67_51, v67_52, v67_55, v67_58, v67_59, v67_60, v67_61, v67_64, v67_64i, v67_65, v67_68, v67_69, v67_70, v67_73, v67_74, v67_77, v67_80, n_cl, n_in_t, n_lt_t, n_lt_f, n_eq_t, n_eq_f, n_sub, nI_add, n_mul, n_01, ↓reduceIte, if_true, if_false, eq_self, true_or, or_true, and_self, and_true, true_and, Nat.reduceAdd, Nat.reduceMul, Nat.reduceLeDiff, Nat.zero_le, not_true_eq_false, not_false_eq_true, cat2_n, cat2_i, cat2_r, ws_0, ws_i, ws_r, ws_l, ws_d, aftr_n, aftr_s, bI_ok, bI_t, bI_f, up_s, up_n, n_bit, decide_true, decide_false, Bool.not_true, Bool.not_false, Bool.and_true, Bool.true_and, Bool.false_and, Bool.and_false, va_rf_s, n_nlt0, k_0, k_67, k_68, k_465, k_466, k_467, k_468, k_469, k_470, k_471, k_472, k_565, r_0_0, r_0_1, r_0_2, r_0_3, r_0_4, r_0_5, r_67_0, r_465_0, r_467_0, r_467_2, r_470_0, r_470_1, va_rf_s, n_neg_t, n_neg_f, k_0, k_67, k_68, k_465, k_466, k_467, k_468, k_469, k_470, k_471, k_472, k_565, r_0_0, r_0_1, r_0_2, r_0_3, r_0_4, r_0_5, r_67_0, r_465_0, r_467_0, r_467_2, r_470_0, r_470_1, va_rf_s, m1]
      have fr : Ag (fun o _ => o = 465 ∨ o = 466) b I (up2 (up2 I (ad b 466) B.length (nI c)) (ad b 465) 1 (nI (B.length + 1))) := (Ag.rf.up (Or.inr rfl)).up (Or.inl rfl)
      refine hQ.1 rfl _ q ⟨w1.ag hg.1.1.1 hg.1.1.2.1 fr (fun o j x y z => by have : sN = 1 := rfl; omega), w2, w3.ag w2 hg.2 fr (fun o j z => by omega), ⟨?_, ?_, fun k hk => ?_, fun x hx => ?_⟩⟩ (fr.mn (fun o j x => by unfold pCls; omega))
      · rw [up_s, List.length_append, List.length_singleton]
      · rw [List.length_append, List.length_singleton]; omega
      · rw [List.length_append, List.length_singleton] at hk
        rw [up_n (by omega), getD_snoc]
        by_cases ek : k = B.length
        · rw [ek, up_s, if_neg (by omega), if_pos rfl]
        · rw [up_n (by omega), if_pos (by omega)]; exact w5 k (by omega)
      · rw [List.mem_append, List.mem_singleton] at hx
        rcases hx with hx | hx
        · exact w6 x hx
        · rw [hx]; exact e1
    · rw [if_neg e2] at hQ
      simp (disch := omega) only [v67_0, v67_1, v67_3, v67_6, v67_7, v67_9, v67_12, v67_15, v67_15i, v67_22, v67_23, v67_26, v67_29, v67_31, v67_34, v67_37, v67_37i, v67_44, v67_45, v67_48, v67_51, v67_52, v67_55, v67_58, v67_59, v67_60, v67_61, v67_64, v67_64i, v67_65, v67_68, v67_69, v67_70, v67_73, v67_74, v67_77, v67_80, n_cl, n_in_t, n_lt_t, n_lt_f, n_eq_t, n_eq_f, n_sub, nI_add, n_mul, n_01, ↓reduceIte, if_true, if_false, eq_self, true_or, or_true, and_self, and_true, true_and, Nat.reduceAdd, Nat.reduceMul, Nat.reduceLeDiff, Nat.zero_le, not_true_eq_false, not_false_eq_true, cat2_n, cat2_i, cat2_r, ws_0, ws_i, ws_r, ws_l, ws_d, aftr_n, aftr_s, bI_ok, bI_t, bI_f, up_s, up_n, n_bit, decide_true, decide_false, Bool.not_true, Bool.not_false, Bool.and_true, Bool.true_and, Bool.false_and, Bool.and_false, va_rf_s, n_nlt0, k_0, k_67, k_68, k_465, k_466, k_467, k_468, k_469, k_470, k_471, k_472, k_565, r_0_0, r_0_1, r_0_2, r_0_3, r_0_4, r_0_5, r_67_0, r_465_0, r_467_0, r_467_2, r_470_0, r_470_1, va_rf_s, n_neg_t, n_neg_f, k_0, k_67, k_68, k_465, k_466, k_467, k_468, k_469, k_470, k_471, k_472, k_565, r_0_0, r_0_1, r_0_2, r_0_3, r_0_4, r_0_5, r_67_0, r_465_0, r_467_0, r_467_2, r_470_0, r_470_1, va_rf_s, m1]
      exact hQ.2 (fun x => ne_s x) I hw Ag.rf
  · rw [if_neg e1] at hQ
    have key := hQ.2 (fun x => ne_s x) I hw Ag.rf
    by_cases d1 : c < 2147483648
    · by_cases d2 : c < 33
      · simp (disch := omega) only [v67_0, v67_1, v67_3, v67_6, v67_7, v67_9, v67_12, v67_15, v67_15i, v67_22, v67_23, v67_26, v67_29, v67_31, v67_34, v67_37, v67_37i, v67_44, v67_45, v67_48, v67_51, v67_52, v67_55, v67_58, v67_59, v67_60, v67_61, v67_64, v67_64i, v67_65, v67_68, v67_69, v67_70, v67_73, v67_74, v67_77, v67_80, n_cl, n_in_t, n_lt_t, n_lt_f, n_eq_t, n_eq_f, n_sub, nI_add, n_mul, n_01, ↓reduceIte, if_true, if_false, eq_self, true_or, or_true, and_self, and_true, true_and, Nat.reduceAdd, Nat.reduceMul, Nat.reduceLeDiff, Nat.zero_le, not_true_eq_false, not_false_eq_true, cat2_n, cat2_i, cat2_r, ws_0, ws_i, ws_r, ws_l, ws_d, aftr_n, aftr_s, bI_ok, bI_t, bI_f, up_s, up_n, n_bit, decide_true, decide_false, Bool.not_true, Bool.not_false, Bool.and_true, Bool.true_and, Bool.false_and, Bool.and_false, va_rf_s, n_nlt0, k_0, k_67, k_68, k_465, k_466, k_467, k_468, k_469, k_470, k_471, k_472, k_565, r_0_0, r_0_1, r_0_2, r_0_3, r_0_4, r_0_5, r_67_0, r_465_0, r_467_0, r_467_2, r_470_0, r_470_1, va_rf_s, n_neg_t, n_neg_f]
        exact key
      · simp (disch := omega) only [v67_0, v67_1, v67_3, v67_6, v67_7, v67_9, v67_12, v67_15, v67_15i, v67_22, v67_23, v67_26, v67_29, v67_31, v67_34, v67_37, v67_37i, v67_44, v67_45, v67_48, v67_51, v67_52, v67_55, v67_58, v67_59, v67_60, v67_61, v67_64, v67_64i, v67_65, v67_68, v67_69, v67_70, v67_73, v67_74, v67_77, v67_80, n_cl, n_in_t, n_lt_t, n_lt_f, n_eq_t, n_eq_f, n_sub, nI_add, n_mul, n_01, ↓reduceIte, if_true, if_false, eq_self, true_or, or_true, and_self, and_true, true_and, Nat.reduceAdd, Nat.reduceMul, Nat.reduceLeDiff, Nat.zero_le, not_true_eq_false, not_false_eq_true, cat2_n, cat2_i, cat2_r, ws_0, ws_i, ws_r, ws_l, ws_d, aftr_n, aftr_s, bI_ok, bI_t, bI_f, up_s, up_n, n_bit, decide_true, decide_false, Bool.not_true, Bool.not_false, Bool.and_true, Bool.true_and, Bool.false_and, Bool.and_false, va_rf_s, n_nlt0, k_0, k_67, k_68, k_465, k_466, k_467, k_468, k_469, k_470, k_471, k_472, k_565, r_0_0, r_0_1, r_0_2, r_0_3, r_0_4, r_0_5, r_67_0, r_465_0, r_467_0, r_467_2, r_470_0, r_470_1, va_rf_s, n_neg_t, n_neg_f]
        exact key
    · simp (disch := omega) only [v67_0, v67_1, v67_3, v67_6, v67_7, v67_9, v67_12, v67_15, v67_15i, v67_22, v67_23, v67_26, v67_29, v67_31, v67_34, v67_37, v67_37i, v67_44, v67_45, v67_48, v67_51, v67_52, v67_55, v67_58, v67_59, v67_60, v67_61, v67_64, v67_64i, v67_65, v67_68, v67_69, v67_70, v67_73, v67_74, v67_77, v67_80, n_cl, n_in_t, n_lt_t, n_lt_f, n_eq_t, n_eq_f, n_sub, nI_add, n_mul, n_01, ↓reduceIte, if_true, if_false, eq_self, true_or, or_true, and_self, and_true, true_and, Nat.reduceAdd, Nat.reduceMul, Nat.reduceLeDiff, Nat.zero_le, not_true_eq_false, not_false_eq_true, cat2_n, cat2_i, cat2_r, ws_0, ws_i, ws_r, ws_l, ws_d, aftr_n, aftr_s, bI_ok, bI_t, bI_f, up_s, up_n, n_bit, decide_true, decide_false, Bool.not_true, Bool.not_false, Bool.and_true, Bool.true_and, Bool.false_and, Bool.and_false, va_rf_s, n_nlt0, k_0, k_67, k_68, k_465, k_466, k_467, k_468, k_469, k_470, k_471, k_472, k_565, r_0_0, r_0_1, r_0_2, r_0_3, r_0_4, r_0_5, r_67_0, r_465_0, r_467_0, r_467_2, r_470_0, r_470_1, va_rf_s, n_neg_t, n_neg_f]
      exact key
theorem CSt.clr (hg : GoodW (A, n, H, B)) (hw : CSt b I q (A, n, H, B)) : CSt b (up2 I (ad b 465) 1 (nI 0)) q (A, n, H, []) := by
  obtain ⟨w1, w2, w3, w4⟩ := hw
  have sn : sN = 1 := rfl
  have fr : Ag (fun o _ => o = 465) b I (up2 I (ad b 465) 1 (nI 0)) := Ag.rf.up rfl
  exact ⟨w1.ag hg.1.1.1 hg.1.1.2.1 fr (fun o j x y z => by omega), w2, w3.ag w2 hg.2 fr (fun o j z => by omega), ⟨up_s, by show 0 ≤ 60; omega, fun k hk => absurd hk (Nat.not_lt_zero k), fun x hx => absurd hx List.not_mem_nil⟩⟩
theorem c68 (hw : CSt b I q (A, n, H, B)) (hg : GoodW (A, n, H, B)) (hQ : CQ b I q (opClr (A, n, H, B)) (fun v I' q' => Q (.inl (some (.int (nI v)))) (KAt KL b, I', RAt RL b q', L, sz, ex)) (fun c I' => Q (.inr (if c = 1 then 0 else 0)) (KAt KL b, I', RAt RL b q, L, sz, false))) : X z 68 0 [some (.ref (ad b 0)), none] [] (0, 0) (KAt KL b, I, RAt RL b q, L, sz, ex) Q := by
  have m1 : I (ad b 465) 1 = nI B.length := hw.2.2.2.1
  have hl : B.length ≤ 60 := hw.2.2.2.2.1
  simp (disch := omega) only [v68_0, v68_1, v68_4, v68_7, v68_8, v68_9, v68_12, v68_13, v68_16, v68_17, n_cl, n_in_t, n_lt_t, n_lt_f, n_eq_t, n_eq_f, n_sub, nI_add, n_mul, n_01, ↓reduceIte, if_true, if_false, eq_self, true_or, or_true, and_self, and_true, true_and, Nat.reduceAdd, Nat.reduceMul, Nat.reduceLeDiff, Nat.zero_le, not_true_eq_false, not_false_eq_true, cat2_n, cat2_i, cat2_r, ws_0, ws_i, ws_r, ws_l, ws_d, aftr_n, aftr_s, bI_ok, bI_t, bI_f, up_s, up_n, n_bit, decide_true, decide_false, Bool.not_true, Bool.not_false, Bool.and_true, Bool.true_and, Bool.false_and, Bool.and_false, va_rf_s, n_nlt0, k_0, k_67, k_68, k_465, k_466, k_467, k_468, k_469, k_470, k_471, k_472, k_565, r_0_0, r_0_1, r_0_2, r_0_3, r_0_4, r_0_5, r_67_0, r_465_0, r_467_0, r_467_2, r_470_0, r_470_1, va_rf_s, n_neg_t, n_neg_f, k_0, k_67, k_68, k_465, k_466, k_467, k_468, k_469, k_470, k_471, k_472, k_565, r_0_0, r_0_1, r_0_2, r_0_3, r_0_4, r_0_5, r_67_0, r_465_0, r_467_0, r_467_2, r_470_0, r_470_1, va_rf_s, m1]
  exact hQ.1 rfl _ q (hw.clr hg) (Ag.rf.up (by unfold pCls; omega))
theorem c69 {k : Nat} (hk : k < 4294967296) (hw : CSt b I q (A, n, H, B)) (hQ : CQ b I q (opErr (A, n, H, B) k) (fun v I' q' => Q (.inl (some (.int (nI v)))) (KAt KL b, I', RAt RL b q', L, sz, ex)) (fun c I' => Q (.inr (if c = 1 then 0 else 0)) (KAt KL b, I', RAt RL b q, L, sz, false))) : X z 69 0 [some (.ref (ad b 0)), some (.int (nI k))] [] (0, 0) (KAt KL b, I, RAt RL b q, L, sz, ex) Q := by
  unfold opErr at hQ
  dsimp only at hQ
  by_cases e1 : k ≤ 2
  · rw [if_pos e1] at hQ
    simp (disch := omega) only [v69_0, v69_1, v69_4, v69_5, v69_6, v69_9, v69_12, v69_12i, v69_19, v69_20, v69_23, u69_24, v69_27, n_cl, n_in_t, n_lt_t, n_lt_f, n_eq_t, n_eq_f, n_sub, nI_add, n_mul, n_01, ↓reduceIte, if_true, if_false, eq_self, true_or, or_true, and_self, and_true, true_and, Nat.reduceAdd, Nat.reduceMul, Nat.reduceLeDiff, Nat.zero_le, not_true_eq_false, not_false_eq_true, cat2_n, cat2_i, cat2_r, ws_0, ws_i, ws_r, ws_l, ws_d, aftr_n, aftr_s, bI_ok, bI_t, bI_f, up_s, up_n, n_bit, decide_true, decide_false, Bool.not_true, Bool.not_false, Bool.and_true, Bool.true_and, Bool.false_and, Bool.and_false, va_rf_s, n_nlt0, k_0, k_67, k_68, k_465, k_466, k_467, k_468, k_469, k_470, k_471, k_472, k_565, r_0_0, r_0_1, r_0_2, r_0_3, r_0_4, r_0_5, r_67_0, r_465_0, r_467_0, r_467_2, r_470_0, r_470_1, va_rf_s, n_neg_t, n_neg_f, k_0, k_67, k_68, k_465, k_466, k_467, k_468, k_469, k_470, k_471, k_472, k_565, r_0_0, r_0_1, r_0_2, r_0_3, r_0_4, r_0_5, r_67_0, r_465_0, r_467_0, r_467_2, r_470_0, r_470_1, va_rf_s, c1 e1 hw.2.2.2]
    exact hQ.1 rfl _ q hw Ag.rf
  · rw [if_neg e1] at hQ
    have key := hQ.2 (fun x => ne_s x) I hw Ag.rf
    by_cases d1 : k < 2147483648
    · simp (disch := omega) only [v69_0, v69_1, v69_4, v69_5, v69_6, v69_9, v69_12, v69_12i, v69_19, v69_20, v69_23, u69_24, v69_27, n_cl, n_in_t, n_lt_t, n_lt_f, n_eq_t, n_eq_f, n_sub, nI_add, n_mul, n_01, ↓reduceIte, if_true, if_false, eq_self, true_or, or_true, and_self, and_true, true_and, Nat.reduceAdd, Nat.reduceMul, Nat.reduceLeDiff, Nat.zero_le, not_true_eq_false, not_false_eq_true, cat2_n, cat2_i, cat2_r, ws_0, ws_i, ws_r, ws_l, ws_d, aftr_n, aftr_s, bI_ok, bI_t, bI_f, up_s, up_n, n_bit, decide_true, decide_false, Bool.not_true, Bool.not_false, Bool.and_true, Bool.true_and, Bool.false_and, Bool.and_false, va_rf_s, n_nlt0, k_0, k_67, k_68, k_465, k_466, k_467, k_468, k_469, k_470, k_471, k_472, k_565, r_0_0, r_0_1, r_0_2, r_0_3, r_0_4, r_0_5, r_67_0, r_465_0, r_467_0, r_467_2, r_470_0, r_470_1, va_rf_s, n_neg_t, n_neg_f]
      exact key
    · simp (disch := omega) only [v69_0, v69_1, v69_4, v69_5, v69_6, v69_9, v69_12, v69_12i, v69_19, v69_20, v69_23, u69_24, v69_27, n_cl, n_in_t, n_lt_t, n_lt_f, n_eq_t, n_eq_f, n_sub, nI_add, n_mul, n_01, ↓reduceIte, if_true, if_false, eq_self, true_or, or_true, and_self, and_true, true_and, Nat.reduceAdd, Nat.reduceMul, Nat.reduceLeDiff, Nat.zero_le, not_true_eq_false, not_false_eq_true, cat2_n, cat2_i, cat2_r, ws_0, ws_i, ws_r, ws_l, ws_d, aftr_n, aftr_s, bI_ok, bI_t, bI_f, up_s, up_n, n_bit, decide_true, decide_false, Bool.not_true, Bool.not_false, Bool.and_true, Bool.true_and, Bool.false_and, Bool.and_false, va_rf_s, n_nlt0, k_0, k_67, k_68, k_465, k_466, k_467, k_468, k_469, k_470, k_471, k_472, k_565, r_0_0, r_0_1, r_0_2, r_0_3, r_0_4, r_0_5, r_67_0, r_465_0, r_467_0, r_467_2, r_470_0, r_470_1, va_rf_s, n_neg_t, n_neg_f]
      exact key
end CP
