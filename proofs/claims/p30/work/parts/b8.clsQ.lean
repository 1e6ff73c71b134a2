/-! THE CLASS: adding a person, a word; taking a letter -/
section CQQ
variable {z : P0} {KL : Nat → Nat × Nat} {RL : Nat → Nat → Option Nat} {q : Nat → Nat} {b : Nat} {I : Nat → Nat → Int32} {L : Nat → Nat → Int64} {sz : Nat} {ex : Bool} {Q : Res → Mem → Prop} {A : Row}
variable {n : Nat} {H : Nat → Row} {B : List Nat} {s : Nat}
theorem SR.addP {A' : Row} {I' : Nat → Nat → Int32} (h : SR b I s A) (hg : Good A) (hp : A 6 < 20) (hn : newP A A' (A 6)) (h6 : A' 6 = A 6 + 1) (ha : Ag (fun o j => o = s + 6 + 2 * A 6 ∨ o = s + 7 + 2 * A 6 ∨ (o = s ∧ j = 1)) b I I') (h1 : I' (ad b s) 1 = nI (A 6 + 1)) (hP : PR b I' (s + 6 + 2 * A 6) (s + 7 + 2 * A 6) A' (A 6)) : SR b I' s A' := by
  obtain ⟨⟨⟨a1, a2, a3, a4, a5, a6⟩, a7, a8, a9⟩, a10⟩ := h
  have g7 := hg.1.2.1
  have nn : ∀ k, (7 ≤ k ∧ k ≤ 12) ∨ 313 ≤ k ∨ k < 6 → A' k = A k := fun k hk => hn k (by omega) (by omega) (by omega) (by omega) (by omega) (by omega) (by omega) (by omega) (by omega)
  refine ⟨⟨⟨by rw [h6]; exact h1, ?_, ?_, ?_, ?_, ?_⟩, fun i hi => ?_, fun w hw => ?_, ?_⟩, fun k hk => ?_⟩
  · rw [nn 7 (by omega), ha.at (by omega)]; exact a2
  · rw [nn 8 (by omega), ha.at (by omega)]; exact a3
  · rw [nn 9 (by omega), ha.at (by omega)]; exact a4
  · rw [nn 10 (by omega), ha.at (by omega)]; exact a5
  · rw [nn 11 (by omega), ha.at (by omega)]; exact a6
  · rw [h6] at hi
    by_cases e : i = A 6
    · rw [e]; exact hP
    · obtain ⟨b1, b2, b3, b4, b5, b6, b7, b8⟩ := (a7 i (by omega)).ag ha (fun j x => by omega) (fun j x => by omega)
      have gi := (hg.2.2.1 i (by omega)).2.2.2.2.2.2.1
      have q : ∀ k, k = 13 + i ∨ k = 33 + i ∨ k = 53 + i ∨ k = 73 + i ∨ k = 93 + i ∨ k = 113 + i ∨ k = 133 + i → A' k = A k := fun k hk => hn k (by omega) (by omega) (by omega) (by omega) (by omega) (by omega) (by omega) (by omega) (by omega)
      refine ⟨by rw [q _ (by omega)]; exact b1, by rw [q _ (by omega)]; exact b2, by rw [q _ (by omega)]; exact b3, by rw [q _ (by omega)]; exact b4, by rw [q _ (by omega)]; exact b5, by rw [q _ (by omega)]; exact b6, by rw [q _ (by omega)]; exact b7, fun k hk => ?_⟩
      rw [q _ (by omega)] at hk
      rw [hn _ (by omega) (by omega) (by omega) (by omega) (by omega) (by omega) (by omega) (by omega) (by omega)]
      exact b8 k hk
  · rw [nn 7 (by omega)] at hw
    obtain ⟨b1, b2, b3⟩ := (a8 w hw).ag ha (fun j x => by omega) (fun j x => by omega)
    refine ⟨by rw [nn _ (by omega)]; exact b1, by rw [nn _ (by omega)]; exact b2, fun k hk => ?_⟩
    rw [nn _ (by omega)] at hk ⊢
    exact b3 k hk
  · unfold IR
    rw [raw_cg (fun k hk => nn k (by omega))]
    exact ⟨(ha.at (by omega)).trans a9.1, fun k hk => (ha.at (by omega)).trans (a9.2 k hk)⟩
  · rw [nn k (by omega), ha.at (by omega)]; exact a10 k hk
/-- Person.begin -/
theorem c45 {p a f : Nat} (hs : isS s) (hp : p < 20) (hB : BR b I B) (h8 : B.length ≤ 8) (hQ : ∀ I', I' (ad b (s + 6 + 2 * p)) 1 = nI B.length → I' (ad b (s + 6 + 2 * p)) 2 = nI a → I' (ad b (s + 6 + 2 * p)) 3 = nI f → I' (ad b (s + 6 + 2 * p)) 4 = nI 4294967295 → I' (ad b (s + 6 + 2 * p)) 5 = nI 0 → I' (ad b (s + 6 + 2 * p)) 6 = nI 4294967295 → I' (ad b (s + 6 + 2 * p)) 7 = nI 0 → (∀ k, k < B.length → I' (ad b (s + 7 + 2 * p)) k = nI (B.getD k 0)) →
    Ag (fun o _ => o = s + 6 + 2 * p ∨ o = s + 7 + 2 * p) b I I' → Q (.inl none) (KAt KL b, I', RAt RL b q, L, sz, ex)) :
    X z 45 0 [some (.ref (ad b (s + 6 + 2 * p))), some (.ref (ad b 465)), some (.int (nI a)), some (.int (nI f))] [] (0, 0) (KAt KL b, I, RAt RL b q, L, sz, ex) Q := by
  have hb := isS_b hs
  have hm : min B.length 8 = B.length := Nat.min_eq_left h8
  have m1 := hB.1
  have h60 : B.length ≤ 60 := by omega
  simp (disch := omega) only [v45_0, v45_1, v45_2, v45_5, u45_7, v45_10, v45_13, v45_14, v45_17, v45_18, v45_19, v45_22, v45_23, v45_24, v45_27, v45_30, v45_31, v45_32, v45_35, v45_36, v45_37, v45_40, v45_41, v45_42, v45_45, v45_46, v45_47, v45_50, v45_51, v45_52, v45_55, v45_56, v45_57, v45_60, n_cl, n_in_t, n_lt_t, n_lt_f, n_eq_t, n_eq_f, n_sub, nI_add, n_mul, n_01, ↓reduceIte, if_true, if_false, eq_self, true_or, or_true, and_self, and_true, true_and, Nat.reduceAdd, Nat.reduceMul, Nat.reduceLeDiff, Nat.zero_le, not_true_eq_false, not_false_eq_true, cat2_n, cat2_i, cat2_r, ws_0, ws_i, ws_r, ws_l, ws_d, aftr_n, aftr_s, bI_ok, bI_t, bI_f, up_s, up_n, n_bit, decide_true, decide_false, Bool.not_true, Bool.not_false, Bool.and_true, Bool.true_and, Bool.false_and, Bool.and_false, va_rf_s, n_nlt0, k_0, k_67, k_68, k_465, k_466, k_467, k_468, k_469, k_470, k_471, k_472, k_565, r_0_0, r_0_1, r_0_2, r_0_3, r_0_4, r_0_5, r_67_0, r_465_0, r_467_0, r_467_2, r_470_0, r_470_1, va_rf_s, n_neg_t, n_neg_f, k_0, k_67, k_68, k_465, k_466, k_467, k_468, k_469, k_470, k_471, k_472, k_565, r_0_0, r_0_1, r_0_2, r_0_3, r_0_4, r_0_5, r_67_0, r_465_0, r_467_0, r_467_2, r_470_0, r_470_1, va_rf_s, kS0 hs, kS1 hs, kS2 hs, kS3 hs, kS4 hs, kS5 hs, kSp hs, kSn hs, kSw hs, kSl hs, rS0_0 hs, rS0_2 hs, rS0_4 hs, rS0_5 hs, rS3_0 hs, rS1 hs, rS2 hs, rSp hs, rSw hs, c184, hm, m1, up_s, Nat.zero_add, h60, h8]
  refine hQ _ ?_ ?_ ?_ ?_ ?_ ?_ ?_ (fun k hk => ?_) ?_
  · rw [up_n (by omega), up_n (by omega), up_n (by omega), up_n (by omega), up_n (by omega), up_n (by omega), cp_n (by omega), up_s]
  · rw [up_n (by omega), up_n (by omega), up_n (by omega), up_n (by omega), up_n (by omega), up_s]
  · rw [up_n (by omega), up_n (by omega), up_n (by omega), up_n (by omega), up_s]
  · rw [up_n (by omega), up_n (by omega), up_n (by omega), up_s]
  · rw [up_n (by omega), up_n (by omega), up_s]
  · rw [up_n (by omega), up_s]
  · rw [up_s]
  · rw [up_n (by omega), up_n (by omega), up_n (by omega), up_n (by omega), up_n (by omega), up_n (by omega), cp_s (Nat.zero_le _) (by omega), Nat.zero_add, Nat.sub_zero, up_n (by omega)]
    exact hB.2.2.1 k hk
  · exact (((((((Ag.rf.up (Or.inl rfl)).cp (fun _ _ _ => Or.inr rfl)).up (Or.inl rfl)).up (Or.inl rfl)).up (Or.inl rfl)).up (Or.inl rfl)).up (Or.inl rfl)).up (Or.inl rfl)
set_option maxHeartbeats 4000000 in
theorem c58 {a f : Nat} (ha : a < 4294967296) (hf : f < 4294967296) (hw : CSt b I q (A, n, H, B)) (hg : GoodW (A, n, H, B)) (hQ : CQ b I q (opAddP (A, n, H, B) a f) (fun v I' q' => Q (.inl (some (.int (nI v)))) (KAt KL b, I', RAt RL b q', L, sz, ex)) (fun c I' => Q (.inr (if c = 1 then 0 else 1)) (KAt KL b, I', RAt RL b q, L, sz, false))) : X z 58 0 [some (.ref (ad b 0)), some (.int (nI a)), some (.int (nI f)), none] [] (0, 0) (KAt KL b, I, RAt RL b q, L, sz, ex) Q := by
  have hs := isS_N
  have sn : sN = 1 := rfl
  have h6 := hg.1.1.1
  dsimp only at h6
  have m6 : I (ad b sN) 1 = nI (A 6) := hw.1.1.1.1
  have hB : BR b I B := hw.2.2.2
  unfold opAddP at hQ
  dsimp only at hQ
  have no : ¬ ((a ≤ 19 ∧ f ≤ 2) ∧ cpl 0 B = true) → Q (.inr 0) (KAt KL b, I, RAt RL b q, L, sz, false) := by
    intro e
    rw [if_neg e] at hQ
    exact hQ.2 (fun x => ne_s x) I hw Ag.rf
  by_cases e1 : a ≤ 19
  · by_cases e2 : f ≤ 2
    · cases hc : cpl 0 B with
      | true =>
        have hB8 := (cpl_0 hc).2.1
        rw [if_pos ⟨⟨e1, e2⟩, hc⟩] at hQ
        by_cases e6 : A 6 < 20
        · rw [if_pos e6] at hQ
          simp (disch := omega) only [v58_0, u58_1, v58_4, v58_7, v58_8, v58_11, v58_12, v58_13, v58_16, v58_19, v58_19i, v58_26, v58_27, v58_30, u58_31, v58_34, v58_37, v58_40, v58_40i, v58_47, v58_48, v58_51, v58_54, v58_56, v58_59, v58_62, v58_62i, v58_69, v58_70, v58_73, v58_74, u58_77, n_cl, n_in_t, n_lt_t, n_lt_f, n_eq_t, n_eq_f, n_sub, nI_add, n_mul, n_01, ↓reduceIte, if_true, if_false, eq_self, true_or, or_true, and_self, and_true, true_and, Nat.reduceAdd, Nat.reduceMul, Nat.reduceLeDiff, Nat.zero_le, not_true_eq_false, not_false_eq_true, cat2_n, cat2_i, cat2_r, ws_0, ws_i, ws_r, ws_l, ws_d, aftr_n, aftr_s, bI_ok, bI_t, bI_f, up_s, up_n, n_bit, decide_true, decide_false, Bool.not_true, Bool.not_false, Bool.and_true, Bool.true_and, Bool.false_and, Bool.and_false, va_rf_s, n_nlt0, k_0, k_67, k_68, k_465, k_466, k_467, k_468, k_469, k_470, k_471, k_472, k_565, r_0_0, r_0_1, r_0_2, r_0_3, r_0_4, r_0_5, r_67_0, r_465_0, r_467_0, r_467_2, r_470_0, r_470_1, va_rf_s, n_neg_t, n_neg_f, k_0, k_67, k_68, k_465, k_466, k_467, k_468, k_469, k_470, k_471, k_472, k_565, r_0_0, r_0_1, r_0_2, r_0_3, r_0_4, r_0_5, r_67_0, r_465_0, r_467_0, r_467_2, r_470_0, r_470_1, va_rf_s, kS0 hs, kS1 hs, kS2 hs, kS3 hs, kS4 hs, kS5 hs, kSp hs, kSn hs, kSw hs, kSl hs, rS0_0 hs, rS0_2 hs, rS0_4 hs, rS0_5 hs, rS3_0 hs, rS1 hs, rS2 hs, rSp hs, rSw hs, c85 ha, decide_eq_true e1, c2 (Nat.zero_le 2) hB, hc, m6]
          refine kp hw hg (fun I1 q1 w1 g1 => ?_)
          have m61 : I1 (ad b sN) 1 = nI (A 6) := w1.1.1.1.1
          simp (disch := omega) only [v58_80, v58_81, v58_84, v58_87, v58_88, v58_89, v58_92, v58_95, v58_96, v58_97, v58_98, v58_101, v58_102, u58_103, n_cl, n_in_t, n_lt_t, n_lt_f, n_eq_t, n_eq_f, n_sub, nI_add, n_mul, n_01, ↓reduceIte, if_true, if_false, eq_self, true_or, or_true, and_self, and_true, true_and, Nat.reduceAdd, Nat.reduceMul, Nat.reduceLeDiff, Nat.zero_le, not_true_eq_false, not_false_eq_true, cat2_n, cat2_i, cat2_r, ws_0, ws_i, ws_r, ws_l, ws_d, aftr_n, aftr_s, bI_ok, bI_t, bI_f, up_s, up_n, n_bit, decide_true, decide_false, Bool.not_true, Bool.not_false, Bool.and_true, Bool.true_and, Bool.false_and, Bool.and_false, va_rf_s, n_nlt0, k_0, k_67, k_68, k_465, k_466, k_467, k_468, k_469, k_470, k_471, k_472, k_565, r_0_0, r_0_1, r_0_2, r_0_3, r_0_4, r_0_5, r_67_0, r_465_0, r_467_0, r_467_2, r_470_0, r_470_1, va_rf_s, n_neg_t, n_neg_f, k_0, k_67, k_68, k_465, k_466, k_467, k_468, k_469, k_470, k_471, k_472, k_565, r_0_0, r_0_1, r_0_2, r_0_3, r_0_4, r_0_5, r_67_0, r_465_0, r_467_0, r_467_2, r_470_0, r_470_1, va_rf_s, kS0 hs, kS1 hs, kS2 hs, kS3 hs, kS4 hs, kS5 hs, kSp hs, kSn hs, kSw hs, kSl hs, rS0_0 hs, rS0_2 hs, rS0_4 hs, rS0_5 hs, rS3_0 hs, rS1 hs, rS2 hs, rSp hs, rSw hs, m61]
          refine c45 hs e6 w1.2.2.2 hB8 (fun I2 b1 b2 b3 b4 b5 b6 b7 b8 g2 => ?_)
          simp (disch := omega) only [v58_106, v58_107, v58_110, v58_111, v58_112, v58_113, v58_116, v58_117, v58_120, v58_121, v58_124, v58_125, n_cl, n_in_t, n_lt_t, n_lt_f, n_eq_t, n_eq_f, n_sub, nI_add, n_mul, n_01, ↓reduceIte, if_true, if_false, eq_self, true_or, or_true, and_self, and_true, true_and, Nat.reduceAdd, Nat.reduceMul, Nat.reduceLeDiff, Nat.zero_le, not_true_eq_false, not_false_eq_true, cat2_n, cat2_i, cat2_r, ws_0, ws_i, ws_r, ws_l, ws_d, aftr_n, aftr_s, bI_ok, bI_t, bI_f, up_s, up_n, n_bit, decide_true, decide_false, Bool.not_true, Bool.not_false, Bool.and_true, Bool.true_and, Bool.false_and, Bool.and_false, va_rf_s, n_nlt0, k_0, k_67, k_68, k_465, k_466, k_467, k_468, k_469, k_470, k_471, k_472, k_565, r_0_0, r_0_1, r_0_2, r_0_3, r_0_4, r_0_5, r_67_0, r_465_0, r_467_0, r_467_2, r_470_0, r_470_1, va_rf_s, n_neg_t, n_neg_f, k_0, k_67, k_68, k_465, k_466, k_467, k_468, k_469, k_470, k_471, k_472, k_565, r_0_0, r_0_1, r_0_2, r_0_3, r_0_4, r_0_5, r_67_0, r_465_0, r_467_0, r_467_2, r_470_0, r_470_1, va_rf_s, kS0 hs, kS1 hs, kS2 hs, kS3 hs, kS4 hs, kS5 hs, kSp hs, kSn hs, kSw hs, kSl hs, rS0_0 hs, rS0_2 hs, rS0_4 hs, rS0_5 hs, rS3_0 hs, rS1 hs, rS2 hs, rSp hs, rSw hs]
          have fr : Ag (fun o j => o = sN + 6 + 2 * A 6 ∨ o = sN + 7 + 2 * A 6 ∨ (o = sN ∧ j = 1)) b I1 (up2 I2 (ad b sN) 1 (nI (A 6 + 1))) := (g2.mn (fun o j x => by omega)).up (by omega)
          have w2 : CSt b (up2 I2 (ad b sN) 1 (nI (A 6 + 1))) q1 (addPR A a f B, svN n, svH A n H, B) := by
            obtain ⟨v1, v2, v3, v4, v5, v6, v7, v8, v9⟩ := addP_v (A := A) (a := a) (f := f) hB8 e6
            refine w1.blk hg.sv fr (fun o j x => by omega) (SR.addP w1.1 hg.1 e6 (newP_add hB8 e6) v1 fr up_s ⟨?_, ?_, ?_, ?_, ?_, ?_, ?_, fun k hk => ?_⟩)
            · rw [up_n (by omega), b1, v8]
            · rw [up_n (by omega), b2, v2]
            · rw [up_n (by omega), b3, v3]
            · rw [up_n (by omega), b4, v4]
            · rw [up_n (by omega), b5, v5]
            · rw [up_n (by omega), b6, v6]
            · rw [up_n (by omega), b7, v7]
            · have hk2 : k < B.length := v8 ▸ hk
              rw [up_n (by omega), b8 k hk2]
              exact congrArg nI (v9 k hk2).symm
          exact hQ.1 rfl _ q1 (w2.clr ⟨good_addP hg.1 hc e1 e2 e6, hg.sv.2⟩) (((g1.mn pKp_c).tr (fr.mn (fun o j x => by unfold pCls; omega))).up (by unfold pCls; omega))
        · rw [if_neg e6] at hQ
          simp (disch := omega) only [v58_0, u58_1, v58_4, v58_7, v58_8, v58_11, v58_12, v58_13, v58_16, v58_19, v58_19i, v58_26, v58_27, v58_30, u58_31, v58_34, v58_37, v58_40, v58_40i, v58_47, v58_48, v58_51, v58_54, v58_56, v58_59, v58_62, v58_62i, v58_69, v58_70, v58_73, v58_74, u58_77, v58_80, v58_81, v58_84, v58_87, v58_88, v58_89, v58_92, v58_95, v58_96, v58_97, v58_98, v58_101, v58_102, u58_103, v58_106, v58_107, v58_110, v58_111, v58_112, v58_113, v58_116, v58_117, v58_120, v58_121, v58_124, v58_125, n_cl, n_in_t, n_lt_t, n_lt_f, n_eq_t, n_eq_f, n_sub, nI_add, n_mul, n_01, ↓reduceIte, if_true, if_false, eq_self, true_or, or_true, and_self, and_true, true_and, Nat.reduceAdd, Nat.reduceMul, Nat.reduceLeDiff, Nat.zero_le, not_true_eq_false, not_false_eq_true, cat2_n, cat2_i, cat2_r, ws_0, ws_i, ws_r, ws_l, ws_d, aftr_n, aftr_s, bI_ok, bI_t, bI_f, up_s, up_n, n_bit, decide_true, decide_false, Bool.not_true, Bool.not_false, Bool.and_true, Bool.true_and, Bool.false_and, Bool.and_false, va_rf_s, n_nlt0, k_0, k_67, k_68, k_465, k_466, k_467, k_468, k_469, k_470, k_471, k_472, k_565, r_0_0, r_0_1, r_0_2, r_0_3, r_0_4, r_0_5, r_67_0, r_465_0, r_467_0, r_467_2, r_470_0, r_470_1, va_rf_s, n_neg_t, n_neg_f, k_0, k_67, k_68, k_465, k_466, k_467, k_468, k_469, k_470, k_471, k_472, k_565, r_0_0, r_0_1, r_0_2, r_0_3, r_0_4, r_0_5, r_67_0, r_465_0, r_467_0, r_467_2, r_470_0, r_470_1, va_rf_s, kS0 hs, kS1 hs, kS2 hs, kS3 hs, kS4 hs, kS5 hs, kSp hs, kSn hs, kSw hs, kSl hs, rS0_0 hs, rS0_2 hs, rS0_4 hs, rS0_5 hs, rS3_0 hs, rS1 hs, rS2 hs, rSp hs, rSw hs, c85 ha, decide_eq_true e1, c2 (Nat.zero_le 2) hB, hc, m6]
          exact hQ.2 (fun x => ne_s x) I hw Ag.rf
      | false =>
        have := no (fun x => by rw [hc] at x; exact absurd x.2 (by decide))
        simp (disch := omega) only [v58_0, u58_1, v58_4, v58_7, v58_8, v58_11, v58_12, v58_13, v58_16, v58_19, v58_19i, v58_26, v58_27, v58_30, u58_31, v58_34, v58_37, v58_40, v58_40i, v58_47, v58_48, v58_51, v58_54, v58_56, v58_59, v58_62, v58_62i, v58_69, v58_70, v58_73, v58_74, u58_77, v58_80, v58_81, v58_84, v58_87, v58_88, v58_89, v58_92, v58_95, v58_96, v58_97, v58_98, v58_101, v58_102, u58_103, v58_106, v58_107, v58_110, v58_111, v58_112, v58_113, v58_116, v58_117, v58_120, v58_121, v58_124, v58_125, n_cl, n_in_t, n_lt_t, n_lt_f, n_eq_t, n_eq_f, n_sub, nI_add, n_mul, n_01, ↓reduceIte, if_true, if_false, eq_self, true_or, or_true, and_self, and_true, true_and, Nat.reduceAdd, Nat.reduceMul, Nat.reduceLeDiff, Nat.zero_le, not_true_eq_false, not_false_eq_true, cat2_n, cat2_i, cat2_r, ws_0, ws_i, ws_r, ws_l, ws_d, aftr_n, aftr_s, bI_ok, bI_t, bI_f, up_s, up_n, n_bit, decide_true, decide_false, Bool.not_true, Bool.not_false, Bool.and_true, Bool.true_and, Bool.false_and, Bool.and_false, va_rf_s, n_nlt0, k_0, k_67, k_68, k_465, k_466, k_467, k_468, k_469, k_470, k_471, k_472, k_565, r_0_0, r_0_1, r_0_2, r_0_3, r_0_4, r_0_5, r_67_0, r_465_0, r_467_0, r_467_2, r_470_0, r_470_1, va_rf_s, n_neg_t, n_neg_f, k_0, k_67, k_68, k_465, k_466, k_467, k_468, k_469, k_470, k_471, k_472, k_565, r_0_0, r_0_1, r_0_2, r_0_3, r_0_4, r_0_5, r_67_0, r_465_0, r_467_0, r_467_2, r_470_0, r_470_1, va_rf_s, c85 ha, decide_eq_true e1, c2 (Nat.zero_le 2) hB, hc]
        exact this
    · have := no (fun x => e2 x.1.2)
      by_cases e3 : f < 2147483648
      · simp (disch := omega) only [v58_0, u58_1, v58_4, v58_7, v58_8, v58_11, v58_12, v58_13, v58_16, v58_19, v58_19i, v58_26, v58_27, v58_30, u58_31, v58_34, v58_37, v58_40, v58_40i, v58_47, v58_48, v58_51, v58_54, v58_56, v58_59, v58_62, v58_62i, v58_69, v58_70, v58_73, v58_74, u58_77, v58_80, v58_81, v58_84, v58_87, v58_88, v58_89, v58_92, v58_95, v58_96, v58_97, v58_98, v58_101, v58_102, u58_103, v58_106, v58_107, v58_110, v58_111, v58_112, v58_113, v58_116, v58_117, v58_120, v58_121, v58_124, v58_125, n_cl, n_in_t, n_lt_t, n_lt_f, n_eq_t, n_eq_f, n_sub, nI_add, n_mul, n_01, ↓reduceIte, if_true, if_false, eq_self, true_or, or_true, and_self, and_true, true_and, Nat.reduceAdd, Nat.reduceMul, Nat.reduceLeDiff, Nat.zero_le, not_true_eq_false, not_false_eq_true, cat2_n, cat2_i, cat2_r, ws_0, ws_i, ws_r, ws_l, ws_d, aftr_n, aftr_s, bI_ok, bI_t, bI_f, up_s, up_n, n_bit, decide_true, decide_false, Bool.not_true, Bool.not_false, Bool.and_true, Bool.true_and, Bool.false_and, Bool.and_false, va_rf_s, n_nlt0, k_0, k_67, k_68, k_465, k_466, k_467, k_468, k_469, k_470, k_471, k_472, k_565, r_0_0, r_0_1, r_0_2, r_0_3, r_0_4, r_0_5, r_67_0, r_465_0, r_467_0, r_467_2, r_470_0, r_470_1, va_rf_s, n_neg_t, n_neg_f, c85 ha, decide_eq_true e1]
        exact this
      · simp (disch := omega) only [v58_0, u58_1, v58_4, v58_7, v58_8, v58_11, v58_12, v58_13, v58_16, v58_19, v58_19i, v58_26, v58_27, v58_30, u58_31, v58_34, v58_37, v58_40, v58_40i, v58_47, v58_48, v58_51, v58_54, v58_56, v58_59, v58_62, v58_62i, v58_69, v58_70, v58_73, v58_74, u58_77, v58_80, v58_81, v58_84, v58_87, v58_88, v58_89, v58_92, v58_95, v58_96, v58_97, v58_98, v58_101, v58_102, u58_103, v58_106, v58_107, v58_110, v58_111, v58_112, v58_113, v58_116, v58_117, v58_120, v58_121, v58_124, v58_125, n_cl, n_in_t, n_lt_t, n_lt_f, n_eq_t, n_eq_f, n_sub, nI_add, n_mul, n_01, ↓reduceIte, if_true, if_false, eq_self, true_or, or_true, and_self, and_true, true_and, Nat.reduceAdd, Nat.reduceMul, Nat.reduceLeDiff, Nat.zero_le, not_true_eq_false, not_false_eq_true, cat2_n, cat2_i, cat2_r, ws_0, ws_i, ws_r, ws_l, ws_d, aftr_n, aftr_s, bI_ok, bI_t, bI_f, up_s, up_n, n_bit, decide_true, decide_false, Bool.not_true, Bool.not_false, Bool.and_true, Bool.true_and, Bool.false_and, Bool.and_false, va_rf_s, n_nlt0, k_0, k_67, k_68, k_465, k_466, k_467, k_468, k_469, k_470, k_471, k_472, k_565, r_0_0, r_0_1, r_0_2, r_0_3, r_0_4, r_0_5, r_67_0, r_465_0, r_467_0, r_467_2, r_470_0, r_470_1, va_rf_s, n_neg_t, n_neg_f, c85 ha, decide_eq_true e1]
        exact this
  · have := no (fun x => e1 x.1.1)
    simp (disch := omega) only [v58_0, u58_1, v58_4, v58_7, v58_8, v58_11, v58_12, v58_13, v58_16, v58_19, v58_19i, v58_26, v58_27, v58_30, u58_31, v58_34, v58_37, v58_40, v58_40i, v58_47, v58_48, v58_51, v58_54, v58_56, v58_59, v58_62, v58_62i, v58_69, v58_70, v58_73, v58_74, u58_77, v58_80, v58_81, v58_84, v58_87, v58_88, v58_89, v58_92, v58_95, v58_96, v58_97, v58_98, v58_101, v58_102, u58_103, v58_106, v58_107, v58_110, v58_111, v58_112, v58_113, v58_116, v58_117, v58_120, v58_121, v58_124, v58_125, n_cl, n_in_t, n_lt_t, n_lt_f, n_eq_t, n_eq_f, n_sub, nI_add, n_mul, n_01, ↓reduceIte, if_true, if_false, eq_self, true_or, or_true, and_self, and_true, true_and, Nat.reduceAdd, Nat.reduceMul, Nat.reduceLeDiff, Nat.zero_le, not_true_eq_false, not_false_eq_true, cat2_n, cat2_i, cat2_r, ws_0, ws_i, ws_r, ws_l, ws_d, aftr_n, aftr_s, bI_ok, bI_t, bI_f, up_s, up_n, n_bit, decide_true, decide_false, Bool.not_true, Bool.not_false, Bool.and_true, Bool.true_and, Bool.false_and, Bool.and_false, va_rf_s, n_nlt0, k_0, k_67, k_68, k_465, k_466, k_467, k_468, k_469, k_470, k_471, k_472, k_565, r_0_0, r_0_1, r_0_2, r_0_3, r_0_4, r_0_5, r_67_0, r_465_0, r_467_0, r_467_2, r_470_0, r_470_1, va_rf_s, n_neg_t, n_neg_f, c85 ha, decide_eq_false e1]
    exact this
theorem SR.addW {A' : Row} {I' : Nat → Nat → Int32} (h : SR b I s A) (hg : Good A) (hp : A 7 < 10) (hn : newW A A' (A 7)) (h7 : A' 7 = A 7 + 1) (ha : Ag (fun o j => o = s + 46 + 2 * A 7 ∨ o = s + 47 + 2 * A 7 ∨ (o = s ∧ j = 3)) b I I') (h1 : I' (ad b s) 3 = nI (A 7 + 1)) (hP : WR b I' (s + 46 + 2 * A 7) (s + 47 + 2 * A 7) A' (A 7)) : SR b I' s A' := by
  obtain ⟨⟨⟨a1, a2, a3, a4, a5, a6⟩, a7, a8, a9⟩, a10⟩ := h
  have g6 := hg.1.1
  have nn : ∀ k, k ≠ 7 → k < 313 ∨ 413 ≤ k → A' k = A k := fun k h7 hk => hn k (by omega) (by omega) (by omega) (by omega)
  refine ⟨⟨⟨?_, by rw [h7]; exact h1, ?_, ?_, ?_, ?_⟩, fun i hi => ?_, fun w hw => ?_, ?_⟩, fun k hk => ?_⟩
  · rw [nn 6 (by omega) (by omega), ha.at (by omega)]; exact a1
  · rw [nn 8 (by omega) (by omega), ha.at (by omega)]; exact a3
  · rw [nn 9 (by omega) (by omega), ha.at (by omega)]; exact a4
  · rw [nn 10 (by omega) (by omega), ha.at (by omega)]; exact a5
  · rw [nn 11 (by omega) (by omega), ha.at (by omega)]; exact a6
  · rw [nn 6 (by omega) (by omega)] at hi
    obtain ⟨b1, b2, b3, b4, b5, b6, b7, b8⟩ := (a7 i hi).ag ha (fun j x => by omega) (fun j x => by omega)
    have gi := (hg.2.2.1 i hi).2.2.2.2.2.2.1
    refine ⟨by rw [nn _ (by omega) (by omega)]; exact b1, by rw [nn _ (by omega) (by omega)]; exact b2, by rw [nn _ (by omega) (by omega)]; exact b3, by rw [nn _ (by omega) (by omega)]; exact b4, by rw [nn _ (by omega) (by omega)]; exact b5, by rw [nn _ (by omega) (by omega)]; exact b6, by rw [nn _ (by omega) (by omega)]; exact b7, fun k hk => ?_⟩
    rw [nn _ (by omega) (by omega)] at hk
    rw [nn _ (by omega) (by omega)]
    exact b8 k hk
  · rw [h7] at hw
    by_cases e : w = A 7
    · rw [e]; exact hP
    · obtain ⟨b1, b2, b3⟩ := (a8 w (by omega)).ag ha (fun j x => by omega) (fun j x => by omega)
      have gi := (hg.2.2.2.1 w (by omega)).2.1
      refine ⟨by rw [hn _ (by omega) (by omega) (by omega) (by omega)]; exact b1, by rw [hn _ (by omega) (by omega) (by omega) (by omega)]; exact b2, fun k hk => ?_⟩
      rw [hn _ (by omega) (by omega) (by omega) (by omega)] at hk
      rw [hn _ (by omega) (by omega) (by omega) (by omega)]
      exact b3 k hk
  · unfold IR
    rw [raw_cg (fun k hk => nn k (by omega) (by omega))]
    exact ⟨(ha.at (by omega)).trans a9.1, fun k hk => (ha.at (by omega)).trans (a9.2 k hk)⟩
  · rw [nn k (by omega) (by omega), ha.at (by omega)]; exact a10 k hk
/-- Word.begin -/
theorem c53 {w : Nat} (hs : isS s) (hp : w < 10) (hB : BR b I B) (hc : cpl 1 B = true) (hQ : ∀ I', I' (ad b (s + 46 + 2 * w)) 1 = nI (ldr 8 B) → I' (ad b (s + 46 + 2 * w)) 2 = nI (if ldr 8 B < B.length then 1 else 0) → (∀ k, k < ldr 8 B → I' (ad b (s + 47 + 2 * w)) k = nI (B.getD k 0)) →
    Ag (fun o _ => o = s + 46 + 2 * w ∨ o = s + 47 + 2 * w) b I I' → Q (.inl none) (KAt KL b, I', RAt RL b q, L, sz, ex)) :
    X z 53 0 [some (.ref (ad b (s + 46 + 2 * w))), some (.ref (ad b 465)), none] [] (0, 0) (KAt KL b, I, RAt RL b q, L, sz, ex) Q := by
  have hb := isS_b hs
  obtain ⟨c1, c2, c3, c4⟩ := cpl_1 hc
  have m1 := hB.1
  have h60 := hB.2.1
  have hr := hB.2.2.1 (B.length - 1) (by omega)
  have hch := hB.chr (k := B.length - 1) (by omega)
  by_cases e : ldr 8 B < B.length
  · obtain ⟨d1, d2⟩ := c4 e
    rw [if_pos e] at hQ
    have e42 : B.getD (B.length - 1) 0 = 42 := by rw [d1, Nat.add_sub_cancel]; exact d2
    rw [e42] at hr
    have hm : min (B.length - 1) 8 = ldr 8 B := by omega
    simp (disch := omega) only [v53_0, v53_1, v53_4, v53_5, v53_6, v53_7, v53_8, v53_9, v53_12, v53_13, v53_16, v53_17, v53_18, v53_20, v53_23, v53_24, v53_27, v53_28, v53_31, v53_32, v53_33, v53_36, v53_39, v53_40, v53_43, v53_44, v53_47, u53_49, v53_52, v53_55, v53_56, v53_59, v53_60, v53_61, v53_64, v53_65, v53_66, v53_69, v53_72, n_cl, n_in_t, n_lt_t, n_lt_f, n_eq_t, n_eq_f, n_sub, nI_add, n_mul, n_01, ↓reduceIte, if_true, if_false, eq_self, true_or, or_true, and_self, and_true, true_and, Nat.reduceAdd, Nat.reduceMul, Nat.reduceLeDiff, Nat.zero_le, not_true_eq_false, not_false_eq_true, cat2_n, cat2_i, cat2_r, ws_0, ws_i, ws_r, ws_l, ws_d, aftr_n, aftr_s, bI_ok, bI_t, bI_f, up_s, up_n, n_bit, decide_true, decide_false, Bool.not_true, Bool.not_false, Bool.and_true, Bool.true_and, Bool.false_and, Bool.and_false, va_rf_s, n_nlt0, k_0, k_67, k_68, k_465, k_466, k_467, k_468, k_469, k_470, k_471, k_472, k_565, r_0_0, r_0_1, r_0_2, r_0_3, r_0_4, r_0_5, r_67_0, r_465_0, r_467_0, r_467_2, r_470_0, r_470_1, va_rf_s, n_neg_t, n_neg_f, k_0, k_67, k_68, k_465, k_466, k_467, k_468, k_469, k_470, k_471, k_472, k_565, r_0_0, r_0_1, r_0_2, r_0_3, r_0_4, r_0_5, r_67_0, r_465_0, r_467_0, r_467_2, r_470_0, r_470_1, va_rf_s, kS0 hs, kS1 hs, kS2 hs, kS3 hs, kS4 hs, kS5 hs, kSp hs, kSn hs, kSw hs, kSl hs, rS0_0 hs, rS0_2 hs, rS0_4 hs, rS0_5 hs, rS3_0 hs, rS1 hs, rS2 hs, rSp hs, rSw hs, c184, hm, m1, hr, up_s, Nat.zero_add]
    refine ⟨by omega, c2, hQ _ ?_ ?_ (fun k hk => ?_) ?_⟩
    · rw [cp_n (by omega), up_s]
    · rw [cp_n (by omega), up_n (by omega), up_s]
    · rw [cp_s (Nat.zero_le _) (by omega), Nat.zero_add, Nat.sub_zero, up_n (by omega), up_n (by omega)]
      exact hB.2.2.1 k (by omega)
    · exact ((Ag.rf.up (Or.inl rfl)).up (Or.inl rfl)).cp (fun _ _ _ => Or.inr rfl)
  · rw [if_neg e] at hQ
    have e42 : B.getD (B.length - 1) 0 ≠ 42 := by
      have := ldr_let 8 B (B.length - 1) (by omega)
      unfold isLet at this
      omega
    have hm : min B.length 8 = ldr 8 B := by omega
    simp (disch := omega) only [v53_0, v53_1, v53_4, v53_5, v53_6, v53_7, v53_8, v53_9, v53_12, v53_13, v53_16, v53_17, v53_18, v53_20, v53_23, v53_24, v53_27, v53_28, v53_31, v53_32, v53_33, v53_36, v53_39, v53_40, v53_43, v53_44, v53_47, u53_49, v53_52, v53_55, v53_56, v53_59, v53_60, v53_61, v53_64, v53_65, v53_66, v53_69, v53_72, n_cl, n_in_t, n_lt_t, n_lt_f, n_eq_t, n_eq_f, n_sub, nI_add, n_mul, n_01, ↓reduceIte, if_true, if_false, eq_self, true_or, or_true, and_self, and_true, true_and, Nat.reduceAdd, Nat.reduceMul, Nat.reduceLeDiff, Nat.zero_le, not_true_eq_false, not_false_eq_true, cat2_n, cat2_i, cat2_r, ws_0, ws_i, ws_r, ws_l, ws_d, aftr_n, aftr_s, bI_ok, bI_t, bI_f, up_s, up_n, n_bit, decide_true, decide_false, Bool.not_true, Bool.not_false, Bool.and_true, Bool.true_and, Bool.false_and, Bool.and_false, va_rf_s, n_nlt0, k_0, k_67, k_68, k_465, k_466, k_467, k_468, k_469, k_470, k_471, k_472, k_565, r_0_0, r_0_1, r_0_2, r_0_3, r_0_4, r_0_5, r_67_0, r_465_0, r_467_0, r_467_2, r_470_0, r_470_1, va_rf_s, n_neg_t, n_neg_f, k_0, k_67, k_68, k_465, k_466, k_467, k_468, k_469, k_470, k_471, k_472, k_565, r_0_0, r_0_1, r_0_2, r_0_3, r_0_4, r_0_5, r_67_0, r_465_0, r_467_0, r_467_2, r_470_0, r_470_1, va_rf_s, kS0 hs, kS1 hs, kS2 hs, kS3 hs, kS4 hs, kS5 hs, kSp hs, kSn hs, kSw hs, kSl hs, rS0_0 hs, rS0_2 hs, rS0_4 hs, rS0_5 hs, rS3_0 hs, rS1 hs, rS2 hs, rSp hs, rSw hs, c184, hm, m1, hr, up_s, Nat.zero_add]
    refine ⟨by omega, c2, hQ _ ?_ ?_ (fun k hk => ?_) ?_⟩
    · rw [cp_n (by omega), up_s]
    · rw [cp_n (by omega), up_n (by omega), up_s]
    · rw [cp_s (Nat.zero_le _) (by omega), Nat.zero_add, Nat.sub_zero, up_n (by omega), up_n (by omega)]
      exact hB.2.2.1 k (by omega)
    · exact ((Ag.rf.up (Or.inl rfl)).up (Or.inl rfl)).cp (fun _ _ _ => Or.inr rfl)
set_option maxHeartbeats 4000000 in
theorem c59 (hw : CSt b I q (A, n, H, B)) (hg : GoodW (A, n, H, B)) (hQ : CQ b I q (opAddW (A, n, H, B)) (fun v I' q' => Q (.inl (some (.int (nI v)))) (KAt KL b, I', RAt RL b q', L, sz, ex)) (fun c I' => Q (.inr (if c = 1 then 0 else 1)) (KAt KL b, I', RAt RL b q, L, sz, false))) : X z 59 0 [some (.ref (ad b 0)), none] [] (0, 0) (KAt KL b, I, RAt RL b q, L, sz, ex) Q := by
  have hs := isS_N
  have sn : sN = 1 := rfl
  have h7 := hg.1.1.2.1
  dsimp only at h7
  have m7 : I (ad b sN) 3 = nI (A 7) := hw.1.1.1.2.1
  have hB : BR b I B := hw.2.2.2
  unfold opAddW at hQ
  dsimp only at hQ
  cases hc : cpl 1 B with
  | true =>
    have hB8 := (cpl_1 hc).2.1
    have hB9 := (cpl_1 hc).2.2.1
    rw [if_pos hc] at hQ
    by_cases e7 : A 7 < 10
    · rw [if_pos e7] at hQ
      simp (disch := omega) only [v59_0, v59_1, v59_4, u59_5, v59_8, v59_11, v59_14, v59_14i, v59_21, v59_22, v59_25, v59_28, v59_30, v59_33, v59_36, v59_36i, v59_43, v59_44, v59_47, v59_48, u59_51, n_cl, n_in_t, n_lt_t, n_lt_f, n_eq_t, n_eq_f, n_sub, nI_add, n_mul, n_01, ↓reduceIte, if_true, if_false, eq_self, true_or, or_true, and_self, and_true, true_and, Nat.reduceAdd, Nat.reduceMul, Nat.reduceLeDiff, Nat.zero_le, not_true_eq_false, not_false_eq_true, cat2_n, cat2_i, cat2_r, ws_0, ws_i, ws_r, ws_l, ws_d, aftr_n, aftr_s, bI_ok, bI_t, bI_f, up_s, up_n, n_bit, decide_true, decide_false, Bool.not_true, Bool.not_false, Bool.and_true, Bool.true_and, Bool.false_and, Bool.and_false, va_rf_s, n_nlt0, k_0, k_67, k_68, k_465, k_466, k_467, k_468, k_469, k_470, k_471, k_472, k_565, r_0_0, r_0_1, r_0_2, r_0_3, r_0_4, r_0_5, r_67_0, r_465_0, r_467_0, r_467_2, r_470_0, r_470_1, va_rf_s, n_neg_t, n_neg_f, k_0, k_67, k_68, k_465, k_466, k_467, k_468, k_469, k_470, k_471, k_472, k_565, r_0_0, r_0_1, r_0_2, r_0_3, r_0_4, r_0_5, r_67_0, r_465_0, r_467_0, r_467_2, r_470_0, r_470_1, va_rf_s, kS0 hs, kS1 hs, kS2 hs, kS3 hs, kS4 hs, kS5 hs, kSp hs, kSn hs, kSw hs, kSl hs, rS0_0 hs, rS0_2 hs, rS0_4 hs, rS0_5 hs, rS3_0 hs, rS1 hs, rS2 hs, rSp hs, rSw hs, c2 (show 1 ≤ 2 by decide) hB, hc, m7]
      refine kp hw hg (fun I1 q1 w1 g1 => ?_)
      have m71 : I1 (ad b sN) 3 = nI (A 7) := w1.1.1.1.2.1
      simp (disch := omega) only [v59_54, v59_55, v59_58, v59_61, v59_62, v59_63, v59_66, v59_69, v59_70, v59_71, v59_72, u59_75, n_cl, n_in_t, n_lt_t, n_lt_f, n_eq_t, n_eq_f, n_sub, nI_add, n_mul, n_01, ↓reduceIte, if_true, if_false, eq_self, true_or, or_true, and_self, and_true, true_and, Nat.reduceAdd, Nat.reduceMul, Nat.reduceLeDiff, Nat.zero_le, not_true_eq_false, not_false_eq_true, cat2_n, cat2_i, cat2_r, ws_0, ws_i, ws_r, ws_l, ws_d, aftr_n, aftr_s, bI_ok, bI_t, bI_f, up_s, up_n, n_bit, decide_true, decide_false, Bool.not_true, Bool.not_false, Bool.and_true, Bool.true_and, Bool.false_and, Bool.and_false, va_rf_s, n_nlt0, k_0, k_67, k_68, k_465, k_466, k_467, k_468, k_469, k_470, k_471, k_472, k_565, r_0_0, r_0_1, r_0_2, r_0_3, r_0_4, r_0_5, r_67_0, r_465_0, r_467_0, r_467_2, r_470_0, r_470_1, va_rf_s, n_neg_t, n_neg_f, k_0, k_67, k_68, k_465, k_466, k_467, k_468, k_469, k_470, k_471, k_472, k_565, r_0_0, r_0_1, r_0_2, r_0_3, r_0_4, r_0_5, r_67_0, r_465_0, r_467_0, r_467_2, r_470_0, r_470_1, va_rf_s, kS0 hs, kS1 hs, kS2 hs, kS3 hs, kS4 hs, kS5 hs, kSp hs, kSn hs, kSw hs, kSl hs, rS0_0 hs, rS0_2 hs, rS0_4 hs, rS0_5 hs, rS3_0 hs, rS1 hs, rS2 hs, rSp hs, rSw hs, m71]
      refine c53 hs e7 w1.2.2.2 hc (fun I2 b1 b2 b3 g2 => ?_)
      simp (disch := omega) only [v59_78, v59_79, v59_82, v59_83, v59_84, v59_85, v59_88, v59_89, v59_92, v59_93, v59_96, v59_97, n_cl, n_in_t, n_lt_t, n_lt_f, n_eq_t, n_eq_f, n_sub, nI_add, n_mul, n_01, ↓reduceIte, if_true, if_false, eq_self, true_or, or_true, and_self, and_true, true_and, Nat.reduceAdd, Nat.reduceMul, Nat.reduceLeDiff, Nat.zero_le, not_true_eq_false, not_false_eq_true, cat2_n, cat2_i, cat2_r, ws_0, ws_i, ws_r, ws_l, ws_d, aftr_n, aftr_s, bI_ok, bI_t, bI_f, up_s, up_n, n_bit, decide_true, decide_false, Bool.not_true, Bool.not_false, Bool.and_true, Bool.true_and, Bool.false_and, Bool.and_false, va_rf_s, n_nlt0, k_0, k_67, k_68, k_465, k_466, k_467, k_468, k_469, k_470, k_471, k_472, k_565, r_0_0, r_0_1, r_0_2, r_0_3, r_0_4, r_0_5, r_67_0, r_465_0, r_467_0, r_467_2, r_470_0, r_470_1, va_rf_s, n_neg_t, n_neg_f, k_0, k_67, k_68, k_465, k_466, k_467, k_468, k_469, k_470, k_471, k_472, k_565, r_0_0, r_0_1, r_0_2, r_0_3, r_0_4, r_0_5, r_67_0, r_465_0, r_467_0, r_467_2, r_470_0, r_470_1, va_rf_s, kS0 hs, kS1 hs, kS2 hs, kS3 hs, kS4 hs, kS5 hs, kSp hs, kSn hs, kSw hs, kSl hs, rS0_0 hs, rS0_2 hs, rS0_4 hs, rS0_5 hs, rS3_0 hs, rS1 hs, rS2 hs, rSp hs, rSw hs]
      have fr : Ag (fun o j => o = sN + 46 + 2 * A 7 ∨ o = sN + 47 + 2 * A 7 ∨ (o = sN ∧ j = 3)) b I1 (up2 I2 (ad b sN) 3 (nI (A 7 + 1))) := (g2.mn (fun o j x => by omega)).up (by omega)
      have w2 : CSt b (up2 I2 (ad b sN) 3 (nI (A 7 + 1))) q1 (addWR A B, svN n, svH A n H, B) := by
        obtain ⟨v1, v2, v3, v4⟩ := addW_v (A := A) hB8 hB9 e7
        refine w1.blk hg.sv fr (fun o j x => by omega) (SR.addW w1.1 hg.1 e7 (newW_add hB8 e7) v1 fr up_s ⟨?_, ?_, fun k hk => ?_⟩)
        · rw [up_n (by omega), b1, v2]
        · rw [up_n (by omega), b2, v3]
        · have hk2 : k < ldr 8 B := v2 ▸ hk
          rw [up_n (by omega), b3 k hk2]
          exact congrArg nI (v4 k hk2).symm
      exact hQ.1 rfl _ q1 (w2.clr ⟨good_addW hg.1 hc e7, hg.sv.2⟩) (((g1.mn pKp_c).tr (fr.mn (fun o j x => by unfold pCls; omega))).up (by unfold pCls; omega))
    · rw [if_neg e7] at hQ
      simp (disch := omega) only [v59_0, v59_1, v59_4, u59_5, v59_8, v59_11, v59_14, v59_14i, v59_21, v59_22, v59_25, v59_28, v59_30, v59_33, v59_36, v59_36i, v59_43, v59_44, v59_47, v59_48, u59_51, v59_54, v59_55, v59_58, v59_61, v59_62, v59_63, v59_66, v59_69, v59_70, v59_71, v59_72, u59_75, v59_78, v59_79, v59_82, v59_83, v59_84, v59_85, v59_88, v59_89, v59_92, v59_93, v59_96, v59_97, n_cl, n_in_t, n_lt_t, n_lt_f, n_eq_t, n_eq_f, n_sub, nI_add, n_mul, n_01, ↓reduceIte, if_true, if_false, eq_self, true_or, or_true, and_self, and_true, true_and, Nat.reduceAdd, Nat.reduceMul, Nat.reduceLeDiff, Nat.zero_le, not_true_eq_false, not_false_eq_true, cat2_n, cat2_i, cat2_r, ws_0, ws_i, ws_r, ws_l, ws_d, aftr_n, aftr_s, bI_ok, bI_t, bI_f, up_s, up_n, n_bit, decide_true, decide_false, Bool.not_true, Bool.not_false, Bool.and_true, Bool.true_and, Bool.false_and, Bool.and_false, va_rf_s, n_nlt0, k_0, k_67, k_68, k_465, k_466, k_467, k_468, k_469, k_470, k_471, k_472, k_565, r_0_0, r_0_1, r_0_2, r_0_3, r_0_4, r_0_5, r_67_0, r_465_0, r_467_0, r_467_2, r_470_0, r_470_1, va_rf_s, n_neg_t, n_neg_f, k_0, k_67, k_68, k_465, k_466, k_467, k_468, k_469, k_470, k_471, k_472, k_565, r_0_0, r_0_1, r_0_2, r_0_3, r_0_4, r_0_5, r_67_0, r_465_0, r_467_0, r_467_2, r_470_0, r_470_1, va_rf_s, kS0 hs, kS1 hs, kS2 hs, kS3 hs, kS4 hs, kS5 hs, kSp hs, kSn hs, kSw hs, kSl hs, rS0_0 hs, rS0_2 hs, rS0_4 hs, rS0_5 hs, rS3_0 hs, rS1 hs, rS2 hs, rSp hs, rSw hs, c2 (show 1 ≤ 2 by decide) hB, hc, m7]
      exact hQ.2 (fun x => ne_s x) I hw Ag.rf
  | false =>
    rw [if_neg (by rw [hc]; decide)] at hQ
    simp (disch := omega) only [v59_0, v59_1, v59_4, u59_5, v59_8, v59_11, v59_14, v59_14i, v59_21, v59_22, v59_25, v59_28, v59_30, v59_33, v59_36, v59_36i, v59_43, v59_44, v59_47, v59_48, u59_51, v59_54, v59_55, v59_58, v59_61, v59_62, v59_63, v59_66, v59_69, v59_70, v59_71, v59_72, u59_75, v59_78, v59_79, v59_82, v59_83, v59_84, v59_85, v59_88, v59_89, v59_92, v59_93, v59_96, v59_97, n_cl, n_in_t, n_lt_t, n_lt_f, n_eq_t, n_eq_f, n_sub, nI_add, n_mul, n_01, ↓reduceIte, if_true, if_false, eq_self, true_or, or_true, and_self, and_true, true_and, Nat.reduceAdd, Nat.reduceMul, Nat.reduceLeDiff, Nat.zero_le, not_true_eq_false, not_false_eq_true, cat2_n, cat2_i, cat2_r, ws_0, ws_i, ws_r, ws_l, ws_d, aftr_n, aftr_s, bI_ok, bI_t, bI_f, up_s, up_n, n_bit, decide_true, decide_false, Bool.not_true, Bool.not_false, Bool.and_true, Bool.true_and, Bool.false_and, Bool.and_false, va_rf_s, n_nlt0, k_0, k_67, k_68, k_465, k_466, k_467, k_468, k_469, k_470, k_471, k_472, k_565, r_0_0, r_0_1, r_0_2, r_0_3, r_0_4, r_0_5, r_67_0, r_465_0, r_467_0, r_467_2, r_470_0, r_470_1, va_rf_s, n_neg_t, n_neg_f, k_0, k_67, k_68, k_465, k_466, k_467, k_468, k_469, k_470, k_471, k_472, k_565, r_0_0, r_0_1, r_0_2, r_0_3, r_0_4, r_0_5, r_67_0, r_465_0, r_467_0, r_467_2, r_470_0, r_470_1, va_rf_s, c2 (show 1 ≤ 2 by decide) hB, hc]
    exact hQ.2 (fun x => ne_s x) I hw Ag.rf
/-- how many of a list are such -/
def cntL (P : Nat → Bool) : List Nat → Nat
  | [] => 0
  | c :: r => (bif P c then 1 else 0) + cntL P r
theorem cntL_app {P : Nat → Bool} : ∀ x y, cntL P (x ++ y) = cntL P x + cntL P y
  | [], y => by rw [List.nil_append]; unfold cntL; rw [Nat.zero_add]
  | c :: r, y => by
    show (bif P c then 1 else 0) + cntL P (r ++ y) = (bif P c then 1 else 0) + cntL P r + cntL P y
    rw [cntL_app r y, Nat.add_assoc]
theorem cntL_le {P : Nat → Bool} : ∀ x, cntL P x ≤ x.length
  | [] => Nat.le_refl _
  | c :: r => by have := cntL_le (P := P) r; unfold cntL; rw [List.length_cons]; cases P c <;> simp only [cond_true, cond_false] <;> omega
theorem fl_cnt {f : Nat → Nat} : ∀ d i, (∀ k, i ≤ k → k < i + d → okTok (f k)) → cntL (fun c => c == 60) ((segF f i d).flatMap exT) = cntF (fun k => decide (256 ≤ f k)) i d ∧ cntL (fun c => c != 125) ((segF f i d).flatMap exT) + cntF (fun k => f k == 125) i d = 2 * cntF (fun k => decide (256 ≤ f k)) i d + d
  | 0, i, _ => ⟨rfl, rfl⟩
  | d + 1, i, h => by
    obtain ⟨i1, i2⟩ := fl_cnt (f := f) d (i + 1) (fun k h1 h2 => h k (by omega) (by omega))
    have ht := h i (Nat.le_refl _) (by omega)
    unfold segF cntF
    rw [List.flatMap_cons, cntL_app, cntL_app, i1]
    generalize f i = t at ht ⊢
    have key : cntL (fun c => c == 60) (exT t) = (bif decide (256 ≤ t) then 1 else 0) ∧ cntL (fun c => c != 125) (exT t) + (bif t == 125 then 1 else 0) = 2 * (bif decide (256 ≤ t) then 1 else 0) + 1 := by
      rcases ht with ⟨h1, h2⟩ | rfl | rfl | rfl | rfl
      · unfold exT
        rw [if_pos h1, decide_eq_false (by omega)]
        have e60 : (t == 60) = false := beq_eq_false_iff_ne.mpr h2
        by_cases e : t = 125
        · subst e; exact ⟨rfl, rfl⟩
        · have e1 : (t == 125) = false := beq_eq_false_iff_ne.mpr e
          simp only [cntL, e60, e1, bne, Bool.not_false, cond_true, cond_false]
          exact ⟨trivial, trivial⟩
      · exact ⟨rfl, rfl⟩
      · exact ⟨rfl, rfl⟩
      · exact ⟨rfl, rfl⟩
      · exact ⟨rfl, rfl⟩
    refine ⟨by rw [key.1], ?_⟩
    have := key.2
    omega
theorem l29 (hs : isS s) (hi : IR b I (s + 3) (s + 4) A) (hl : (raw A).length ≤ 60) (h60 : ∀ k, k < (raw A).length → (raw A).getD k 0 < 4294967296) : ∀ r i c, (∀ j, j < r.length → (raw A).getD (i + j) 0 = r.getD j 0) → i + r.length = (raw A).length → X z 29 4 [some (.ref (ad b (s + 3))), some (.int (nI c)), some (.int (nI i))] [] (0, 0) (KAt KL b, I, RAt RL b q, L, sz, ex) Q = Q (.inl (some (.int (nI (c + cntL (fun c => c == 60) r))))) (KAt KL b, I, RAt RL b q, L, sz, ex) := by
  obtain ⟨m1, mk⟩ := hi
  intro r
  induction r with
  | nil =>
    intro i c hr hi
    have e : i = (raw A).length := by rw [List.length_nil] at hi; omega
    subst e
    unfold cntL
    rw [v29_4]
    simp (disch := omega) only [v29_0, v29_1, v29_2, v29_3, v29_5, v29_6, v29_9, v29_12, v29_13, v29_16, v29_17, v29_18, v29_20, v29_23, v29_26, v29_29, v29_32, v29_33, n_cl, n_in_t, n_lt_t, n_lt_f, n_eq_t, n_eq_f, n_sub, nI_add, n_mul, n_01, ↓reduceIte, if_true, if_false, eq_self, true_or, or_true, and_self, and_true, true_and, Nat.reduceAdd, Nat.reduceMul, Nat.reduceLeDiff, Nat.zero_le, not_true_eq_false, not_false_eq_true, cat2_n, cat2_i, cat2_r, ws_0, ws_i, ws_r, ws_l, ws_d, aftr_n, aftr_s, bI_ok, bI_t, bI_f, up_s, up_n, n_bit, decide_true, decide_false, Bool.not_true, Bool.not_false, Bool.and_true, Bool.true_and, Bool.false_and, Bool.and_false, va_rf_s, n_nlt0, k_0, k_67, k_68, k_465, k_466, k_467, k_468, k_469, k_470, k_471, k_472, k_565, r_0_0, r_0_1, r_0_2, r_0_3, r_0_4, r_0_5, r_67_0, r_465_0, r_467_0, r_467_2, r_470_0, r_470_1, va_rf_s, n_neg_t, n_neg_f, kS0 hs, kS1 hs, kS2 hs, kS3 hs, kS4 hs, kS5 hs, kSp hs, kSn hs, kSw hs, kSl hs, rS0_0 hs, rS0_2 hs, rS0_4 hs, rS0_5 hs, rS3_0 hs, rS1 hs, rS2 hs, rSp hs, rSw hs, m1]
    rfl
  | cons x r ih =>
    intro i c hr hi
    obtain ⟨g1, g2⟩ := getD_tail hr
    rw [List.length_cons] at hi
    have mi := mk i (by omega)
    have hx := h60 i (by omega)
    unfold cntL
    rw [v29_4]
    by_cases e : x = 60
    · have e2 : (raw A).getD i 0 = 60 := g1.trans e
      rw [e2] at mi
      simp (disch := omega) only [v29_0, v29_1, v29_2, v29_3, v29_5, v29_6, v29_9, v29_12, v29_13, v29_16, v29_17, v29_18, v29_20, v29_23, v29_26, v29_29, v29_32, v29_33, n_cl, n_in_t, n_lt_t, n_lt_f, n_eq_t, n_eq_f, n_sub, nI_add, n_mul, n_01, ↓reduceIte, if_true, if_false, eq_self, true_or, or_true, and_self, and_true, true_and, Nat.reduceAdd, Nat.reduceMul, Nat.reduceLeDiff, Nat.zero_le, not_true_eq_false, not_false_eq_true, cat2_n, cat2_i, cat2_r, ws_0, ws_i, ws_r, ws_l, ws_d, aftr_n, aftr_s, bI_ok, bI_t, bI_f, up_s, up_n, n_bit, decide_true, decide_false, Bool.not_true, Bool.not_false, Bool.and_true, Bool.true_and, Bool.false_and, Bool.and_false, va_rf_s, n_nlt0, k_0, k_67, k_68, k_465, k_466, k_467, k_468, k_469, k_470, k_471, k_472, k_565, r_0_0, r_0_1, r_0_2, r_0_3, r_0_4, r_0_5, r_67_0, r_465_0, r_467_0, r_467_2, r_470_0, r_470_1, va_rf_s, n_neg_t, n_neg_f, kS0 hs, kS1 hs, kS2 hs, kS3 hs, kS4 hs, kS5 hs, kSp hs, kSn hs, kSw hs, kSl hs, rS0_0 hs, rS0_2 hs, rS0_4 hs, rS0_5 hs, rS3_0 hs, rS1 hs, rS2 hs, rSp hs, rSw hs, m1, mi]
      rw [ih (i + 1) (c + 1) g2 (by omega), e]
      rw [show c + 1 + cntL (fun c => c == 60) r = c + ((bif 60 == 60 then 1 else 0) + cntL (fun c => c == 60) r) by show _ = c + (1 + _); omega]
    · have e2 : (raw A).getD i 0 ≠ 60 := by rw [g1]; exact e
      simp (disch := omega) only [v29_0, v29_1, v29_2, v29_3, v29_5, v29_6, v29_9, v29_12, v29_13, v29_16, v29_17, v29_18, v29_20, v29_23, v29_26, v29_29, v29_32, v29_33, n_cl, n_in_t, n_lt_t, n_lt_f, n_eq_t, n_eq_f, n_sub, nI_add, n_mul, n_01, ↓reduceIte, if_true, if_false, eq_self, true_or, or_true, and_self, and_true, true_and, Nat.reduceAdd, Nat.reduceMul, Nat.reduceLeDiff, Nat.zero_le, not_true_eq_false, not_false_eq_true, cat2_n, cat2_i, cat2_r, ws_0, ws_i, ws_r, ws_l, ws_d, aftr_n, aftr_s, bI_ok, bI_t, bI_f, up_s, up_n, n_bit, decide_true, decide_false, Bool.not_true, Bool.not_false, Bool.and_true, Bool.true_and, Bool.false_and, Bool.and_false, va_rf_s, n_nlt0, k_0, k_67, k_68, k_465, k_466, k_467, k_468, k_469, k_470, k_471, k_472, k_565, r_0_0, r_0_1, r_0_2, r_0_3, r_0_4, r_0_5, r_67_0, r_465_0, r_467_0, r_467_2, r_470_0, r_470_1, va_rf_s, n_neg_t, n_neg_f, kS0 hs, kS1 hs, kS2 hs, kS3 hs, kS4 hs, kS5 hs, kSp hs, kSn hs, kSw hs, kSl hs, rS0_0 hs, rS0_2 hs, rS0_4 hs, rS0_5 hs, rS3_0 hs, rS1 hs, rS2 hs, rSp hs, rSw hs, m1, mi]
      rw [ih (i + 1) c g2 (by omega), beq_eq_false_iff_ne.mpr e]
      rw [show c + cntL (fun c => c == 60) r = c + ((bif false then 1 else 0) + cntL (fun c => c == 60) r) by show _ = c + (0 + _); omega]
theorem raw_256 (hg : Good A) {k : Nat} (hk : k < (raw A).length) : (raw A).getD k 0 < 256 := by
  have hm : (raw A).getD k 0 ∈ raw A := by rw [List.getD_eq_getElem?_getD, List.getElem?_eq_getElem hk]; exact List.getElem_mem _
  have key : ∀ d i, (∀ k, i ≤ k → k < i + d → okTok (A (413 + k))) → ∀ c ∈ (segF (fun k => A (413 + k)) i d).flatMap exT, c < 256 := by
    intro d
    induction d with
    | zero => intro i _ c hc; exact absurd hc List.not_mem_nil
    | succ d ih =>
      intro i h c hc
      unfold segF at hc
      rw [List.flatMap_cons, List.mem_append] at hc
      rcases hc with hc | hc
      · have ht := h i (Nat.le_refl _) (by omega)
        generalize A (413 + i) = t at ht hc
        unfold exT at hc
        rcases ht with ⟨h1, h2⟩ | rfl | rfl | rfl | rfl
        · rw [if_pos h1, List.mem_singleton] at hc; omega
        · simp at hc; omega
        · simp at hc; omega
        · simp at hc; omega
        · simp at hc; omega
      · exact ih (i + 1) (fun k h1 h2 => h k (by omega) (by omega)) c hc
  exact key (A 12) 0 (fun k _ h2 => hg.tok (by omega)) _ hm
theorem c29 (hs : isS s) (hg : Good A) (hi : IR b I (s + 3) (s + 4) A) : X z 29 0 [some (.ref (ad b (s + 3))), none, none] [] (0, 0) (KAt KL b, I, RAt RL b q, L, sz, ex) Q = Q (.inl (some (.int (nI (flds A))))) (KAt KL b, I, RAt RL b q, L, sz, ex) := by
  simp (disch := omega) only [v29_0, v29_1, v29_2, v29_3, n_cl, n_in_t, n_lt_t, n_lt_f, n_eq_t, n_eq_f, n_sub, nI_add, n_mul, n_01, ↓reduceIte, if_true, if_false, eq_self, true_or, or_true, and_self, and_true, true_and, Nat.reduceAdd, Nat.reduceMul, Nat.reduceLeDiff, Nat.zero_le, not_true_eq_false, not_false_eq_true, cat2_n, cat2_i, cat2_r, ws_0, ws_i, ws_r, ws_l, ws_d, aftr_n, aftr_s, bI_ok, bI_t, bI_f, up_s, up_n, n_bit, decide_true, decide_false, Bool.not_true, Bool.not_false, Bool.and_true, Bool.true_and, Bool.false_and, Bool.and_false, va_rf_s, n_nlt0, k_0, k_67, k_68, k_465, k_466, k_467, k_468, k_469, k_470, k_471, k_472, k_565, r_0_0, r_0_1, r_0_2, r_0_3, r_0_4, r_0_5, r_67_0, r_465_0, r_467_0, r_467_2, r_470_0, r_470_1, va_rf_s, n_neg_t, n_neg_f]
  rw [l29 hs hi hg.2.2.2.2.2 (fun k hk => by have := raw_256 hg hk; omega) (raw A) 0 0 (fun j _ => by rw [Nat.zero_add]) (by omega), Nat.zero_add]
  rw [show cntL (fun c => c == 60) (raw A) = flds A from (fl_cnt (f := fun k => A (413 + k)) (A 12) 0 (fun k _ h2 => hg.tok (by omega))).1]
theorem flds_le : flds A ≤ A 12 := cntF_le _ _
theorem l30 (hs : isS s) (hi : IR b I (s + 3) (s + 4) A) (hl : (raw A).length ≤ 60) (h60 : ∀ k, k < (raw A).length → (raw A).getD k 0 < 4294967296) : ∀ r i c, (∀ j, j < r.length → (raw A).getD (i + j) 0 = r.getD j 0) → i + r.length = (raw A).length → X z 30 4 [some (.ref (ad b (s + 3))), some (.int (nI c)), some (.int (nI i))] [] (0, 0) (KAt KL b, I, RAt RL b q, L, sz, ex) Q = X z 30 32 [some (.ref (ad b (s + 3))), some (.int (nI (c + cntL (fun c => c != 125) r))), some (.int (nI (raw A).length))] [] (0, 0) (KAt KL b, I, RAt RL b q, L, sz, ex) Q := by
  obtain ⟨m1, mk⟩ := hi
  intro r
  induction r with
  | nil =>
    intro i c hr hi
    have e : i = (raw A).length := by rw [List.length_nil] at hi; omega
    subst e
    unfold cntL
    rw [v30_4]
    simp (disch := omega) only [v30_5, v30_6, v30_9, v30_12, v30_13, v30_16, v30_17, v30_18, v30_20, v30_23, v30_26, v30_29, n_cl, n_in_t, n_lt_t, n_lt_f, n_eq_t, n_eq_f, n_sub, nI_add, n_mul, n_01, ↓reduceIte, if_true, if_false, eq_self, true_or, or_true, and_self, and_true, true_and, Nat.reduceAdd, Nat.reduceMul, Nat.reduceLeDiff, Nat.zero_le, not_true_eq_false, not_false_eq_true, cat2_n, cat2_i, cat2_r, ws_0, ws_i, ws_r, ws_l, ws_d, aftr_n, aftr_s, bI_ok, bI_t, bI_f, up_s, up_n, n_bit, decide_true, decide_false, Bool.not_true, Bool.not_false, Bool.and_true, Bool.true_and, Bool.false_and, Bool.and_false, va_rf_s, n_nlt0, k_0, k_67, k_68, k_465, k_466, k_467, k_468, k_469, k_470, k_471, k_472, k_565, r_0_0, r_0_1, r_0_2, r_0_3, r_0_4, r_0_5, r_67_0, r_465_0, r_467_0, r_467_2, r_470_0, r_470_1, va_rf_s, n_neg_t, n_neg_f, kS0 hs, kS1 hs, kS2 hs, kS3 hs, kS4 hs, kS5 hs, kSp hs, kSn hs, kSw hs, kSl hs, rS0_0 hs, rS0_2 hs, rS0_4 hs, rS0_5 hs, rS3_0 hs, rS1 hs, rS2 hs, rSp hs, rSw hs, m1]
    rfl
  | cons x r ih =>
    intro i c hr hi
    obtain ⟨g1, g2⟩ := getD_tail hr
    rw [List.length_cons] at hi
    have mi := mk i (by omega)
    have hx := h60 i (by omega)
    unfold cntL
    rw [v30_4]
    by_cases e : x = 125
    · have e2 : (raw A).getD i 0 = 125 := g1.trans e
      rw [e2] at mi
      simp (disch := omega) only [v30_5, v30_6, v30_9, v30_12, v30_13, v30_16, v30_17, v30_18, v30_20, v30_23, v30_26, v30_29, n_cl, n_in_t, n_lt_t, n_lt_f, n_eq_t, n_eq_f, n_sub, nI_add, n_mul, n_01, ↓reduceIte, if_true, if_false, eq_self, true_or, or_true, and_self, and_true, true_and, Nat.reduceAdd, Nat.reduceMul, Nat.reduceLeDiff, Nat.zero_le, not_true_eq_false, not_false_eq_true, cat2_n, cat2_i, cat2_r, ws_0, ws_i, ws_r, ws_l, ws_d, aftr_n, aftr_s, bI_ok, bI_t, bI_f, up_s, up_n, n_bit, decide_true, decide_false, Bool.not_true, Bool.not_false, Bool.and_true, Bool.true_and, Bool.false_and, Bool.and_false, va_rf_s, n_nlt0, k_0, k_67, k_68, k_465, k_466, k_467, k_468, k_469, k_470, k_471, k_472, k_565, r_0_0, r_0_1, r_0_2, r_0_3, r_0_4, r_0_5, r_67_0, r_465_0, r_467_0, r_467_2, r_470_0, r_470_1, va_rf_s, n_neg_t, n_neg_f, kS0 hs, kS1 hs, kS2 hs, kS3 hs, kS4 hs, kS5 hs, kSp hs, kSn hs, kSw hs, kSl hs, rS0_0 hs, rS0_2 hs, rS0_4 hs, rS0_5 hs, rS3_0 hs, rS1 hs, rS2 hs, rSp hs, rSw hs, m1, mi]
      rw [ih (i + 1) c g2 (by omega), e]
      rw [show c + cntL (fun c => c != 125) r = c + ((bif 125 != 125 then 1 else 0) + cntL (fun c => c != 125) r) by show _ = c + (0 + _); omega]
    · have e2 : (raw A).getD i 0 ≠ 125 := by rw [g1]; exact e
      have e3 : (x != 125) = true := by rw [bne, beq_eq_false_iff_ne.mpr e]; rfl
      simp (disch := omega) only [v30_5, v30_6, v30_9, v30_12, v30_13, v30_16, v30_17, v30_18, v30_20, v30_23, v30_26, v30_29, n_cl, n_in_t, n_lt_t, n_lt_f, n_eq_t, n_eq_f, n_sub, nI_add, n_mul, n_01, ↓reduceIte, if_true, if_false, eq_self, true_or, or_true, and_self, and_true, true_and, Nat.reduceAdd, Nat.reduceMul, Nat.reduceLeDiff, Nat.zero_le, not_true_eq_false, not_false_eq_true, cat2_n, cat2_i, cat2_r, ws_0, ws_i, ws_r, ws_l, ws_d, aftr_n, aftr_s, bI_ok, bI_t, bI_f, up_s, up_n, n_bit, decide_true, decide_false, Bool.not_true, Bool.not_false, Bool.and_true, Bool.true_and, Bool.false_and, Bool.and_false, va_rf_s, n_nlt0, k_0, k_67, k_68, k_465, k_466, k_467, k_468, k_469, k_470, k_471, k_472, k_565, r_0_0, r_0_1, r_0_2, r_0_3, r_0_4, r_0_5, r_67_0, r_465_0, r_467_0, r_467_2, r_470_0, r_470_1, va_rf_s, n_neg_t, n_neg_f, kS0 hs, kS1 hs, kS2 hs, kS3 hs, kS4 hs, kS5 hs, kSp hs, kSn hs, kSw hs, kSl hs, rS0_0 hs, rS0_2 hs, rS0_4 hs, rS0_5 hs, rS3_0 hs, rS1 hs, rS2 hs, rSp hs, rSw hs, m1, mi]
      rw [ih (i + 1) (c + 1) g2 (by omega), e3]
      rw [show c + 1 + cntL (fun c => c != 125) r = c + ((bif true then 1 else 0) + cntL (fun c => c != 125) r) by show _ = c + (1 + _); omega]
theorem c30 (hs : isS s) (hg : Good A) (hi : IR b I (s + 3) (s + 4) A) : X z 30 0 [some (.ref (ad b (s + 3))), none, none] [] (0, 0) (KAt KL b, I, RAt RL b q, L, sz, ex) Q = Q (.inl (some (.int (nI (A 12 - cntF (fun k => A (413 + k) == 125) 0 (A 12)))))) (KAt KL b, I, RAt RL b q, L, sz, ex) := by
  have h2 := (fl_cnt (f := fun k => A (413 + k)) (A 12) 0 (fun k _ h2 => hg.tok (by omega))).2
  have hl := hg.2.2.2.2.2
  have h12 := hg.1.2.2.1
  have hc : cntL (fun c => c != 125) (raw A) ≤ (raw A).length := cntL_le _
  have f1 := flds_le (A := A)
  have e : cntL (fun c => c != 125) (raw A) + cntF (fun k => A (413 + k) == 125) 0 (A 12) = 2 * flds A + A 12 := h2
  simp (disch := omega) only [v30_0, v30_1, v30_2, v30_3, n_cl, n_in_t, n_lt_t, n_lt_f, n_eq_t, n_eq_f, n_sub, nI_add, n_mul, n_01, ↓reduceIte, if_true, if_false, eq_self, true_or, or_true, and_self, and_true, true_and, Nat.reduceAdd, Nat.reduceMul, Nat.reduceLeDiff, Nat.zero_le, not_true_eq_false, not_false_eq_true, cat2_n, cat2_i, cat2_r, ws_0, ws_i, ws_r, ws_l, ws_d, aftr_n, aftr_s, bI_ok, bI_t, bI_f, up_s, up_n, n_bit, decide_true, decide_false, Bool.not_true, Bool.not_false, Bool.and_true, Bool.true_and, Bool.false_and, Bool.and_false, va_rf_s, n_nlt0, k_0, k_67, k_68, k_465, k_466, k_467, k_468, k_469, k_470, k_471, k_472, k_565, r_0_0, r_0_1, r_0_2, r_0_3, r_0_4, r_0_5, r_67_0, r_465_0, r_467_0, r_467_2, r_470_0, r_470_1, va_rf_s, n_neg_t, n_neg_f]
  rw [l30 hs hi hl (fun k hk => by have := raw_256 hg hk; omega) (raw A) 0 0 (fun j _ => by rw [Nat.zero_add]) (by omega), Nat.zero_add]
  have h3 := cntF_le (f := fun k => A (413 + k) == 125) (A 12) 0
  simp (disch := omega) only [v30_32, v30_33, v30_34, u30_35, v30_38, v30_39, v30_40, n_cl, n_in_t, n_lt_t, n_lt_f, n_eq_t, n_eq_f, n_sub, nI_add, n_mul, n_01, ↓reduceIte, if_true, if_false, eq_self, true_or, or_true, and_self, and_true, true_and, Nat.reduceAdd, Nat.reduceMul, Nat.reduceLeDiff, Nat.zero_le, not_true_eq_false, not_false_eq_true, cat2_n, cat2_i, cat2_r, ws_0, ws_i, ws_r, ws_l, ws_d, aftr_n, aftr_s, bI_ok, bI_t, bI_f, up_s, up_n, n_bit, decide_true, decide_false, Bool.not_true, Bool.not_false, Bool.and_true, Bool.true_and, Bool.false_and, Bool.and_false, va_rf_s, n_nlt0, k_0, k_67, k_68, k_465, k_466, k_467, k_468, k_469, k_470, k_471, k_472, k_565, r_0_0, r_0_1, r_0_2, r_0_3, r_0_4, r_0_5, r_67_0, r_465_0, r_467_0, r_467_2, r_470_0, r_470_1, va_rf_s, n_neg_t, n_neg_f, kS0 hs, kS1 hs, kS2 hs, kS3 hs, kS4 hs, kS5 hs, kSp hs, kSn hs, kSw hs, kSl hs, rS0_0 hs, rS0_2 hs, rS0_4 hs, rS0_5 hs, rS3_0 hs, rS1 hs, rS2 hs, rSp hs, rSw hs, c29 hs hg hi]
  rw [show cntL (fun c => c != 125) (raw A) - 2 * flds A = A 12 - cntF (fun k => A (413 + k) == 125) 0 (A 12) by omega]
theorem SR.take {A' : Row} {I' : Nat → Nat → Int32} (h : SR b I s A) (hg : Good A) (hn : ∀ k, k ≠ 12 ∧ k < 413 → A' k = A k) (ha : Ag (fun o _ => o = s + 3 ∨ o = s + 4) b I I') (hP : IR b I' (s + 3) (s + 4) A') : SR b I' s A' := by
  obtain ⟨⟨⟨a1, a2, a3, a4, a5, a6⟩, a7, a8, a9⟩, a10⟩ := h
  have g6 := hg.1.1
  have g7 := hg.1.2.1
  refine ⟨⟨⟨?_, ?_, ?_, ?_, ?_, ?_⟩, fun i hi => ?_, fun w hw => ?_, hP⟩, fun k hk => ?_⟩
  · rw [hn 6 (by omega), ha.at (by omega)]; exact a1
  · rw [hn 7 (by omega), ha.at (by omega)]; exact a2
  · rw [hn 8 (by omega), ha.at (by omega)]; exact a3
  · rw [hn 9 (by omega), ha.at (by omega)]; exact a4
  · rw [hn 10 (by omega), ha.at (by omega)]; exact a5
  · rw [hn 11 (by omega), ha.at (by omega)]; exact a6
  · rw [hn 6 (by omega)] at hi
    obtain ⟨b1, b2, b3, b4, b5, b6, b7, b8⟩ := (a7 i hi).ag ha (fun j x => by omega) (fun j x => by omega)
    have gi := (hg.2.2.1 i hi).2.2.2.2.2.2.1
    refine ⟨by rw [hn _ (by omega)]; exact b1, by rw [hn _ (by omega)]; exact b2, by rw [hn _ (by omega)]; exact b3, by rw [hn _ (by omega)]; exact b4, by rw [hn _ (by omega)]; exact b5, by rw [hn _ (by omega)]; exact b6, by rw [hn _ (by omega)]; exact b7, fun k hk => ?_⟩
    rw [hn _ (by omega)] at hk
    rw [hn _ (by omega)]
    exact b8 k hk
  · rw [hn 7 (by omega)] at hw
    obtain ⟨b1, b2, b3⟩ := (a8 w hw).ag ha (fun j x => by omega) (fun j x => by omega)
    have gi := (hg.2.2.2.1 w hw).2.1
    refine ⟨by rw [hn _ (by omega)]; exact b1, by rw [hn _ (by omega)]; exact b2, fun k hk => ?_⟩
    rw [hn _ (by omega)] at hk
    rw [hn _ (by omega)]
    exact b3 k hk
  · rw [hn k (by omega), ha.at (by omega)]; exact a10 k hk
set_option maxHeartbeats 4000000 in
theorem c60 (hw : CSt b I q (A, n, H, B)) (hg : GoodW (A, n, H, B)) (hQ : CQ b I q (opTake (A, n, H, B)) (fun v I' q' => Q (.inl (some (.int (nI v)))) (KAt KL b, I', RAt RL b q', L, sz, ex)) (fun c I' => Q (.inr (if c = 1 then 0 else 0)) (KAt KL b, I', RAt RL b q, L, sz, false))) : X z 60 0 [some (.ref (ad b 0))] [] (0, 0) (KAt KL b, I, RAt RL b q, L, sz, ex) Q := by
  have hs := isS_N
  have sn : sN = 1 := rfl
  have hB : BR b I B := hw.2.2.2
  unfold opTake at hQ
  dsimp only at hQ
  cases hc : cpl 2 B with
  | true =>
    rw [if_pos hc] at hQ
    simp (disch := omega) only [v60_0, v60_1, v60_4, u60_5, v60_8, v60_11, v60_14, v60_14i, v60_21, v60_22, v60_25, v60_26, u60_29, n_cl, n_in_t, n_lt_t, n_lt_f, n_eq_t, n_eq_f, n_sub, nI_add, n_mul, n_01, ↓reduceIte, if_true, if_false, eq_self, true_or, or_true, and_self, and_true, true_and, Nat.reduceAdd, Nat.reduceMul, Nat.reduceLeDiff, Nat.zero_le, not_true_eq_false, not_false_eq_true, cat2_n, cat2_i, cat2_r, ws_0, ws_i, ws_r, ws_l, ws_d, aftr_n, aftr_s, bI_ok, bI_t, bI_f, up_s, up_n, n_bit, decide_true, decide_false, Bool.not_true, Bool.not_false, Bool.and_true, Bool.true_and, Bool.false_and, Bool.and_false, va_rf_s, n_nlt0, k_0, k_67, k_68, k_465, k_466, k_467, k_468, k_469, k_470, k_471, k_472, k_565, r_0_0, r_0_1, r_0_2, r_0_3, r_0_4, r_0_5, r_67_0, r_465_0, r_467_0, r_467_2, r_470_0, r_470_1, va_rf_s, n_neg_t, n_neg_f, k_0, k_67, k_68, k_465, k_466, k_467, k_468, k_469, k_470, k_471, k_472, k_565, r_0_0, r_0_1, r_0_2, r_0_3, r_0_4, r_0_5, r_67_0, r_465_0, r_467_0, r_467_2, r_470_0, r_470_1, va_rf_s, kS0 hs, kS1 hs, kS2 hs, kS3 hs, kS4 hs, kS5 hs, kSp hs, kSn hs, kSw hs, kSl hs, rS0_0 hs, rS0_2 hs, rS0_4 hs, rS0_5 hs, rS3_0 hs, rS1 hs, rS2 hs, rSp hs, rSw hs, c2 (Nat.le_refl 2) hB, hc]
    refine kp hw hg (fun I1 q1 w1 g1 => ?_)
    have hB1 : BR b I1 B := w1.2.2.2
    have m1 := hB1.1
    simp (disch := omega) only [v60_32, v60_33, v60_36, v60_39, v60_40, v60_43, v60_46, v60_47, v60_50, u60_53, n_cl, n_in_t, n_lt_t, n_lt_f, n_eq_t, n_eq_f, n_sub, nI_add, n_mul, n_01, ↓reduceIte, if_true, if_false, eq_self, true_or, or_true, and_self, and_true, true_and, Nat.reduceAdd, Nat.reduceMul, Nat.reduceLeDiff, Nat.zero_le, not_true_eq_false, not_false_eq_true, cat2_n, cat2_i, cat2_r, ws_0, ws_i, ws_r, ws_l, ws_d, aftr_n, aftr_s, bI_ok, bI_t, bI_f, up_s, up_n, n_bit, decide_true, decide_false, Bool.not_true, Bool.not_false, Bool.and_true, Bool.true_and, Bool.false_and, Bool.and_false, va_rf_s, n_nlt0, k_0, k_67, k_68, k_465, k_466, k_467, k_468, k_469, k_470, k_471, k_472, k_565, r_0_0, r_0_1, r_0_2, r_0_3, r_0_4, r_0_5, r_67_0, r_465_0, r_467_0, r_467_2, r_470_0, r_470_1, va_rf_s, n_neg_t, n_neg_f, k_0, k_67, k_68, k_465, k_466, k_467, k_468, k_469, k_470, k_471, k_472, k_565, r_0_0, r_0_1, r_0_2, r_0_3, r_0_4, r_0_5, r_67_0, r_465_0, r_467_0, r_467_2, r_470_0, r_470_1, va_rf_s, kS0 hs, kS1 hs, kS2 hs, kS3 hs, kS4 hs, kS5 hs, kSp hs, kSn hs, kSw hs, kSl hs, rS0_0 hs, rS0_2 hs, rS0_4 hs, rS0_5 hs, rS3_0 hs, rS1 hs, rS2 hs, rSp hs, rSw hs, m1]
    refine c28 hs k_466 (Or.inr (by omega)) hB1.2.1 hB1.2.2.1 (fun I2 b1 b2 g2 => ?_)
    have hgt : Good (takeR A (tkw 0 B)) := good_take hg.1 hc hB.2.2.2 hB.2.1
    have w2 : CSt b I2 q1 (takeR A (tkw 0 B), svN n, svH A n H, B) := by
      refine w1.blk hg.sv g2 (fun o j x => by omega) (SR.take w1.1 hg.1 (fun k hk => takeR_n hk) g2 ⟨?_, fun k hk => ?_⟩)
      · rw [raw_take hc hB.2.2.2]; exact b1
      · rw [raw_take hc hB.2.2.2] at hk ⊢; exact b2 k hk
    have w3 : CSt b (up2 I2 (ad b 465) 1 (nI 0)) q1 (takeR A (tkw 0 B), svN n, svH A n H, []) := w2.clr ⟨hgt, hg.sv.2⟩
    simp (disch := omega) only [v60_56, v60_57, v60_60, v60_61, v60_64, v60_65, v60_68, u60_71, v60_74, n_cl, n_in_t, n_lt_t, n_lt_f, n_eq_t, n_eq_f, n_sub, nI_add, n_mul, n_01, ↓reduceIte, if_true, if_false, eq_self, true_or, or_true, and_self, and_true, true_and, Nat.reduceAdd, Nat.reduceMul, Nat.reduceLeDiff, Nat.zero_le, not_true_eq_false, not_false_eq_true, cat2_n, cat2_i, cat2_r, ws_0, ws_i, ws_r, ws_l, ws_d, aftr_n, aftr_s, bI_ok, bI_t, bI_f, up_s, up_n, n_bit, decide_true, decide_false, Bool.not_true, Bool.not_false, Bool.and_true, Bool.true_and, Bool.false_and, Bool.and_false, va_rf_s, n_nlt0, k_0, k_67, k_68, k_465, k_466, k_467, k_468, k_469, k_470, k_471, k_472, k_565, r_0_0, r_0_1, r_0_2, r_0_3, r_0_4, r_0_5, r_67_0, r_465_0, r_467_0, r_467_2, r_470_0, r_470_1, va_rf_s, n_neg_t, n_neg_f, k_0, k_67, k_68, k_465, k_466, k_467, k_468, k_469, k_470, k_471, k_472, k_565, r_0_0, r_0_1, r_0_2, r_0_3, r_0_4, r_0_5, r_67_0, r_465_0, r_467_0, r_467_2, r_470_0, r_470_1, va_rf_s, kS0 hs, kS1 hs, kS2 hs, kS3 hs, kS4 hs, kS5 hs, kSp hs, kSn hs, kSw hs, kSl hs, rS0_0 hs, rS0_2 hs, rS0_4 hs, rS0_5 hs, rS3_0 hs, rS1 hs, rS2 hs, rSp hs, rSw hs, c29 hs hgt w3.1.1.2.2.2]
    exact hQ.1 rfl _ q1 w3 (((g1.mn pKp_c).tr (g2.mn (fun o j x => by unfold pCls; omega))).up (by unfold pCls; omega))
  | false =>
    rw [if_neg (by rw [hc]; decide)] at hQ
    simp (disch := omega) only [v60_0, v60_1, v60_4, u60_5, v60_8, v60_11, v60_14, v60_14i, v60_21, v60_22, v60_25, v60_26, u60_29, v60_32, v60_33, v60_36, v60_39, v60_40, v60_43, v60_46, v60_47, v60_50, u60_53, v60_56, v60_57, v60_60, v60_61, v60_64, v60_65, v60_68, u60_71, v60_74, n_cl, n_in_t, n_lt_t, n_lt_f, n_eq_t, n_eq_f, n_sub, nI_add, n_mul, n_01, ↓reduceIte, if_true, if_false, eq_self, true_or, or_true, and_self, and_true, true_and, Nat.reduceAdd, Nat.reduceMul, Nat.reduceLeDiff, Nat.zero_le, not_true_eq_false, not_false_eq_true, cat2_n, cat2_i, cat2_r, ws_0, ws_i, ws_r, ws_l, ws_d, aftr_n, aftr_s, bI_ok, bI_t, bI_f, up_s, up_n, n_bit, decide_true, decide_false, Bool.not_true, Bool.not_false, Bool.and_true, Bool.true_and, Bool.false_and, Bool.and_false, va_rf_s, n_nlt0, k_0, k_67, k_68, k_465, k_466, k_467, k_468, k_469, k_470, k_471, k_472, k_565, r_0_0, r_0_1, r_0_2, r_0_3, r_0_4, r_0_5, r_67_0, r_465_0, r_467_0, r_467_2, r_470_0, r_470_1, va_rf_s, n_neg_t, n_neg_f, k_0, k_67, k_68, k_465, k_466, k_467, k_468, k_469, k_470, k_471, k_472, k_565, r_0_0, r_0_1, r_0_2, r_0_3, r_0_4, r_0_5, r_67_0, r_465_0, r_467_0, r_467_2, r_470_0, r_470_1, va_rf_s, c2 (Nat.le_refl 2) hB, hc]
    exact hQ.2 (fun x => ne_s x) I hw Ag.rf
end CQQ
