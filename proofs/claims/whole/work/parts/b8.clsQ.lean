/-! THE CLASS: adding a person, a word; taking a letter -/
section CQQ
variable {z : P0} {KL : Nat → Nat × Nat} {RL : Nat → Nat → Option Nat} {q : Nat → Nat} {b : Nat} {I : Nat → Nat → Int32} {L : Nat → Nat → Int64} {sz : Nat} {ex : Bool} {Q : Res → Mem → Prop} {A : Row}
variable {n : Nat} {H : Nat → Row} {B : List Nat} {s : Nat}
theorem SR.addP {A' : Row} {I' : Nat → Nat → Int32} (h : SR b I s A) (hg : Good A) (hp : A 6 < 20) (hn : newP A A' (A 6)) (h6 : A' 6 = A 6 + 1) (ha : Ag (fun o j => o = s + 6 + 2 * A 6 ∨ o = s + 7 + 2 * A 6 ∨ (o = s ∧ j = 1)) b I I') (h1 : I' (ad b s) 1 = nI (A 6 + 1)) (hP : PR b I' (s + 6 + 2 * A 6) (s + 7 + 2 * A 6) A' (A 6)) : SR b I' s A' := by
  obtain ⟨⟨⟨a1, a2, a3, a4, a5, a6⟩, a7, a8, a9⟩, a10⟩ := h
  have g7 := hg.1.2.1
  have nn : ∀ k, (7 ≤ k ∧ k ≤ 12) ∨ 313 ≤ k ∨ k < 6 → A' k = A k := fun k hk => hn k (by omega) (by omega) (by omega) (by omega) (by omega) (by omega) (by omega) (by omega) (by omega)
  refine ⟨⟨⟨by rw [h6]; exact h1, ?_, ?_, ?_, ?_, ?_⟩, fun i hi => ?_, fun w hw => ?_, ?_⟩, fun k hk => ?_⟩
  · rw [nn 7 (by omega), ha.at (by omega)]; exact a2
  · rw [nn 8 (by omega), ha.at (by omega)]; exact a3
  · rw [nn 9 (by omega), ha.at (by omega)]; exact a4
  · rw [nn 10 (by omega), ha.at (by omega)]; exact a5
  · rw [nn 11 (by omega), ha.at (by omega)]; exact a6
  · rw [h6] at hi
    by_cases e : i = A 6
    · rw [e]; exact hP
    · obtain ⟨b1, b2, b3, b4, b5, b6, b7, b8⟩ := (a7 i (by omega)).ag ha (fun j x => by omega) (fun j x => by omega)
      have gi := (hg.2.2.1 i (by omega)).2.2.2.2.2.2.1
      have q : ∀ k, k = 13 + i ∨ k = 33 + i ∨ k = 53 + i ∨ k = 73 + i ∨ k = 93 + i ∨ k = 113 + i ∨ k = 133 + i → A' k = A k := fun k hk => hn k (by omega) (by omega) (by omega) (by omega) (by omega) (by omega) (by omega) (by omega) (by omega)
      refine ⟨by rw [q _ (by omega)]; exact b1, by rw [q _ (by omega)]; exact b2, by rw [q _ (by omega)]; exact b3, by rw [q _ (by omega)]; exact b4, by rw [q _ (by omega)]; exact b5, by rw [q _ (by omega)]; exact b6, by rw [q _ (by omega)]; exact b7, fun k hk => ?_⟩
      rw [q _ (by omega)] at hk
      rw [hn _ (by omega) (by omega) (by omega) (by omega) (by omega) (by omega) (by omega) (by omega) (by omega)]
      exact b8 k hk
  · rw [nn 7 (by omega)] at hw
    obtain ⟨b1, b2, b3⟩ := (a8 w hw).ag ha (fun j x => by omega) (fun j x => by omega)
    refine ⟨by rw [nn _ (by omega)]; exact b1, by rw [nn _ (by omega)]; exact b2, fun k hk => ?_⟩
    rw [nn _ (by omega)] at hk ⊢
    exact b3 k hk
  · unfold IR
    rw [raw_cg (fun k hk => nn k (by omega))]
    exact ⟨(ha.at (by omega)).trans a9.1, fun k hk => (ha.at (by omega)).trans (a9.2 k hk)⟩
  · rw [nn k (by omega), ha.at (by omega)]; exact a10 k hk
/-- Person.begin -/
theorem c45 {p a f : Nat} (hs : isS s) (hp : p < 20) (hB : BR b I B) (h8 : B.length ≤ 8) (hQ : ∀ I', I' (ad b (s + 6 + 2 * p)) 1 = nI B.length → I' (ad b (s + 6 + 2 * p)) 2 = nI a → I' (ad b (s + 6 + 2 * p)) 3 = nI f → I' (ad b (s + 6 + 2 * p)) 4 = nI 4294967295 → I' (ad b (s + 6 + 2 * p)) 5 = nI 0 → I' (ad b (s + 6 + 2 * p)) 6 = nI 4294967295 → I' (ad b (s + 6 + 2 * p)) 7 = nI 0 → (∀ k, k < B.length → I' (ad b (s + 7 + 2 * p)) k = nI (B.getD k 0)) →
    Ag (fun o _ => o = s + 6 + 2 * p ∨ o = s + 7 + 2 * p) b I I' → Q (.inl none) (KAt KL b, I', RAt RL b q, L, sz, ex)) :
    X z 45 0 [some (.ref (ad b (s + 6 + 2 * p))), some (.ref (ad b 465)), some (.int (nI a)), some (.int (nI f))] [] (0, 0) (KAt KL b, I, RAt RL b q, L, sz, ex) Q := by
  have hb := isS_b hs
  have hm : min B.length 8 = B.length := Nat.min_eq_left h8
  have m1 := hB.1
  have h60 : B.length ≤ 60 := by omega
  simp (disch := omega) only [v45_0, v45_1, v45_2, v45_5, u45_7, v45_10, v45_13, v45_14, v45_17, v45_18, v45_19, v45_22, v45_23, v45_24, v45_27, v45_30, v45_31, v45_32, v45_35, v45_36, v45_37, v45_40, v45_41, v45_42, v45_45, v45_46, v45_47, v45_50, v45_51, v45_52, v45_55, v45_56, v45_57, v45_60, n_cl, n_in_t, n_lt_t, n_lt_f, n_eq_t, n_eq_f, n_sub, nI_add, n_mul, n_01, ↓reduceIte, if_true, if_false, eq_self, true_or, or_true, and_self, and_true, true_and, Nat.reduceAdd, Nat.reduceMul, Nat.reduceLeDiff, Nat.zero_le, not_true_eq_false, not_false_eq_true, cat2_n, cat2_i, cat2_r, ws_0, ws_i, ws_r, ws_l, ws_d, aftr_n, aftr_s, bI_ok, bI_t, bI_f, up_s, up_n, n_bit, decide_true, decide_false, Bool.not_true, Bool.not_false, Bool.and_true, Bool.true_and, Bool.false_and, Bool.and_false, va_rf_s, n_nlt0, k_0, k_67, k_68, k_465, k_466, k_467, k_468, k_469, k_470, k_471, k_472, k_565, r_0_0, r_0_1, r_0_2, r_0_3, r_0_4, r_0_5, r_67_0, r_465_0, r_467_0, r_467_2, r_470_0, r_470_1, va_rf_s, n_neg_t, n_neg_f, k_0, k_67, k_68, k_465, k_466, k_467, k_468, k_469, k_470, k_471, k_472, k_565, r_0_0, r_0_1, r_0_2, r_0_3, r_0_4, r_0_5, r_67_0, r_465_0, r_467_0, r_467_2, r_470_0, r_470_1, va_rf_s, kS0 hs, kS1 hs, kS2 hs, kS3 hs, kS4 hs, kS5 hs, kSp hs, kSn hs, kSw hs, kSl hs, rS0_0 hs, rS0_2 hs, rS0_4 hs, rS0_5 hs, rS3_0 hs, rS1 hs, rS2 hs, rSp hs, rSw hs, c184, hm, m1, up_s, Nat.zero_add, h60, h8]
  refine hQ _ ?_ ?_ ?_ ?_ ?_ ?_ ?_ (fun k hk => ?_) ?_
  · rw [up_n (by omega), up_n (by omega), up_n (by omega), up_n (by omega), up_n (by omega), up_n (by omega), cp_n (by omega), up_s]
  · rw [up_n (by omega), up_n (by omega), up_n (by omega), up_n (by omega), up_n (by omega), up_s]
  · rw [up_n (by omega), up_n (by omega), up_n (by omega), up_n (by omega), up_s]
  · rw [up_n (by omega), up_n (by omega), up_n (by omega), up_s]
  · rw [up_n (by omega), up_n (by omega), up_s]
  · rw [up_n (by omega), up_s]
  · rw [up_s]
  · rw [up_n (by omega), up_n (by omega), up_n (by omega), up_n (by omega), up_n (by omega), up_n (by omega), cp_s (Nat.zero_le _) (by omega), Nat.zero_add, Nat.sub_zero, up_n (by omega)]
    exact hB.2.2.1 k hk
  · exact (((((((Ag.rf.up (Or.inl rfl)).cp (fun _ _ _ => Or.inr rfl)).up (Or.inl rfl)).up (Or.inl rfl)).up (Or.inl rfl)).up (Or.inl rfl)).up (Or.inl rfl)).up (Or.inl rfl)
set_option maxHeartbeats 4000000 in
theorem c58 {a f : Nat} (ha : a < 4294967296) (hf : f < 4294967296) (hw : CSt b I q (A, n, H, B)) (hg : GoodW (A, n, H, B)) (hQ : CQ b I q (opAddP (A, n, H, B) a f) (fun v I' q' => Q (.inl (some (.int (nI v)))) (KAt KL b, I', RAt RL b q', L, sz, ex)) (fun c I' => Q (.inr (if c = 1 then 0 else 1)) (KAt KL b, I', RAt RL b q, L, sz, false))) : X z 58 0 [some (.ref (ad b 0)), some (.int (nI a)), some (.int (nI f)), none] [] (0, 0) (KAt KL b, I, RAt RL b q, L, sz, ex) Q := by
  have hs := isS_N
  have sn : sN = 1 := rfl
  have h6 := hg.1.1.1
  dsimp only at h6
  have m6 : I (ad b sN) 1 = nI (A 6) := hw.1.1.1.1
  have hB : BR b I B := hw.2.2.2
  unfold opAddP at hQ
  dsimp only at hQ
  have no : ¬ ((a ≤ 19 ∧ f ≤ 2) ∧ cpl 0 B = true) → Q (.inr 0) (KAt KL b, I, RAt RL b q, L, sz, false) := by
    intro e
    rw [if_neg e] at hQ
    exact hQ.2 (fun x => ne_s x) I hw Ag.rf
  by_cases e1 : a ≤ 19
  · by_cases e2 : f ≤ 2
    · cases hc : cpl 0 B with
      | true =>
        have hB8 := (cpl_0 hc).2.1
        rw [if_pos ⟨⟨e1, e2⟩, hc⟩] at hQ
        by_cases e6 : A 6 < 20
        · rw [if_pos e6] at hQ
          simp (disch := omega) only [v58_0, u58_1, v58_4, v58_7, v58_8, v58_11, v58_12, v58_13, v58_16, v58_19, v58_19i, v58_26, v58_27, v58_30, u58_31, v58_34, v58_37, v58_40, v58_40i, v58_47, v58_48, v58_51, v58_54, v58_56, v58_59, v58_62, v58_62i, v58_69, v58_70, v58_73, v58_74, u58_77, n_cl, n_in_t, n_lt_t, n_lt_f, n_eq_t, n_eq_f, n_sub, nI_add, n_mul, n_01, ↓reduceIte, if_true, if_false, eq_self, true_or, or_true, and_self, and_true, true_and, Nat.reduceAdd, Nat.reduceMul, Nat.reduceLeDiff, Nat.zero_le, not_true_eq_false, not_false_eq_true, cat2_n, cat2_i, cat2_r, ws_0, ws_i, ws_r, ws_l, ws_d, aftr_n, aftr_s, bI_ok, bI_t, bI_f, up_s, up_n, n_bit, decide_true, decide_false, Bool.not_true, Bool.not_false, Bool.and_true, Bool.true_and, Bool.false_and, Bool.and_false, va_rf_s, n_nlt0, k_0, k_67, k_68, k_465, k_466, k_467, k_468, k_469, k_470, k_471, k_472, k_565, r_0_0, r_0_1, r_0_2, r_0_3, r_0_4, r_0_5, r_67_0, r_465_0, r_467_0, r_467_2, r_470_0, r_470_1, va_rf_s, n_neg_t, n_neg_f, k_0, k_67, k_68, k_465, k_466, k_467, k_468, k_469, k_470, k_471, k_472, k_565, r_0_0, r_0_1, r_0_2, r_0_3, r_0_4, r_0_5, r_67_0, r_465_0, r_467_0, r_467_2, r_470_0, r_470_1, va_rf_s, kS0 hs, kS1 hs, kS2 hs, kS3 hs, kS4 hs, kS5 hs, kSp hs, kSn hs, kSw hs, kSl hs, rS0_0 hs, rS0_2 hs, rS0_4 hs, rS0_5 hs, rS3_0 hs, rS1 hs, rS2 hs, rSp hs, rSw hs, c85 ha, decide_eq_true e1, c2 (Nat.zero_le 2) hB, hc, m6]
          refine kp hw hg (fun I1 q1 w1 g1 => ?_)
          have m61 : I1 (ad b sN) 1 = nI (A 6) := w1.1.1.1.1
          simp (disch := omega) only [v58_80, v58_81, v58_84, v58_87, v58_88, v58_89, v58_92, v58_95, v58_96, v58_97, v58_98, v58_101, v58_102, u58_103, n_cl, n_in_t, n_lt_t, n_lt_f, n_eq_t, n_eq_f, n_sub, nI_add, n_mul, n_01, ↓reduceIte, if_true, if_false, eq_self, true_or, or_true, and_self, and_true, true_and, Nat.reduceAdd, Nat.reduceMul, Nat.reduceLeDiff, Nat.zero_le, not_true_eq_false, not_false_eq_true, cat2_n, cat2_i, cat2_r, ws_0, ws_i, ws_r, ws_l, ws_d, aftr_n, aftr_s, bI_ok, bI_t, bI_f, up_s, up_n, n_bit, decide_true, decide_false, Bool.not_true, Bool.not_false, Bool.and_true, Bool.true_and, Bool.false_and, Bool.and_false, va_rf_s, n_nlt0, k_0, k_67, k_68, k_465, k_466, k_467, k_468, k_469, k_470, k_471, k_472, k_565, r_0_0, r_0_1, r_0_2, r_0_3, r_0_4, r_0_5, r_67_0, r_465_0, r_467_0, r_467_2, r_470_0, r_470_1, va_rf_s, n_neg_t, n_neg_f, k_0, k_67, k_68, k_465, k_466, k_467, k_468, k_469, k_470, k_471, k_472, k_565, r_0_0, r_0_1, r_0_2, r_0_3, r_0_4, r_0_5, r_67_0, r_465_0, r_467_0, r_467_2, r_470_0, r_470_1, va_rf_s, kS0 hs, kS1 hs, kS2 hs, kS3 hs, kS4 hs, kS5 hs, kSp hs, kSn hs, kSw hs, kSl hs, rS0_0 hs, rS0_2 hs, rS0_4 hs, rS0_5 hs, rS3_0 hs, rS1 hs, rS2 hs, rSp hs, rSw hs, m61]
          refine c45 hs e6 w1.2.2.2 hB8 (fun I2 b1 b2 b3 b4 b5 b6 b7 b8 g2 => ?_)
          simp (disch := omega) only [v58_106, v58_107, v58_110, v58_111, v58_112, v58_113, v58_116, v58_117, v58_120, v58_121, v58_124, v58_125, n_cl, n_in_t, n_lt_t, n_lt_f, n_eq_t, n_eq_f, n_sub, nI_add, n_mul, n_01, ↓reduceIte, if_true, if_false, eq_self, true_or, or_true, and_self, and_true, true_and, Nat.reduceAdd, Nat.reduceMul, Nat.reduceLeDiff, Nat.zero_le, not_true_eq_false, not_false_eq_true, cat2_n, cat2_i, cat2_r, ws_0, ws_i, ws_r, ws_l, ws_d, aftr_n, aftr_s, bI_ok, bI_t, bI_f, up_s, up_n, n_bit, decide_true, decide_false, Bool.not_true, Bool.not_false, Bool.and_true, Bool.true_and, Bool.false_and, Bool.and_false, va_rf_s, n_nlt0, k_0, k_67, k_68, k_465, k_466, k_467, k_468, k_469, k_470, k_471, k_472, k_565, r_0_0, r_0_1, r_0_2, r_0_3, r_0_4, r_0_5, r_67_0, r_465_0, r_467_0, r_467_2, r_470_0, r_470_1, va_rf_s, n_neg_t, n_neg_f, k_0, k_67, k_68, k_465, k_466, k_467, k_468, k_469, k_470, k_471, k_472, k_565, r_0_0, r_0_1, r_0_2, r_0_3, r_0_4, r_0_5, r_67_0, r_465_0, r_467_0, r_467_2, r_470_0, r_470_1, va_rf_s, kS0 hs, kS1 hs, kS2 hs, kS3 hs, kS4 hs, kS5 hs, kSp hs, kSn hs, kSw hs, kSl hs, rS0_0 hs, rS0_2 hs, rS0_4 hs, rS0_5 hs, rS3_0 hs, rS1 hs, rS2 hs, rSp hs, rSw hs]
          have fr : Ag (fun o j => o = sN + 6 + 2 * A 6 ∨ o = sN + 7 + 2 * A 6 ∨ (o = sN ∧ j = 1)) b I1 (up2 I2 (ad b sN) 1 (nI (A 6 + 1))) := (g2.mn (fun o j x => by omega)).up (by omega)
          have w2 : CSt b (up2 I2 (ad b sN) 1 (nI (A 6 + 1))) q1 (addPR A a f B, svN n, svH A n H, B) := by
            obtain ⟨v1, v2, v3, v4, v5, v6, v7, v8, v9⟩ := addP_v (A := A) (a := a) (f := f) hB8 e6
            refine w1.blk hg.sv fr (fun o j x => by omega) (SR.addP w1.1 hg.1 e6 (newP_add hB8 e6) v1 fr up_s ⟨?_, ?_, ?_, ?_, ?_, ?_, ?_, fun k hk => ?_⟩)
            · rw [up_n (by omega), b1, v8]
            · rw [up_n (by omega), b2, v2]
            · rw [up_n (by omega), b3, v3]
            · rw [up_n (by omega), b4, v4]
            · rw [up_n (by omega), b5, v5]
            · rw [up_n (by omega), b6, v6]
            · rw [up_n (by omega), b7, v7]
            · have hk2 : k < B.length := v8 ▸ hk
              rw [up_n (by omega), b8 k hk2]
              exact congrArg nI (v9 k hk2).symm
          exact hQ.1 rfl _ q1 (w2.clr ⟨good_addP hg.1 hc e1 e2 e6, hg.sv.2⟩) (((g1.mn pKp_c).tr (fr.mn (fun o j x => by unfold pCls; omega))).up (by unfold pCls; omega))
        · rw [if_neg e6] at hQ
          simp (disch := omega) only [v58_0, u58_1, v58_4, v58_7, v58_8, v58_11, v58_12, v58_13, v58_16, v58_19, v58_19i, v58_26, v58_27, v58_30, u58_31, v58_34, v58_37, v58_40, v58_40i, v58_47, v58_48, v58_51, v58_54, v58_56, v58_59, v58_62, v58_62i, v58_69, v58_70, v58_73, v58_74, u58_77, v58_80, v58_81, v58_84, v58_87, v58_88, v58_89, v58_92, v58_95, v58_96, v58_97, v58_98, v58_101, v58_102, u58_103, v58_106, v58_107, v58_110, v58_111, v58_112, v58_113, v58_116, v58_117, v58_120, v58_121, v58_124, v58_125, n_cl, n_in_t, n_lt_t, n_lt_f, n_eq_t, n_eq_f, n_sub, nI_add, n_mul, n_01, ↓reduceIte, if_true, if_false, eq_self, true_or, or_true, and_self, and_true, true_and, Nat.reduceAdd, Nat.reduceMul, Nat.reduceLeDiff, Nat.zero_le, not_true_eq_false, not_false_eq_true, cat2_n, cat2_i, cat2_r, ws_0, ws_i, ws_r, ws_l, ws_d, aftr_n, aftr_s, bI_ok, bI_t, bI_f, up_s, up_n, n_bit, decide_true, decide_false, Bool.not_true, Bool.not_false, Bool.and_true, Bool.true_and, Bool.false_and, Bool.and_false, va_rf_s, n_nlt0, k_0, k_67, k_68, k_465, k_466, k_467, k_468, k_469, k_470, k_471, k_472, k_565, r_0_0, r_0_1, r_0_2, r_0_3, r_0_4, r_0_5, r_67_0, r_465_0, r_467_0, r_467_2, r_470_0, r_470_1, va_rf_s, n_neg_t, n_neg_f, k_0, k_67, k_68, k_465, k_466, k_467, k_468, k_469, k_470, k_471, k_472, k_565, r_0_0, r_0_1, r_0_2, r_0_3, r_0_4, r_0_5, r_67_0, r_465_0, r_467_0, r_467_2, r_470_0, r_470_1, va_rf_s, kS0 hs, kS1 hs, kS2 hs, kS3 hs, kS4 hs, kS5 hs, kSp hs, kSn hs, kSw hs, kSl hs, rS0_0 hs, rS0_2 hs, rS0_4 hs, rS0_5 hs, rS3_0 hs, rS1 hs, rS2 hs, rSp hs, rSw hs, c85 ha, decide_eq_true e1, c2 (Nat.zero_le 2) hB, hc, m6]
          exact hQ.2 (fun x => ne_s x) I hw Ag.rf
      | false =>
        have := no (fun x => by rw [hc] at x; exact absurd x.2 (by decide))
        simp (disch := omega) only [v58_0, u58_1, v58_4, v58_7, v58_8, v58_11, v58_12, v58_13, v58_16, v58_19, v58_19i, v58_26, v58_27, v58_30, u58_31, v58_34, v58_37, v58_40, v58_40i, v58_47, v58_48, v58_51, v58_54, v58_56, v58_59, v58_62, v58_62i, v58_69, v58_70, v58_73, v58_74, u58_77, v58_80, v58_81, v58_84, v58_87, v58_88, v58_89, v58_92, v58_95, v58_96, v58_97, v58_98, v58_101, v58_102, u58_103, v58_106, v58_107, v58_110, v58_111, v58_112, v58_113, v58_116, v58_117, v58_120, v58_121, v58_124, v58_125, n_cl, n_in_t, n_lt_t, n_lt_f, n_eq_t, n_eq_f, n_sub, nI_add, n_mul, n_01, ↓reduceIte, if_true, if_false, eq_self, true_or, or_true, and_self, and_true, true_and, Nat.reduceAdd, Nat.reduceMul, Nat.reduceLeDiff, Nat.zero_le, not_true_eq_false, not_false_eq_true, cat2_n, cat2_i, cat2_r, ws_0, ws_i, ws_r, ws_l, ws_d, aftr_n, aftr_s, bI_ok, bI_t, bI_f, up_s, up_n, n_bit, decide_true, decide_false, Bool.not_true, Bool.not_false, Bool.and_true, Bool.true_and, Bool.false_and, Bool.and_false, va_rf_s, n_nlt0, k_0, k_67, k_68, k_465, k_466, k_467, k_468, k_469, k_470, k_471, k_472, k_565, r_0_0, r_0_1, r_0_2, r_0_3, r_0_4, r_0_5, r_67_0, r_465_0, r_467_0, r_467_2, r_470_0, r_470_1, va_rf_s, n_neg_t, n_neg_f, k_0, k_67, k_68, k_465, k_466, k_467, k_468, k_469, k_470, k_471, k_472, k_565, r_0_0, r_0_1, r_0_2, r_0_3, r_0_4, r_0_5, r_67_0, r_465_0, r_467_0, r_467_2, r_470_0, r_470_1, va_rf_s, c85 ha, decide_eq_true e1, c2 (Nat.zero_le 2) hB, hc]
        exact this
    · have := no (fun x => e2 x.1.2)
      by_cases e3 : f < 2147483648
      · simp (disch := omega) only [v58_0, u58_1, v58_4, v58_7, v58_8, v58_11, v58_12, v58_13, v58_16, v58_19, v58_19i, v58_26, v58_27, v58_30, u58_31, v58_34, v58_37, v58_40, v58_40i, v58_47, v58_48, v58_51, v58_54, v58_56, v58_59, v58_62, v58_62i, v58_69, v58_70, v58_73, v58_74, u58_77, v58_80, v58_81, v58_84, v58_87, v58_88, v58_89, v58_92, v58_95, v58_96, v58_97, v58_98, v58_101, v58_102, u58_103, v58_106, v58_107, v58_110, v58_111, v58_112, v58_113, v58_116, v58_117, v58_120, v58_121, v58_124, v58_125, n_cl, n_in_t, n_lt_t, n_lt_f, n_eq_t, n_eq_f, n_sub, nI_add, n_mul, n_01, ↓reduceIte, if_true, if_false, eq_self, true_or, or_true, and_self, and_true, true_and, Nat.reduceAdd, Nat.reduceMul, Nat.reduceLeDiff, Nat.zero_le, not_true_eq_false, not_false_eq_true, cat2_n, cat2_i, cat2_r, ws_0, ws_i, ws_r, ws_l, ws_d, aftr_n, aftr_s, bI_ok, bI_t, bI_f, up_s, up_n, n_bit, decide_true, decide_false, Bool.not_true, Bool.not_false, Bool.and_true, Bool.true_and, Bool.false_and, Bool.and_false, va_rf_s, n_nlt0, k_0, k_67, k_68, k_465, k_466, k_467, k_468, k_469, k_470, k_471, k_472, k_565, r_0_0, r_0_1, r_0_2, r_0_3, r_0_4, r_0_5, r_67_0, r_465_0, r_467_0, r_467_2, r_470_0, r_470_1, va_rf_s, n_neg_t, n_neg_f, c85 ha, decide_eq_true e1]
        exact this
      · simp (disch := omega) only [v58_0, u58_1, v58_4, v58_7, v58_8, v58_11, v58_12, v58_13, v58_16, v58_19, v58_19i, v58_26, v58_27, v58_30, u58_31, v58_34, v58_37, v58_40, v58_40i, v58_47, v58_48, v58_51, v58_54, v58_56, v58_59, v58_62, v58_62i, v58_69, v58_70, v58_73, v58_74, u58_77, v58_80, v58_81, v58_84, v58_87, v58_88, v58_89, v58_92, v58_95, v58_96, v58_97, v58_98, v58_101, v58_102, u58_103, v58_106, v58_107, v58_110, v58_111, v58_112, v58_113, v58_116, v58_117, v58_120, v58_121, v58_124, v58_125, n_cl, n_in_t, n_lt_t, n_lt_f, n_eq_t, n_eq_f, n_sub, nI_add, n_mul, n_01, ↓reduceIte, if_true, if_false, eq_self, true_or, or_true, and_self, and_true, true_and, Nat.reduceAdd, Nat.reduceMul, Nat.reduceLeDiff, Nat.zero_le, not_true_eq_false, not_false_eq_true, cat2_n, cat2_i, cat2_r, ws_0, ws_i, ws_r, ws_l, ws_d, aftr_n, aftr_s, bI_ok, bI_t, bI_f, up_s, up_n, n_bit, decide_true, decide_false, Bool.not_true, Bool.not_false, Bool.and_true, Bool.true_and, Bool.false_and, Bool.and_false, va_rf_s, n_nlt0, k_0, k_67, k_68, k_465, k_466, k_467, k_468, k_469, k_470, k_471, k_472, k_565, r_0_0, r_0_1, r_0_2, r_0_3, r_0_4, r_0_5, r_67_0, r_465_0, r_467_0, r_467_2, r_470_0, r_470_1, va_rf_s, n_neg_t, n_neg_f, c85 ha, decide_eq_true e1]
        exact this
  · have := no (fun x => e1 x.1.1)
    simp (disch := omega) only [v58_0, u58_1, v58_4, v58_7, v58_8, v58_11, v58_12, v58_13, v58_16, v58_19, v58_19i, v58_26, v58_27, v58_30, u58_31, v58_34, v58_37, v58_40, v58_40i, v58_47, v58_48, v58_51, v58_54, v58_56, v58_59, v58_62, v58_62i, v58_69, v58_70, v58_73, v58_74, u58_77, v58_80, v58_81, v58_84, v58_87, v58_88, v58_89, v58_92, v58_95, v58_96, v58_97, v58_98, v58_101, v58_102, u58_103, v58_106, v58_107, v58_110, v58_111, v58_112, v58_113, v58_116, v58_117, v58_120, v58_121, v58_124, v58_125, n_cl, n_in_t, n_lt_t, n_lt_f, n_eq_t, n_eq_f, n_sub, nI_add, n_mul, n_01, ↓reduceIte, if_true, if_false, eq_self, true_or, or_true, and_self, and_true, true_and, Nat.reduceAdd, Nat.reduceMul, Nat.reduceLeDiff, Nat.zero_le, not_true_eq_false, not_false_eq_true, cat2_n, cat2_i, cat2_r, ws_0, ws_i, ws_r, ws_l, ws_d, aftr_n, aftr_s, bI_ok, bI_t, bI_f, up_s, up_n, n_bit, decide_true, decide_false, Bool.not_true, Bool.not_false, Bool.and_true, Bool.true_and, Bool.false_and, Bool.and_false, va_rf_s, n_nlt0, k_0, k_67, k_68, k_465, k_466, k_467, k_468, k_469, k_470, k_471, k_472, k_565, r_0_0, r_0_1, r_0_2, r_0_3, r_0_4, r_0_5, r_67_0, r_465_0, r_467_0, r_467_2, r_470_0, r_470_1, va_rf_s, n_neg_t, n_neg_f, c85 ha, decide_eq_false e1]
    exact this
end CQQ
