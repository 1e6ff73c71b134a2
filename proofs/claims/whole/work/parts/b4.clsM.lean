/-! THE CLASS: the narrowest lines -/
section WW
variable {A : Row} {w : Nat}
theorem hasW_w : hasW (upr A 0 w) = hasW A := by unfold hasW; rw [toks_set (by omega)]
theorem reas_w {p d : Nat} : reas (upr A 0 w) p d = reas A p d := by
  unfold reas
  rw [hasW_w]
  simp (disch := omega) only [upr_n]
theorem grp_w : ∀ n, grp (upr A 0 w) n = grp A n
  | 0 => rfl
  | n + 1 => by
    have h8 : upr A 0 w 8 = A 8 := upr_n (by omega)
    have hf : ∀ p, fitG (upr A 0 w) p = fitG A p := fun p => by
      funext g
      unfold fitG
      simp (disch := omega) only [upr_n]
    unfold grp
    rw [grp_w n, h8, reas_w]
    unfold insG gix
    rw [hf]
theorem grps_w : grps (upr A 0 w) = grps A := by
  unfold grps
  rw [upr_n (show 6 ≠ 0 by omega), grp_w]
theorem nameL_w : nameL (upr A 0 w) = nameL A := by
  funext p
  unfold nameL
  simp (disch := omega) only [upr_n]
theorem wordT_w : wordT (upr A 0 w) = wordT A := by
  funext x
  unfold wordT wordL artN
  simp (disch := omega) only [upr_n]
theorem nws_w : ∀ (g acc : List Nat), nws (upr A 0 w) acc g = nws A acc g
  | [], _ => rfl
  | p :: r, acc => by
    unfold nws
    rw [upr_n (show 53 + p ≠ 0 by omega), nws_w r, nws_w r]
theorem fieldT_w {g : List Nat} {c : Nat} : fieldT (upr A 0 w) g c = fieldT A g c := by
  unfold fieldT namesT wordsT formT
  rw [nameL_w, wordT_w, nws_w]
  simp (disch := omega) only [upr_n]
theorem textF_w {g : List Nat} : ∀ (T : List Nat) (j : Bool), textF (upr A 0 w) g j T = textF A g j T
  | [], _ => rfl
  | t :: r, j => by
    unfold textF
    rw [textF_w r, textF_w r, textF_w r, fieldT_w]
theorem textT_w {g : List Nat} : textT (upr A 0 w) g = textT A g := by
  unfold textT
  rw [toks_set (by omega), textF_w]
/-- the pages of a letter at the width w -/
def pgW (A : Row) (w k : Nat) : Nat := (layT w (A 1) (textT A ((grps A).2 k))).2
def lbF (A : Row) (w k : Nat) : Nat := if pgW A w k ≤ A 4 then 1 else 0
def pbF (A : Row) (w k : Nat) : Nat := if pgW A w k ≤ A 4 then pgW A w k else 0
theorem pgT_w {k : Nat} : pagesT (upr A 0 w) ((grps A).2 k) = pgW A w k := by
  unfold pagesT pgW
  rw [textT_w, upr_s, upr_n (show 1 ≠ 0 by omega)]
theorem tot_w0 : totS (upr A 0 w) 0 = sumF (lbF A w) 0 (grps A).1 := by
  unfold totS
  rw [grps_w]
  congr 1
  funext k
  unfold sentB lbF
  rw [pgT_w, upr_n (show 4 ≠ 0 by omega)]
  by_cases e : pgW A w k ≤ A 4
  · rw [decide_eq_true e, if_pos e]; rfl
  · rw [decide_eq_false e, if_neg e]; rfl
theorem tot_w2 : totS (upr A 0 w) 2 = sumF (pbF A w) 0 (grps A).1 := by
  unfold totS
  rw [grps_w]
  congr 1
  funext k
  unfold sentB pbF
  rw [pgT_w, upr_n (show 4 ≠ 0 by omega)]
  by_cases e : pgW A w k ≤ A 4
  · rw [decide_eq_true e, if_pos e]; rfl
  · rw [decide_eq_false e, if_neg e]; rfl
end WW
def pBy (p o _j : Nat) : Prop := (467 ≤ o ∧ o ≤ 472) ∨ (p + 4 ≤ o ∧ o ≤ p + 5)
section CM
variable {z : P0} {KL : Nat → Nat × Nat} {RL : Nat → Nat → Option Nat} {q : Nat → Nat} {b : Nat} {I : Nat → Nat → Int32} {L : Nat → Nat → Int64} {sz : Nat} {ex : Bool} {Q : Res → Mem → Prop} {A : Row}
variable {s p : Nat}
/-- letters and pages by widths, k drafts measured -/
def BW (b : Nat) (I : Nat → Nat → Int32) (p : Nat) (A : Row) (k : Nat) : Prop := ∀ w, 5 ≤ w → w ≤ 40 → I (ad b (p + 4)) w = nI (sumF (lbF A w) 0 k) ∧ I (ad b (p + 5)) w = nI (sumF (pbF A w) 0 k)
theorem BW.ag {k : Nat} {F : Nat → Nat → Prop} {I' : Nat → Nat → Int32} (h : BW b I p A k) (hg : Ag F b I I') (h1 : ∀ j, ¬ F (p + 4) j) (h2 : ∀ j, ¬ F (p + 5) j) : BW b I' p A k := fun w a c => ⟨(hg.at (h1 w)).trans (h w a c).1, (hg.at (h2 w)).trans (h w a c).2⟩
set_option maxHeartbeats 8000000 in
theorem l43 {k : Nat} (hs : isS s) (hp : isM p) (hg : Good A) (hk : k < (grps A).1) : ∀ d w I, w + d = 41 → 5 ≤ w → PZ b I (pcsF (textT A ((grps A).2 k)) 0) → ST b I (s + 5) A → (∀ x, 5 ≤ x → x ≤ 40 → I (ad b (p + 4)) x = nI (if x < w then sumF (lbF A x) 0 (k + 1) else sumF (lbF A x) 0 k) ∧ I (ad b (p + 5)) x = nI (if x < w then sumF (pbF A x) 0 (k + 1) else sumF (pbF A x) 0 k)) →
    (∀ I', BW b I' p A (k + 1) → Ag (pBy p) b I I' → Q (.inl none) (KAt KL b, I', RAt RL b q, L, sz, ex)) →
    X z 43 32 [some (.ref (ad b p)), some (.ref (ad b (p + 6 + 2 * k))), some (.ref (ad b s)), some (.int (nI w))] [] (0, 0) (KAt KL b, I, RAt RL b q, L, sz, ex) Q := by
  have sb := isS_b hs
  have pb := isM_b hp
  have h26 := hg.2.1
  have ok := grps_ok hg hk
  have tl := textT_len hg ok
  intro d
  induction d with
  | zero =>
    intro w I hw h5 hz hst hb hQ
    have e : w = 41 := by omega
    subst e
    rw [v43_32]
    simp (disch := omega) only [v43_33, v43_35, v43_38, v43_39, v43_42, v43_43, v43_44, v43_47, v43_48, u43_49, v43_52, v43_53, v43_56, v43_59, v43_60, v43_63, v43_64, v43_65, v43_68, v43_69, v43_72, v43_73, v43_74, v43_75, v43_76, v43_77, v43_78, v43_79, v43_82, v43_83, v43_84, v43_85, v43_86, v43_89, v43_92, v43_93, v43_94, v43_97, v43_100, n_cl, n_in_t, n_lt_t, n_lt_f, n_eq_t, n_eq_f, n_sub, nI_add, n_mul, n_01, ↓reduceIte, if_true, if_false, eq_self, true_or, or_true, and_self, and_true, true_and, Nat.reduceAdd, Nat.reduceMul, Nat.reduceLeDiff, Nat.zero_le, not_true_eq_false, not_false_eq_true, cat2_n, cat2_i, cat2_r, ws_0, ws_i, ws_r, ws_l, ws_d, aftr_n, aftr_s, bI_ok, bI_t, bI_f, up_s, up_n, n_bit, decide_true, decide_false, Bool.not_true, Bool.not_false, Bool.and_true, Bool.true_and, Bool.false_and, Bool.and_false, va_rf_s, n_nlt0, k_0, k_67, k_68, k_465, k_466, k_467, k_468, k_469, k_470, k_471, k_472, k_565, r_0_0, r_0_1, r_0_2, r_0_3, r_0_4, r_0_5, r_67_0, r_465_0, r_467_0, r_467_2, r_470_0, r_470_1, va_rf_s, n_neg_t, n_neg_f]
    refine hQ I (fun x a c => ?_) Ag.rf
    have := hb x a c
    rw [if_pos (by omega), if_pos (by omega)] at this
    exact this
  | succ d ih =>
    intro w I hw h5 hz hst hb hQ
    have s1 := hst 1 (by omega)
    rw [v43_32]
    simp (disch := omega) only [v43_33, v43_35, v43_38, v43_39, v43_42, v43_43, v43_44, v43_47, v43_48, u43_49, n_cl, n_in_t, n_lt_t, n_lt_f, n_eq_t, n_eq_f, n_sub, nI_add, n_mul, n_01, ↓reduceIte, if_true, if_false, eq_self, true_or, or_true, and_self, and_true, true_and, Nat.reduceAdd, Nat.reduceMul, Nat.reduceLeDiff, Nat.zero_le, not_true_eq_false, not_false_eq_true, cat2_n, cat2_i, cat2_r, ws_0, ws_i, ws_r, ws_l, ws_d, aftr_n, aftr_s, bI_ok, bI_t, bI_f, up_s, up_n, n_bit, decide_true, decide_false, Bool.not_true, Bool.not_false, Bool.and_true, Bool.true_and, Bool.false_and, Bool.and_false, va_rf_s, n_nlt0, k_0, k_67, k_68, k_465, k_466, k_467, k_468, k_469, k_470, k_471, k_472, k_565, r_0_0, r_0_1, r_0_2, r_0_3, r_0_4, r_0_5, r_67_0, r_465_0, r_467_0, r_467_2, r_470_0, r_470_1, va_rf_s, n_neg_t, n_neg_f, kM0 hp, kM1 hp, kM2 hp, kM3 hp, kM4 hp, kM5 hp, kMd hp, kMa hp, rM0_0 hp, rM0_2 hp, rM0_3 hp, rM0_4 hp, rM0_5 hp, rM0_6 hp, rM0_7 hp, rM1 hp, rMd hp, kS0 hs, kS1 hs, kS2 hs, kS3 hs, kS4 hs, kS5 hs, kSp hs, kSn hs, kSw hs, kSl hs, rS0_0 hs, rS0_2 hs, rS0_4 hs, rS0_5 hs, rS3_0 hs, rS1 hs, rS2 hs, rSp hs, rSw hs, s1]
    refine c34 (W := w) (H := A 1) (by omega) (by omega) tl (pcs_le hg ok) hz (fun I1 l1 l2 g1 => ?_)
    have bd := layF_bd (W := w) (H := A 1) (by omega) (textT A ((grps A).2 k)) 0 0 none 0 0 (Nat.le_refl _) (Nat.le_refl _)
    have pw : pgW A w k ≤ 4000 := by
      have : pgW A w k = (layF w (A 1) (textT A ((grps A).2 k)) 0 0 none 0 0).2 := rfl
      omega
    have l2' : I1 (ad b 470) 4 = nI (pgW A w k) := l2
    have hst1 := hst.ag g1 (fun j x => by unfold pFt at x; omega)
    have s4 := hst1 4 (by omega)
    have hz1 := hz.ag g1 (fun x => by unfold pFt at x; omega) (fun j x => by unfold pFt at x; omega) (fun j x => by unfold pFt at x; omega)
    have hb1 : ∀ x, 5 ≤ x → x ≤ 40 → I1 (ad b (p + 4)) x = nI (if x < w then sumF (lbF A x) 0 (k + 1) else sumF (lbF A x) 0 k) ∧ I1 (ad b (p + 5)) x = nI (if x < w then sumF (pbF A x) 0 (k + 1) else sumF (pbF A x) 0 k) := fun x a c => ⟨(g1.at (fun y => by unfold pFt at y; omega)).trans (hb x a c).1, (g1.at (fun y => by unfold pFt at y; omega)).trans (hb x a c).2⟩
    obtain ⟨b1, b2⟩ := hb1 w h5 (by omega)
    rw [if_neg (Nat.lt_irrefl _)] at b1 b2
    have g1' : Ag (pBy p) b I I1 := g1.mn (fun o j x => by unfold pFt at x; unfold pBy; omega)
    have sl : sumF (lbF A w) 0 (k + 1) = sumF (lbF A w) 0 k + lbF A w k := by rw [sumF_snoc, Nat.zero_add]
    have sp : sumF (pbF A w) 0 (k + 1) = sumF (pbF A w) 0 k + pbF A w k := by rw [sumF_snoc, Nat.zero_add]
    by_cases e : pgW A w k ≤ A 4
    · have e1 : lbF A w k = 1 := if_pos e
      have e2 : pbF A w k = pgW A w k := if_pos e
      rw [e1] at sl
      rw [e2] at sp
      simp (disch := omega) only [v43_52, v43_53, v43_56, v43_59, v43_60, v43_63, v43_64, v43_65, v43_68, v43_69, v43_72, v43_73, v43_74, v43_75, v43_76, v43_77, v43_78, v43_79, v43_82, v43_83, v43_84, v43_85, v43_86, v43_89, v43_92, v43_93, v43_94, v43_97, n_cl, n_in_t, n_lt_t, n_lt_f, n_eq_t, n_eq_f, n_sub, nI_add, n_mul, n_01, ↓reduceIte, if_true, if_false, eq_self, true_or, or_true, and_self, and_true, true_and, Nat.reduceAdd, Nat.reduceMul, Nat.reduceLeDiff, Nat.zero_le, not_true_eq_false, not_false_eq_true, cat2_n, cat2_i, cat2_r, ws_0, ws_i, ws_r, ws_l, ws_d, aftr_n, aftr_s, bI_ok, bI_t, bI_f, up_s, up_n, n_bit, decide_true, decide_false, Bool.not_true, Bool.not_false, Bool.and_true, Bool.true_and, Bool.false_and, Bool.and_false, va_rf_s, n_nlt0, k_0, k_67, k_68, k_465, k_466, k_467, k_468, k_469, k_470, k_471, k_472, k_565, r_0_0, r_0_1, r_0_2, r_0_3, r_0_4, r_0_5, r_67_0, r_465_0, r_467_0, r_467_2, r_470_0, r_470_1, va_rf_s, n_neg_t, n_neg_f, kM0 hp, kM1 hp, kM2 hp, kM3 hp, kM4 hp, kM5 hp, kMd hp, kMa hp, rM0_0 hp, rM0_2 hp, rM0_3 hp, rM0_4 hp, rM0_5 hp, rM0_6 hp, rM0_7 hp, rM1 hp, rMd hp, kS0 hs, kS1 hs, kS2 hs, kS3 hs, kS4 hs, kS5 hs, kSp hs, kSn hs, kSw hs, kSl hs, rS0_0 hs, rS0_2 hs, rS0_4 hs, rS0_5 hs, rS3_0 hs, rS1 hs, rS2 hs, rSp hs, rSw hs, l2', s4, b1, b2]
      have a1 : Ag (pBy p) b I1 (up2 (up2 I1 (ad b (p + 4)) w (nI (sumF (lbF A w) 0 k + 1))) (ad b (p + 5)) w (nI (sumF (pbF A w) 0 k + pgW A w k))) := (Ag.rf.up (Or.inr ⟨by omega, by omega⟩)).up (Or.inr ⟨by omega, by omega⟩)
      have a2 : Ag (fun o _ => p + 4 ≤ o ∧ o ≤ p + 5) b I1 (up2 (up2 I1 (ad b (p + 4)) w (nI (sumF (lbF A w) 0 k + 1))) (ad b (p + 5)) w (nI (sumF (pbF A w) 0 k + pgW A w k))) := (Ag.rf.up ⟨by omega, by omega⟩).up ⟨by omega, by omega⟩
      refine ih (w + 1) _ (by omega) (by omega) (hz1.ag a2 (fun y => by omega) (fun j y => by omega) (fun j y => by omega)) (hst1.ag a2 (fun j y => by omega)) (fun x a c => ?_) (fun I2 q1 q2 => hQ I2 q1 ((g1'.tr a1).tr q2))
      by_cases ex : x = w
      · subst ex
        rw [if_pos (by omega), if_pos (by omega), sl, sp]
        exact ⟨by rw [up_n (by omega), up_s], by rw [up_s]⟩
      · have := hb1 x a c
        refine ⟨?_, ?_⟩
        · rw [up_n (by omega), up_n (by omega), this.1]
          by_cases e3 : x < w
          · rw [if_pos e3, if_pos (by omega)]
          · rw [if_neg e3, if_neg (by omega)]
        · rw [up_n (by omega), up_n (by omega), this.2]
          by_cases e3 : x < w
          · rw [if_pos e3, if_pos (by omega)]
          · rw [if_neg e3, if_neg (by omega)]
    · have e1 : lbF A w k = 0 := if_neg e
      have e2 : pbF A w k = 0 := if_neg e
      rw [e1] at sl
      rw [e2] at sp
      simp (disch := omega) only [v43_52, v43_53, v43_56, v43_59, v43_60, v43_63, v43_64, v43_65, v43_68, v43_69, v43_72, v43_73, v43_74, v43_75, v43_76, v43_77, v43_78, v43_79, v43_82, v43_83, v43_84, v43_85, v43_86, v43_89, v43_92, v43_93, v43_94, v43_97, n_cl, n_in_t, n_lt_t, n_lt_f, n_eq_t, n_eq_f, n_sub, nI_add, n_mul, n_01, ↓reduceIte, if_true, if_false, eq_self, true_or, or_true, and_self, and_true, true_and, Nat.reduceAdd, Nat.reduceMul, Nat.reduceLeDiff, Nat.zero_le, not_true_eq_false, not_false_eq_true, cat2_n, cat2_i, cat2_r, ws_0, ws_i, ws_r, ws_l, ws_d, aftr_n, aftr_s, bI_ok, bI_t, bI_f, up_s, up_n, n_bit, decide_true, decide_false, Bool.not_true, Bool.not_false, Bool.and_true, Bool.true_and, Bool.false_and, Bool.and_false, va_rf_s, n_nlt0, k_0, k_67, k_68, k_465, k_466, k_467, k_468, k_469, k_470, k_471, k_472, k_565, r_0_0, r_0_1, r_0_2, r_0_3, r_0_4, r_0_5, r_67_0, r_465_0, r_467_0, r_467_2, r_470_0, r_470_1, va_rf_s, n_neg_t, n_neg_f, kM0 hp, kM1 hp, kM2 hp, kM3 hp, kM4 hp, kM5 hp, kMd hp, kMa hp, rM0_0 hp, rM0_2 hp, rM0_3 hp, rM0_4 hp, rM0_5 hp, rM0_6 hp, rM0_7 hp, rM1 hp, rMd hp, kS0 hs, kS1 hs, kS2 hs, kS3 hs, kS4 hs, kS5 hs, kSp hs, kSn hs, kSw hs, kSl hs, rS0_0 hs, rS0_2 hs, rS0_4 hs, rS0_5 hs, rS3_0 hs, rS1 hs, rS2 hs, rSp hs, rSw hs, l2', s4]
      refine ih (w + 1) _ (by omega) (by omega) hz1 hst1 (fun x a c => ?_) (fun I2 q1 q2 => hQ I2 q1 (g1'.tr q2))
      have := hb1 x a c
      by_cases ex : x = w
      · subst ex
        rw [if_pos (by omega), if_pos (by omega), sl, sp, Nat.add_zero, Nat.add_zero]
        exact ⟨b1, b2⟩
      · refine ⟨?_, ?_⟩
        · rw [this.1]
          by_cases e3 : x < w
          · rw [if_pos e3, if_pos (by omega)]
          · rw [if_neg e3, if_neg (by omega)]
        · rw [this.2]
          by_cases e3 : x < w
          · rw [if_pos e3, if_pos (by omega)]
          · rw [if_neg e3, if_neg (by omega)]
theorem c43 {k : Nat} (hs : isS s) (hp : isM p) (hg : Good A) (hk : k < (grps A).1) (hz : SZ KL RL b I z) (hsp : SP b I s A) (hst : ST b I (s + 5) A) (hd : DR b I (p + 6 + 2 * k) (p + 7 + 2 * k) ((grps A).2 k)) (hb : BW b I p A k) (hQ : ∀ I', BW b I' p A (k + 1) → Ag (pBy p) b I I' → Q (.inl none) (KAt KL b, I', RAt RL b q, L, sz, ex)) :
    X z 43 0 [some (.ref (ad b p)), some (.ref (ad b (p + 6 + 2 * k))), some (.ref (ad b s)), none] [] (0, 0) (KAt KL b, I, RAt RL b q, L, sz, ex) Q := by
  have h6 := hg.1.1
  have sb := isS_b hs
  have pb := isM_b hp
  have hn := grps_le hg
  have ok := grps_ok hg hk
  have tl := textT_len hg ok
  simp (disch := omega) only [v43_0, v43_1, v43_4, v43_5, u43_6, n_cl, n_in_t, n_lt_t, n_lt_f, n_eq_t, n_eq_f, n_sub, nI_add, n_mul, n_01, ↓reduceIte, if_true, if_false, eq_self, true_or, or_true, and_self, and_true, true_and, Nat.reduceAdd, Nat.reduceMul, Nat.reduceLeDiff, Nat.zero_le, not_true_eq_false, not_false_eq_true, cat2_n, cat2_i, cat2_r, ws_0, ws_i, ws_r, ws_l, ws_d, aftr_n, aftr_s, bI_ok, bI_t, bI_f, up_s, up_n, n_bit, decide_true, decide_false, Bool.not_true, Bool.not_false, Bool.and_true, Bool.true_and, Bool.false_and, Bool.and_false, va_rf_s, n_nlt0, k_0, k_67, k_68, k_465, k_466, k_467, k_468, k_469, k_470, k_471, k_472, k_565, r_0_0, r_0_1, r_0_2, r_0_3, r_0_4, r_0_5, r_67_0, r_465_0, r_467_0, r_467_2, r_470_0, r_470_1, va_rf_s, n_neg_t, n_neg_f, kM0 hp, kM1 hp, kM2 hp, kM3 hp, kM4 hp, kM5 hp, kMd hp, kMa hp, rM0_0 hp, rM0_2 hp, rM0_3 hp, rM0_4 hp, rM0_5 hp, rM0_6 hp, rM0_7 hp, rM1 hp, rMd hp]
  refine c10 hs hp (show k < 20 by omega) hg ok hz ⟨hsp, hd⟩ (fun I1 t1 g1 => ?_)
  have t11 := t1.1
  simp (disch := omega) only [v43_9, v43_10, v43_13, v43_14, v43_17, v43_20, v43_21, v43_24, u43_27, n_cl, n_in_t, n_lt_t, n_lt_f, n_eq_t, n_eq_f, n_sub, nI_add, n_mul, n_01, ↓reduceIte, if_true, if_false, eq_self, true_or, or_true, and_self, and_true, true_and, Nat.reduceAdd, Nat.reduceMul, Nat.reduceLeDiff, Nat.zero_le, not_true_eq_false, not_false_eq_true, cat2_n, cat2_i, cat2_r, ws_0, ws_i, ws_r, ws_l, ws_d, aftr_n, aftr_s, bI_ok, bI_t, bI_f, up_s, up_n, n_bit, decide_true, decide_false, Bool.not_true, Bool.not_false, Bool.and_true, Bool.true_and, Bool.false_and, Bool.and_false, va_rf_s, n_nlt0, k_0, k_67, k_68, k_465, k_466, k_467, k_468, k_469, k_470, k_471, k_472, k_565, r_0_0, r_0_1, r_0_2, r_0_3, r_0_4, r_0_5, r_67_0, r_465_0, r_467_0, r_467_2, r_470_0, r_470_1, va_rf_s, n_neg_t, n_neg_f, kM0 hp, kM1 hp, kM2 hp, kM3 hp, kM4 hp, kM5 hp, kMd hp, kMa hp, rM0_0 hp, rM0_2 hp, rM0_3 hp, rM0_4 hp, rM0_5 hp, rM0_6 hp, rM0_7 hp, rM1 hp, rMd hp, t11]
  refine c33 tl (fun c hc => textF_lt hg ok (toks A) false (toks_ok hg) c hc) (pcs_le hg ok) t1.2 (fun I2 z2 g2 => ?_)
  simp (disch := omega) only [v43_30, v43_31, n_cl, n_in_t, n_lt_t, n_lt_f, n_eq_t, n_eq_f, n_sub, nI_add, n_mul, n_01, ↓reduceIte, if_true, if_false, eq_self, true_or, or_true, and_self, and_true, true_and, Nat.reduceAdd, Nat.reduceMul, Nat.reduceLeDiff, Nat.zero_le, not_true_eq_false, not_false_eq_true, cat2_n, cat2_i, cat2_r, ws_0, ws_i, ws_r, ws_l, ws_d, aftr_n, aftr_s, bI_ok, bI_t, bI_f, up_s, up_n, n_bit, decide_true, decide_false, Bool.not_true, Bool.not_false, Bool.and_true, Bool.true_and, Bool.false_and, Bool.and_false, va_rf_s, n_nlt0, k_0, k_67, k_68, k_465, k_466, k_467, k_468, k_469, k_470, k_471, k_472, k_565, r_0_0, r_0_1, r_0_2, r_0_3, r_0_4, r_0_5, r_67_0, r_465_0, r_467_0, r_467_2, r_470_0, r_470_1, va_rf_s, n_neg_t, n_neg_f]
  have fr2 : Ag (fun o _ => 467 ≤ o ∧ o ≤ 472) b I I2 := (g1.mn (fun o j x => by unfold pCz at x; omega)).tr (g2.mn (fun o j x => by unfold pRd at x; omega))
  refine l43 hs hp hg hk 36 5 I2 (by omega) (Nat.le_refl _) z2 (hst.ag fr2 (fun j x => by omega)) (fun x a c => ?_) (fun I3 q1 q2 => hQ I3 q1 ((fr2.mn (fun o j x => Or.inl x)).tr q2))
  rw [if_neg (by omega), if_neg (by omega)]
  exact hb.ag fr2 (fun j x => by omega) (fun j x => by omega) x a c
theorem l39a (hp : isM p) : ∀ d w I, w + d = 41 → 5 ≤ w → (∀ x, 5 ≤ x → x < w → I (ad b (p + 4)) x = nI 0 ∧ I (ad b (p + 5)) x = nI 0) → (∀ I', (∀ x, 5 ≤ x → x ≤ 40 → I' (ad b (p + 4)) x = nI 0 ∧ I' (ad b (p + 5)) x = nI 0) → Ag (pBy p) b I I' → X z 39 28 [some (.ref (ad b p)), some (.ref (ad b s)), some (.int (nI 41))] [] (0, 0) (KAt KL b, I', RAt RL b q, L, sz, ex) Q) →
    X z 39 2 [some (.ref (ad b p)), some (.ref (ad b s)), some (.int (nI w))] [] (0, 0) (KAt KL b, I, RAt RL b q, L, sz, ex) Q := by
  have pb := isM_b hp
  intro d
  induction d with
  | zero =>
    intro w I hw h5 hx hQ
    have e : w = 41 := by omega
    subst e
    rw [v39_2]
    simp (disch := omega) only [v39_3, v39_5, v39_8, v39_9, v39_12, v39_13, v39_14, v39_15, v39_16, v39_19, v39_20, v39_21, v39_22, v39_25, n_cl, n_in_t, n_lt_t, n_lt_f, n_eq_t, n_eq_f, n_sub, nI_add, n_mul, n_01, ↓reduceIte, if_true, if_false, eq_self, true_or, or_true, and_self, and_true, true_and, Nat.reduceAdd, Nat.reduceMul, Nat.reduceLeDiff, Nat.zero_le, not_true_eq_false, not_false_eq_true, cat2_n, cat2_i, cat2_r, ws_0, ws_i, ws_r, ws_l, ws_d, aftr_n, aftr_s, bI_ok, bI_t, bI_f, up_s, up_n, n_bit, decide_true, decide_false, Bool.not_true, Bool.not_false, Bool.and_true, Bool.true_and, Bool.false_and, Bool.and_false, va_rf_s, n_nlt0, k_0, k_67, k_68, k_465, k_466, k_467, k_468, k_469, k_470, k_471, k_472, k_565, r_0_0, r_0_1, r_0_2, r_0_3, r_0_4, r_0_5, r_67_0, r_465_0, r_467_0, r_467_2, r_470_0, r_470_1, va_rf_s, n_neg_t, n_neg_f]
    exact hQ I (fun x a c => hx x a (by omega)) Ag.rf
  | succ d ih =>
    intro w I hw h5 hx hQ
    rw [v39_2]
    simp (disch := omega) only [v39_3, v39_5, v39_8, v39_9, v39_12, v39_13, v39_14, v39_15, v39_16, v39_19, v39_20, v39_21, v39_22, v39_25, n_cl, n_in_t, n_lt_t, n_lt_f, n_eq_t, n_eq_f, n_sub, nI_add, n_mul, n_01, ↓reduceIte, if_true, if_false, eq_self, true_or, or_true, and_self, and_true, true_and, Nat.reduceAdd, Nat.reduceMul, Nat.reduceLeDiff, Nat.zero_le, not_true_eq_false, not_false_eq_true, cat2_n, cat2_i, cat2_r, ws_0, ws_i, ws_r, ws_l, ws_d, aftr_n, aftr_s, bI_ok, bI_t, bI_f, up_s, up_n, n_bit, decide_true, decide_false, Bool.not_true, Bool.not_false, Bool.and_true, Bool.true_and, Bool.false_and, Bool.and_false, va_rf_s, n_nlt0, k_0, k_67, k_68, k_465, k_466, k_467, k_468, k_469, k_470, k_471, k_472, k_565, r_0_0, r_0_1, r_0_2, r_0_3, r_0_4, r_0_5, r_67_0, r_465_0, r_467_0, r_467_2, r_470_0, r_470_1, va_rf_s, n_neg_t, n_neg_f, kM0 hp, kM1 hp, kM2 hp, kM3 hp, kM4 hp, kM5 hp, kMd hp, kMa hp, rM0_0 hp, rM0_2 hp, rM0_3 hp, rM0_4 hp, rM0_5 hp, rM0_6 hp, rM0_7 hp, rM1 hp, rMd hp]
    have a1 : Ag (pBy p) b I (up2 (up2 I (ad b (p + 4)) w (nI 0)) (ad b (p + 5)) w (nI 0)) := (Ag.rf.up (Or.inr ⟨by omega, by omega⟩)).up (Or.inr ⟨by omega, by omega⟩)
    refine ih (w + 1) _ (by omega) (by omega) (fun x a c => ?_) (fun I2 q1 q2 => hQ I2 q1 (a1.tr q2))
    by_cases ex : x = w
    · subst ex
      exact ⟨by rw [up_n (by omega), up_s], by rw [up_s]⟩
    · have := hx x a (by omega)
      exact ⟨by rw [up_n (by omega), up_n (by omega)]; exact this.1, by rw [up_n (by omega), up_n (by omega)]; exact this.2⟩
theorem l39b (hs : isS s) (hp : isM p) (hg : Good A) : ∀ d k I, k + d = (grps A).1 → SZ KL RL b I z → SP b I s A → ST b I (s + 5) A → DG b I p A (grps A).1 (grps A).2 (hdA A (grps A).2) → BW b I p A k → (∀ I', BW b I' p A (grps A).1 → Ag (pBy p) b I I' → X z 39 64 [some (.ref (ad b p)), some (.ref (ad b s)), some (.int (nI (grps A).1))] [] (0, 0) (KAt KL b, I', RAt RL b q, L, sz, ex) Q) →
    X z 39 39 [some (.ref (ad b p)), some (.ref (ad b s)), some (.int (nI k))] [] (0, 0) (KAt KL b, I, RAt RL b q, L, sz, ex) Q := by
  have h6 := hg.1.1
  have h7 := hg.1.2.1
  have hn := grps_le hg
  have sb := isS_b hs
  have pb := isM_b hp
  intro d
  induction d with
  | zero =>
    intro k I hk hz hsp hst hd hb hQ
    have e : k = (grps A).1 := by omega
    subst e
    have m1 := hd.1
    rw [v39_39]
    simp (disch := omega) only [v39_40, v39_41, v39_44, v39_47, v39_48, v39_49, v39_52, v39_53, v39_54, u39_55, v39_58, v39_61, n_cl, n_in_t, n_lt_t, n_lt_f, n_eq_t, n_eq_f, n_sub, nI_add, n_mul, n_01, ↓reduceIte, if_true, if_false, eq_self, true_or, or_true, and_self, and_true, true_and, Nat.reduceAdd, Nat.reduceMul, Nat.reduceLeDiff, Nat.zero_le, not_true_eq_false, not_false_eq_true, cat2_n, cat2_i, cat2_r, ws_0, ws_i, ws_r, ws_l, ws_d, aftr_n, aftr_s, bI_ok, bI_t, bI_f, up_s, up_n, n_bit, decide_true, decide_false, Bool.not_true, Bool.not_false, Bool.and_true, Bool.true_and, Bool.false_and, Bool.and_false, va_rf_s, n_nlt0, k_0, k_67, k_68, k_465, k_466, k_467, k_468, k_469, k_470, k_471, k_472, k_565, r_0_0, r_0_1, r_0_2, r_0_3, r_0_4, r_0_5, r_67_0, r_465_0, r_467_0, r_467_2, r_470_0, r_470_1, va_rf_s, n_neg_t, n_neg_f, kM0 hp, kM1 hp, kM2 hp, kM3 hp, kM4 hp, kM5 hp, kMd hp, kMa hp, rM0_0 hp, rM0_2 hp, rM0_3 hp, rM0_4 hp, rM0_5 hp, rM0_6 hp, rM0_7 hp, rM1 hp, rMd hp, m1]
    exact hQ I hb Ag.rf
  | succ d ih =>
    intro k I hk hz hsp hst hd hb hQ
    have m1 := hd.1
    rw [v39_39]
    simp (disch := omega) only [v39_40, v39_41, v39_44, v39_47, v39_48, v39_49, v39_52, v39_53, v39_54, u39_55, v39_58, v39_61, n_cl, n_in_t, n_lt_t, n_lt_f, n_eq_t, n_eq_f, n_sub, nI_add, n_mul, n_01, ↓reduceIte, if_true, if_false, eq_self, true_or, or_true, and_self, and_true, true_and, Nat.reduceAdd, Nat.reduceMul, Nat.reduceLeDiff, Nat.zero_le, not_true_eq_false, not_false_eq_true, cat2_n, cat2_i, cat2_r, ws_0, ws_i, ws_r, ws_l, ws_d, aftr_n, aftr_s, bI_ok, bI_t, bI_f, up_s, up_n, n_bit, decide_true, decide_false, Bool.not_true, Bool.not_false, Bool.and_true, Bool.true_and, Bool.false_and, Bool.and_false, va_rf_s, n_nlt0, k_0, k_67, k_68, k_465, k_466, k_467, k_468, k_469, k_470, k_471, k_472, k_565, r_0_0, r_0_1, r_0_2, r_0_3, r_0_4, r_0_5, r_67_0, r_465_0, r_467_0, r_467_2, r_470_0, r_470_1, va_rf_s, n_neg_t, n_neg_f, kM0 hp, kM1 hp, kM2 hp, kM3 hp, kM4 hp, kM5 hp, kMd hp, kMa hp, rM0_0 hp, rM0_2 hp, rM0_3 hp, rM0_4 hp, rM0_5 hp, rM0_6 hp, rM0_7 hp, rM1 hp, rMd hp, m1]
    refine c43 hs hp hg (show k < (grps A).1 by omega) hz hsp hst (hd.2 k (by omega)).1 hb (fun I1 b1 g1 => ?_)
    simp (disch := omega) only [v39_58, v39_61, n_cl, n_in_t, n_lt_t, n_lt_f, n_eq_t, n_eq_f, n_sub, nI_add, n_mul, n_01, ↓reduceIte, if_true, if_false, eq_self, true_or, or_true, and_self, and_true, true_and, Nat.reduceAdd, Nat.reduceMul, Nat.reduceLeDiff, Nat.zero_le, not_true_eq_false, not_false_eq_true, cat2_n, cat2_i, cat2_r, ws_0, ws_i, ws_r, ws_l, ws_d, aftr_n, aftr_s, bI_ok, bI_t, bI_f, up_s, up_n, n_bit, decide_true, decide_false, Bool.not_true, Bool.not_false, Bool.and_true, Bool.true_and, Bool.false_and, Bool.and_false, va_rf_s, n_nlt0, k_0, k_67, k_68, k_465, k_466, k_467, k_468, k_469, k_470, k_471, k_472, k_565, r_0_0, r_0_1, r_0_2, r_0_3, r_0_4, r_0_5, r_67_0, r_465_0, r_467_0, r_467_2, r_470_0, r_470_1, va_rf_s, n_neg_t, n_neg_f]
    exact ih (k + 1) I1 (by omega) (hz.ag g1) (hsp.ag h6 h7 g1 (fun o j x y w => by unfold pBy at w; omega)) (hst.ag g1 (fun j w => by unfold pBy at w; omega)) (hd.ag (by omega) g1 (fun w => by unfold pBy at w; omega) (fun o j x y _ w => by unfold pBy at w; omega)) b1 (fun I2 q1 q2 => hQ I2 q1 (g1.tr q2))
theorem l39c (hs : isS s) (hp : isM p) (hg : Good A) (hb : BW b I p A (grps A).1) : ∀ d w, w + d = 40 → 5 ≤ w → X z 39 66 [some (.ref (ad b p)), some (.ref (ad b s)), some (.int (nI w))] [] (0, 0) (KAt KL b, I, RAt RL b q, L, sz, ex) Q = Q (.inl (some (.int (nI (findI (widP A) w d))))) (KAt KL b, I, RAt RL b q, L, sz, ex) := by
  obtain ⟨f1, f2⟩ := hb 40 (by omega) (Nat.le_refl _)
  have hg40 := hg.set (k := 0) (v := 40) (by omega) (okV_0 (by omega))
  have f0 := totS_le hg40 (w := 0)
  have f02 := totS_le hg40 (w := 2)
  rw [tot_w0] at f0
  rw [tot_w2] at f02
  intro d
  induction d with
  | zero =>
    intro w hw h5
    have e : w = 40 := by omega
    subst e
    rw [v39_66]
    simp (disch := omega) only [v39_67, v39_69, v39_72, v39_73, v39_76, v39_77, v39_78, v39_79, v39_82, v39_84, v39_85, v39_88, v39_89, v39_92, v39_93, v39_94, v39_95, v39_98, v39_100, v39_101, v39_104, v39_105, v39_106, v39_109, v39_112, v39_114, n_cl, n_in_t, n_lt_t, n_lt_f, n_eq_t, n_eq_f, n_sub, nI_add, n_mul, n_01, ↓reduceIte, if_true, if_false, eq_self, true_or, or_true, and_self, and_true, true_and, Nat.reduceAdd, Nat.reduceMul, Nat.reduceLeDiff, Nat.zero_le, not_true_eq_false, not_false_eq_true, cat2_n, cat2_i, cat2_r, ws_0, ws_i, ws_r, ws_l, ws_d, aftr_n, aftr_s, bI_ok, bI_t, bI_f, up_s, up_n, n_bit, decide_true, decide_false, Bool.not_true, Bool.not_false, Bool.and_true, Bool.true_and, Bool.false_and, Bool.and_false, va_rf_s, n_nlt0, k_0, k_67, k_68, k_465, k_466, k_467, k_468, k_469, k_470, k_471, k_472, k_565, r_0_0, r_0_1, r_0_2, r_0_3, r_0_4, r_0_5, r_67_0, r_465_0, r_467_0, r_467_2, r_470_0, r_470_1, va_rf_s, n_neg_t, n_neg_f]
    rfl
  | succ d ih =>
    intro w hw h5
    obtain ⟨b1, b2⟩ := hb w h5 (by omega)
    have hgw := hg.set (k := 0) (v := w) (by omega) (okV_0 (by omega))
    have w0 := totS_le hgw (w := 0)
    have w2 := totS_le hgw (w := 2)
    rw [tot_w0] at w0
    rw [tot_w2] at w2
    unfold findI
    rw [v39_66]
    have ew : widP A w = (sumF (lbF A w) 0 (grps A).1 == sumF (lbF A 40) 0 (grps A).1 && sumF (pbF A w) 0 (grps A).1 == sumF (pbF A 40) 0 (grps A).1) := by unfold widP; rw [tot_w0, tot_w0, tot_w2, tot_w2]
    rw [ew]
    by_cases e1 : sumF (lbF A w) 0 (grps A).1 = sumF (lbF A 40) 0 (grps A).1
    · by_cases e2 : sumF (pbF A w) 0 (grps A).1 = sumF (pbF A 40) 0 (grps A).1
      · rw [beq_iff_eq.mpr e1, beq_iff_eq.mpr e2]
        simp (disch := omega) only [v39_67, v39_69, v39_72, v39_73, v39_76, v39_77, v39_78, v39_79, v39_82, v39_84, v39_85, v39_88, v39_89, v39_92, v39_93, v39_94, v39_95, v39_98, v39_100, v39_101, v39_104, v39_105, n_cl, n_in_t, n_lt_t, n_lt_f, n_eq_t, n_eq_f, n_sub, nI_add, n_mul, n_01, ↓reduceIte, if_true, if_false, eq_self, true_or, or_true, and_self, and_true, true_and, Nat.reduceAdd, Nat.reduceMul, Nat.reduceLeDiff, Nat.zero_le, not_true_eq_false, not_false_eq_true, cat2_n, cat2_i, cat2_r, ws_0, ws_i, ws_r, ws_l, ws_d, aftr_n, aftr_s, bI_ok, bI_t, bI_f, up_s, up_n, n_bit, decide_true, decide_false, Bool.not_true, Bool.not_false, Bool.and_true, Bool.true_and, Bool.false_and, Bool.and_false, va_rf_s, n_nlt0, k_0, k_67, k_68, k_465, k_466, k_467, k_468, k_469, k_470, k_471, k_472, k_565, r_0_0, r_0_1, r_0_2, r_0_3, r_0_4, r_0_5, r_67_0, r_465_0, r_467_0, r_467_2, r_470_0, r_470_1, va_rf_s, n_neg_t, n_neg_f, kM0 hp, kM1 hp, kM2 hp, kM3 hp, kM4 hp, kM5 hp, kMd hp, kMa hp, rM0_0 hp, rM0_2 hp, rM0_3 hp, rM0_4 hp, rM0_5 hp, rM0_6 hp, rM0_7 hp, rM1 hp, rMd hp, b1, b2, f1, f2]
        rfl
      · rw [beq_eq_false_iff_ne.mpr e2, Bool.and_false]
        simp (disch := omega) only [v39_67, v39_69, v39_72, v39_73, v39_76, v39_77, v39_78, v39_79, v39_82, v39_84, v39_85, v39_88, v39_89, v39_92, v39_93, v39_94, v39_95, v39_98, v39_100, v39_101, v39_104, v39_105, v39_106, v39_109, n_cl, n_in_t, n_lt_t, n_lt_f, n_eq_t, n_eq_f, n_sub, nI_add, n_mul, n_01, ↓reduceIte, if_true, if_false, eq_self, true_or, or_true, and_self, and_true, true_and, Nat.reduceAdd, Nat.reduceMul, Nat.reduceLeDiff, Nat.zero_le, not_true_eq_false, not_false_eq_true, cat2_n, cat2_i, cat2_r, ws_0, ws_i, ws_r, ws_l, ws_d, aftr_n, aftr_s, bI_ok, bI_t, bI_f, up_s, up_n, n_bit, decide_true, decide_false, Bool.not_true, Bool.not_false, Bool.and_true, Bool.true_and, Bool.false_and, Bool.and_false, va_rf_s, n_nlt0, k_0, k_67, k_68, k_465, k_466, k_467, k_468, k_469, k_470, k_471, k_472, k_565, r_0_0, r_0_1, r_0_2, r_0_3, r_0_4, r_0_5, r_67_0, r_465_0, r_467_0, r_467_2, r_470_0, r_470_1, va_rf_s, n_neg_t, n_neg_f, kM0 hp, kM1 hp, kM2 hp, kM3 hp, kM4 hp, kM5 hp, kMd hp, kMa hp, rM0_0 hp, rM0_2 hp, rM0_3 hp, rM0_4 hp, rM0_5 hp, rM0_6 hp, rM0_7 hp, rM1 hp, rMd hp, b1, b2, f1, f2]
        exact ih (w + 1) (by omega) (by omega)
    · rw [beq_eq_false_iff_ne.mpr e1, Bool.false_and]
      simp (disch := omega) only [v39_67, v39_69, v39_72, v39_73, v39_76, v39_77, v39_78, v39_79, v39_82, v39_84, v39_85, v39_88, v39_89, v39_92, v39_93, v39_94, v39_95, v39_98, v39_100, v39_101, v39_104, v39_105, v39_106, v39_109, n_cl, n_in_t, n_lt_t, n_lt_f, n_eq_t, n_eq_f, n_sub, nI_add, n_mul, n_01, ↓reduceIte, if_true, if_false, eq_self, true_or, or_true, and_self, and_true, true_and, Nat.reduceAdd, Nat.reduceMul, Nat.reduceLeDiff, Nat.zero_le, not_true_eq_false, not_false_eq_true, cat2_n, cat2_i, cat2_r, ws_0, ws_i, ws_r, ws_l, ws_d, aftr_n, aftr_s, bI_ok, bI_t, bI_f, up_s, up_n, n_bit, decide_true, decide_false, Bool.not_true, Bool.not_false, Bool.and_true, Bool.true_and, Bool.false_and, Bool.and_false, va_rf_s, n_nlt0, k_0, k_67, k_68, k_465, k_466, k_467, k_468, k_469, k_470, k_471, k_472, k_565, r_0_0, r_0_1, r_0_2, r_0_3, r_0_4, r_0_5, r_67_0, r_465_0, r_467_0, r_467_2, r_470_0, r_470_1, va_rf_s, n_neg_t, n_neg_f, kM0 hp, kM1 hp, kM2 hp, kM3 hp, kM4 hp, kM5 hp, kMd hp, kMa hp, rM0_0 hp, rM0_2 hp, rM0_3 hp, rM0_4 hp, rM0_5 hp, rM0_6 hp, rM0_7 hp, rM1 hp, rMd hp, b1, b2, f1, f2]
      exact ih (w + 1) (by omega) (by omega)
/-- Mailing.leastWidth -/
theorem c39 (hs : isS s) (hp : isM p) (hg : Good A) (hm : Sm A) (hz : SZ KL RL b I z) (h : SR b I s A) (hQ : ∀ I', Ag (pMl p) b I I' → Q (.inl (some (.int (nI (widV A))))) (KAt KL b, I', RAt RL b q, L, sz, ex)) : X z 39 0 [some (.ref (ad b p)), some (.ref (ad b s)), none] [] (0, 0) (KAt KL b, I, RAt RL b q, L, sz, ex) Q := by
  have h6 := hg.1.1
  have h7 := hg.1.2.1
  have sb := isS_b hs
  have pb := isM_b hp
  have by_ml : ∀ o j, pBy p o j → pMl p o j := fun o j x => by unfold pBy at x; unfold pMl; omega
  simp (disch := omega) only [v39_0, v39_1, n_cl, n_in_t, n_lt_t, n_lt_f, n_eq_t, n_eq_f, n_sub, nI_add, n_mul, n_01, ↓reduceIte, if_true, if_false, eq_self, true_or, or_true, and_self, and_true, true_and, Nat.reduceAdd, Nat.reduceMul, Nat.reduceLeDiff, Nat.zero_le, not_true_eq_false, not_false_eq_true, cat2_n, cat2_i, cat2_r, ws_0, ws_i, ws_r, ws_l, ws_d, aftr_n, aftr_s, bI_ok, bI_t, bI_f, up_s, up_n, n_bit, decide_true, decide_false, Bool.not_true, Bool.not_false, Bool.and_true, Bool.true_and, Bool.false_and, Bool.and_false, va_rf_s, n_nlt0, k_0, k_67, k_68, k_465, k_466, k_467, k_468, k_469, k_470, k_471, k_472, k_565, r_0_0, r_0_1, r_0_2, r_0_3, r_0_4, r_0_5, r_67_0, r_465_0, r_467_0, r_467_2, r_470_0, r_470_1, va_rf_s, n_neg_t, n_neg_f]
  refine l39a hp 36 5 I (by omega) (Nat.le_refl _) (fun x a c => by omega) (fun I1 z1 g1 => ?_)
  have s1 := h.ag h6 h7 g1 (fun o j x y w => by unfold pBy at w; omega)
  simp (disch := omega) only [v39_28, v39_29, v39_30, v39_31, u39_34, n_cl, n_in_t, n_lt_t, n_lt_f, n_eq_t, n_eq_f, n_sub, nI_add, n_mul, n_01, ↓reduceIte, if_true, if_false, eq_self, true_or, or_true, and_self, and_true, true_and, Nat.reduceAdd, Nat.reduceMul, Nat.reduceLeDiff, Nat.zero_le, not_true_eq_false, not_false_eq_true, cat2_n, cat2_i, cat2_r, ws_0, ws_i, ws_r, ws_l, ws_d, aftr_n, aftr_s, bI_ok, bI_t, bI_f, up_s, up_n, n_bit, decide_true, decide_false, Bool.not_true, Bool.not_false, Bool.and_true, Bool.true_and, Bool.false_and, Bool.and_false, va_rf_s, n_nlt0, k_0, k_67, k_68, k_465, k_466, k_467, k_468, k_469, k_470, k_471, k_472, k_565, r_0_0, r_0_1, r_0_2, r_0_3, r_0_4, r_0_5, r_67_0, r_465_0, r_467_0, r_467_2, r_470_0, r_470_1, va_rf_s, n_neg_t, n_neg_f, kS0 hs, kS1 hs, kS2 hs, kS3 hs, kS4 hs, kS5 hs, kSp hs, kSn hs, kSw hs, kSl hs, rS0_0 hs, rS0_2 hs, rS0_4 hs, rS0_5 hs, rS3_0 hs, rS1 hs, rS2 hs, rSp hs, rSw hs, kM0 hp, kM1 hp, kM2 hp, kM3 hp, kM4 hp, kM5 hp, kMd hp, kMa hp, rM0_0 hp, rM0_2 hp, rM0_3 hp, rM0_4 hp, rM0_5 hp, rM0_6 hp, rM0_7 hp, rM1 hp, rMd hp]
  refine c40 hs hp hg hm (kS5 hs) (by omega) s1.1 s1.2 (fun I2 d2 r2 g2 => ?_)
  have g2' : Ag (pMl p) b I1 I2 := g2.mn (fun o j x => by unfold pDv at x; unfold pMl; omega)
  have fr := (g1.mn by_ml).tr g2'
  have s2 := h.ag h6 h7 fr (fun o j x y w => by unfold pMl at w; omega)
  simp (disch := omega) only [v39_37, v39_38, n_cl, n_in_t, n_lt_t, n_lt_f, n_eq_t, n_eq_f, n_sub, nI_add, n_mul, n_01, ↓reduceIte, if_true, if_false, eq_self, true_or, or_true, and_self, and_true, true_and, Nat.reduceAdd, Nat.reduceMul, Nat.reduceLeDiff, Nat.zero_le, not_true_eq_false, not_false_eq_true, cat2_n, cat2_i, cat2_r, ws_0, ws_i, ws_r, ws_l, ws_d, aftr_n, aftr_s, bI_ok, bI_t, bI_f, up_s, up_n, n_bit, decide_true, decide_false, Bool.not_true, Bool.not_false, Bool.and_true, Bool.true_and, Bool.false_and, Bool.and_false, va_rf_s, n_nlt0, k_0, k_67, k_68, k_465, k_466, k_467, k_468, k_469, k_470, k_471, k_472, k_565, r_0_0, r_0_1, r_0_2, r_0_3, r_0_4, r_0_5, r_67_0, r_465_0, r_467_0, r_467_2, r_470_0, r_470_1, va_rf_s, n_neg_t, n_neg_f]
  refine l39b hs hp hg (grps A).1 0 I2 (by omega) (hz.ag fr) s2.1 s2.2 d2 (fun x a c => ⟨(g2.at (fun y => by unfold pDv at y; omega)).trans (z1 x a c).1, (g2.at (fun y => by unfold pDv at y; omega)).trans (z1 x a c).2⟩) (fun I3 b3 g3 => ?_)
  simp (disch := omega) only [v39_64, v39_65, n_cl, n_in_t, n_lt_t, n_lt_f, n_eq_t, n_eq_f, n_sub, nI_add, n_mul, n_01, ↓reduceIte, if_true, if_false, eq_self, true_or, or_true, and_self, and_true, true_and, Nat.reduceAdd, Nat.reduceMul, Nat.reduceLeDiff, Nat.zero_le, not_true_eq_false, not_false_eq_true, cat2_n, cat2_i, cat2_r, ws_0, ws_i, ws_r, ws_l, ws_d, aftr_n, aftr_s, bI_ok, bI_t, bI_f, up_s, up_n, n_bit, decide_true, decide_false, Bool.not_true, Bool.not_false, Bool.and_true, Bool.true_and, Bool.false_and, Bool.and_false, va_rf_s, n_nlt0, k_0, k_67, k_68, k_465, k_466, k_467, k_468, k_469, k_470, k_471, k_472, k_565, r_0_0, r_0_1, r_0_2, r_0_3, r_0_4, r_0_5, r_67_0, r_465_0, r_467_0, r_467_2, r_470_0, r_470_1, va_rf_s, n_neg_t, n_neg_f, l39c hs hp hg b3 35 5]
  exact hQ I3 (fr.tr (g3.mn by_ml))
end CM
