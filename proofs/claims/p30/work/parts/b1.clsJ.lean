/-! THE CLASS: pieces put on lines; what the items ask -/
section CJ
variable {z : P0} {KL : Nat → Nat × Nat} {RL : Nat → Nat → Option Nat} {q : Nat → Nat} {b : Nat} {I : Nat → Nat → Int32} {L : Nat → Nat → Int64} {sz : Nat} {ex : Bool} {Q : Res → Mem → Prop} {A : Row}
variable {t : List Nat} {s p i : Nat} {g : List Nat}
theorem PZ.ag {P : List (Nat × Nat)} {F : Nat → Nat → Prop} {I' : Nat → Nat → Int32} (h : PZ b I P) (hg : Ag F b I I') (h1 : ¬ F 470 2) (h2 : ∀ j, ¬ F 471 j) (h3 : ∀ j, ¬ F 472 j) : PZ b I' P := ⟨(hg.at h1).trans h.1, fun k hk => ⟨(hg.at (h2 k)).trans (h.2 k hk).1, (hg.at (h3 k)).trans (h.2 k hk).2⟩⟩
theorem getD_tailP {B r : List (Nat × Nat)} {c : Nat × Nat} {i : Nat} (h : ∀ j, j < (c :: r).length → B.getD (i + j) (0, 0) = (c :: r).getD j (0, 0)) : B.getD i (0, 0) = c ∧ ∀ j, j < r.length → B.getD (i + 1 + j) (0, 0) = r.getD j (0, 0) := by
  refine ⟨?_, fun j hj => ?_⟩
  · have := h 0 (by simp)
    rwa [Nat.add_zero] at this
  · have := h (j + 1) (by rw [List.length_cons]; omega)
    rw [show i + 1 + j = i + (j + 1) by omega, this]; rfl
theorem pLl_f : ∀ o j, pLl o j → pFt o j := fun o j h => by unfold pLl at h; unfold pFt; omega
set_option maxHeartbeats 8000000 in
theorem l34 {W H : Nat} {P : List (Nat × Nat)} (hW : 1 ≤ W ∧ W ≤ 40) (hH : 1 ≤ H ∧ H ≤ 20) (hPl : P.length ≤ 121) : ∀ (r : List (Nat × Nat)) k l (u : Option Nat) pt pg I, k + r.length = P.length → (∀ j, j < r.length → P.getD (k + j) (0, 0) = r.getD j (0, 0)) → (∀ pe ∈ r, pe.2 < 256) → lenP r ≤ 5000 → l + lenP r ≤ 10000 → pg ≤ pt → pt ≤ l → (∀ v, u = some v → v ≤ 10000) → PZ b I P → I (ad b 470) 3 = nI l → I (ad b 470) 4 = nI pg →
    (∀ I', I' (ad b 470) 3 = nI (fitF W H r l u pt pg).1 → I' (ad b 470) 4 = nI (fitF W H r l u pt pg).2 → Ag pFt b I I' → Q (.inl none) (KAt KL b, I', RAt RL b q, L, sz, ex)) →
    X z 34 29 [some (.ref (ad b 470)), some (.int (nI W)), some (.int (nI H)), some (.int (nI pt)), some (.int (nI (uN u))), some (.int (nI k))] [] (0, 0) (KAt KL b, I, RAt RL b q, L, sz, ex) Q := by
  intro r
  induction r with
  | nil =>
    intro k l u pt pg I hk hr hc hl5 hl hpg hpt hu hz m3 m4 hQ
    have m2 := hz.1
    rw [List.length_nil, Nat.add_zero] at hk
    rw [v34_29]
    simp (disch := omega) only [v34_31, v34_32, v34_35, v34_38, v34_39, v34_40, v34_43, v34_45, v34_46, v34_48, u34_49, v34_52, v34_54, v34_55, v34_58, v34_60, v34_61, v34_63, v34_66, v34_67, v34_69, v34_70, v34_73, v34_75, v34_76, v34_78, v34_81, v34_82, v34_82i, v34_83, v34_86, v34_87, v34_90, v34_91, v34_92, v34_93, v34_94, v34_95, v34_96, v34_97, v34_98, v34_99, v34_102, v34_103, v34_106, v34_107, v34_110, v34_113, n_cl, n_in_t, n_lt_t, n_lt_f, n_eq_t, n_eq_f, n_sub, nI_add, n_mul, n_01, ↓reduceIte, if_true, if_false, eq_self, true_or, or_true, and_self, and_true, true_and, Nat.reduceAdd, Nat.reduceMul, Nat.reduceLeDiff, Nat.zero_le, not_true_eq_false, not_false_eq_true, cat2_n, cat2_i, cat2_r, ws_0, ws_i, ws_r, ws_l, ws_d, aftr_n, aftr_s, bI_ok, bI_t, bI_f, up_s, up_n, n_bit, decide_true, decide_false, Bool.not_true, Bool.not_false, Bool.and_true, Bool.true_and, Bool.false_and, Bool.and_false, va_rf_s, n_nlt0, k_0, k_67, k_68, k_465, k_466, k_467, k_468, k_469, k_470, k_471, k_472, k_565, r_0_0, r_0_1, r_0_2, r_0_3, r_0_4, r_0_5, r_67_0, r_465_0, r_467_0, r_467_2, r_470_0, r_470_1, va_rf_s, n_neg_t, n_neg_f, m2]
    exact hQ I m3 m4 Ag.rf
  | cons pe r ih =>
    intro k l u pt pg I hk hr hc hl5 hl hpg hpt hu hz m3 m4 hQ
    obtain ⟨x, e⟩ := pe
    obtain ⟨hB1, hB2⟩ := getD_tailP hr
    rw [List.length_cons] at hk
    have m2 := hz.1
    have d := hz.2 k (by omega)
    rw [hB1] at d
    obtain ⟨d1, d2⟩ := d
    dsimp only at d1 d2
    have he : e < 256 := hc (x, e) List.mem_cons_self
    have hc' := fun y hy => hc y (List.mem_cons_of_mem (x, e) hy)
    have lp : lenP ((x, e) :: r) = x + 1 + lenP r := rfl
    rw [lp] at hl5 hl
    have l1 := plc_le (W := W) (l := l) (p := x) (u := u)
    have l2 := plc_u (W := W) (l := l) (p := x) (u := u) (by omega) (by omega)
    have l3 := pgs_le (H := H) (n := (plc W l u x).1 - pt) hH.1
    have ef : fitF W H ((x, e) :: r) l u pt pg = if e = 124 then fitF W H r (plc W l u x).1 none (plc W l u x).1 (pg + pgs H ((plc W l u x).1 - pt)) else fitF W H r (plc W l u x).1 (if e = 95 then some (plc W l u x).2 else none) pt pg := rfl
    rw [ef] at hQ
    rw [v34_29]
    simp (disch := omega) only [v34_31, v34_32, v34_35, v34_38, v34_39, v34_40, v34_43, v34_45, v34_46, v34_48, u34_49, n_cl, n_in_t, n_lt_t, n_lt_f, n_eq_t, n_eq_f, n_sub, nI_add, n_mul, n_01, ↓reduceIte, if_true, if_false, eq_self, true_or, or_true, and_self, and_true, true_and, Nat.reduceAdd, Nat.reduceMul, Nat.reduceLeDiff, Nat.zero_le, not_true_eq_false, not_false_eq_true, cat2_n, cat2_i, cat2_r, ws_0, ws_i, ws_r, ws_l, ws_d, aftr_n, aftr_s, bI_ok, bI_t, bI_f, up_s, up_n, n_bit, decide_true, decide_false, Bool.not_true, Bool.not_false, Bool.and_true, Bool.true_and, Bool.false_and, Bool.and_false, va_rf_s, n_nlt0, k_0, k_67, k_68, k_465, k_466, k_467, k_468, k_469, k_470, k_471, k_472, k_565, r_0_0, r_0_1, r_0_2, r_0_3, r_0_4, r_0_5, r_67_0, r_465_0, r_467_0, r_467_2, r_470_0, r_470_1, va_rf_s, n_neg_t, n_neg_f, m2, d1]
    refine c35 (by omega) (by omega) hW hu m3 (fun I1 g1 g2 => ?_)
    have hz1 := hz.ag g2 (fun y => by unfold pLl at y; omega) (fun j y => by unfold pLl at y; omega) (fun j y => by unfold pLl at y; omega)
    have d3 : I1 (ad b 472) k = nI e := (g2.at (fun y => by unfold pLl at y; omega)).trans d2
    have k4 : I1 (ad b 470) 4 = nI pg := (g2.at (fun y => by unfold pLl at y; omega)).trans m4
    by_cases e1 : e = 124
    · rw [if_pos e1] at hQ
      have eh : nI ((plc W l u x).1 - pt + H - 1) / nI H = nI (pgs H ((plc W l u x).1 - pt)) := by rw [n_div (by omega) (by omega)]; rfl
      simp (disch := omega) only [v34_52, v34_54, v34_55, v34_58, v34_60, v34_61, v34_63, v34_66, v34_67, v34_69, v34_70, v34_73, v34_75, v34_76, v34_78, v34_81, v34_82, v34_82i, v34_83, v34_86, v34_87, v34_90, v34_91, v34_92, v34_93, v34_94, v34_95, v34_96, v34_97, v34_98, v34_99, v34_102, v34_103, v34_106, v34_107, v34_110, n_cl, n_in_t, n_lt_t, n_lt_f, n_eq_t, n_eq_f, n_sub, nI_add, n_mul, n_01, ↓reduceIte, if_true, if_false, eq_self, true_or, or_true, and_self, and_true, true_and, Nat.reduceAdd, Nat.reduceMul, Nat.reduceLeDiff, Nat.zero_le, not_true_eq_false, not_false_eq_true, cat2_n, cat2_i, cat2_r, ws_0, ws_i, ws_r, ws_l, ws_d, aftr_n, aftr_s, bI_ok, bI_t, bI_f, up_s, up_n, n_bit, decide_true, decide_false, Bool.not_true, Bool.not_false, Bool.and_true, Bool.true_and, Bool.false_and, Bool.and_false, va_rf_s, n_nlt0, k_0, k_67, k_68, k_465, k_466, k_467, k_468, k_469, k_470, k_471, k_472, k_565, r_0_0, r_0_1, r_0_2, r_0_3, r_0_4, r_0_5, r_67_0, r_465_0, r_467_0, r_467_2, r_470_0, r_470_1, va_rf_s, n_neg_t, n_neg_f, d3, k4, g1, n_z, eh]
      have fr : Ag pFt b I (up2 I1 (ad b 470) 4 (nI (pg + pgs H ((plc W l u x).1 - pt)))) := (g2.mn pLl_f).up ⟨rfl, Or.inr rfl⟩
      exact ih (k + 1) (plc W l u x).1 none (plc W l u x).1 _ _ (by omega) hB2 hc' (by omega) (by omega) (by omega) (Nat.le_refl _) (fun v hv => by cases hv) (hz.ag fr (fun y => by unfold pFt at y; omega) (fun j y => by unfold pFt at y; omega) (fun j y => by unfold pFt at y; omega)) (by rw [up_n (by omega)]; exact g1) up_s (fun I2 q1 q2 q3 => hQ I2 q1 q2 (fr.tr q3))
    · rw [if_neg e1] at hQ
      by_cases e2 : e = 95
      · rw [if_pos e2] at hQ
        simp (disch := omega) only [v34_52, v34_54, v34_55, v34_58, v34_60, v34_61, v34_63, v34_66, v34_67, v34_69, v34_70, v34_73, v34_75, v34_76, v34_78, v34_81, v34_82, v34_82i, v34_83, v34_86, v34_87, v34_90, v34_91, v34_92, v34_93, v34_94, v34_95, v34_96, v34_97, v34_98, v34_99, v34_102, v34_103, v34_106, v34_107, v34_110, n_cl, n_in_t, n_lt_t, n_lt_f, n_eq_t, n_eq_f, n_sub, nI_add, n_mul, n_01, ↓reduceIte, if_true, if_false, eq_self, true_or, or_true, and_self, and_true, true_and, Nat.reduceAdd, Nat.reduceMul, Nat.reduceLeDiff, Nat.zero_le, not_true_eq_false, not_false_eq_true, cat2_n, cat2_i, cat2_r, ws_0, ws_i, ws_r, ws_l, ws_d, aftr_n, aftr_s, bI_ok, bI_t, bI_f, up_s, up_n, n_bit, decide_true, decide_false, Bool.not_true, Bool.not_false, Bool.and_true, Bool.true_and, Bool.false_and, Bool.and_false, va_rf_s, n_nlt0, k_0, k_67, k_68, k_465, k_466, k_467, k_468, k_469, k_470, k_471, k_472, k_565, r_0_0, r_0_1, r_0_2, r_0_3, r_0_4, r_0_5, r_67_0, r_465_0, r_467_0, r_467_2, r_470_0, r_470_1, va_rf_s, n_neg_t, n_neg_f, d3]
        exact ih (k + 1) (plc W l u x).1 (some (plc W l u x).2) pt pg I1 (by omega) hB2 hc' (by omega) (by omega) hpg (by omega) (fun v hv => by cases hv; omega) hz1 g1 k4 (fun I2 q1 q2 q3 => hQ I2 q1 q2 ((g2.mn pLl_f).tr q3))
      · rw [if_neg e2] at hQ
        simp (disch := omega) only [v34_52, v34_54, v34_55, v34_58, v34_60, v34_61, v34_63, v34_66, v34_67, v34_69, v34_70, v34_73, v34_75, v34_76, v34_78, v34_81, v34_82, v34_82i, v34_83, v34_86, v34_87, v34_90, v34_91, v34_92, v34_93, v34_94, v34_95, v34_96, v34_97, v34_98, v34_99, v34_102, v34_103, v34_106, v34_107, v34_110, n_cl, n_in_t, n_lt_t, n_lt_f, n_eq_t, n_eq_f, n_sub, nI_add, n_mul, n_01, ↓reduceIte, if_true, if_false, eq_self, true_or, or_true, and_self, and_true, true_and, Nat.reduceAdd, Nat.reduceMul, Nat.reduceLeDiff, Nat.zero_le, not_true_eq_false, not_false_eq_true, cat2_n, cat2_i, cat2_r, ws_0, ws_i, ws_r, ws_l, ws_d, aftr_n, aftr_s, bI_ok, bI_t, bI_f, up_s, up_n, n_bit, decide_true, decide_false, Bool.not_true, Bool.not_false, Bool.and_true, Bool.true_and, Bool.false_and, Bool.and_false, va_rf_s, n_nlt0, k_0, k_67, k_68, k_465, k_466, k_467, k_468, k_469, k_470, k_471, k_472, k_565, r_0_0, r_0_1, r_0_2, r_0_3, r_0_4, r_0_5, r_67_0, r_465_0, r_467_0, r_467_2, r_470_0, r_470_1, va_rf_s, n_neg_t, n_neg_f, d3]
        exact ih (k + 1) (plc W l u x).1 none pt pg I1 (by omega) hB2 hc' (by omega) (by omega) hpg (by omega) (fun v hv => by cases hv) hz1 g1 k4 (fun I2 q1 q2 q3 => hQ I2 q1 q2 ((g2.mn pLl_f).tr q3))
theorem pcs_ch : ∀ (t : List Nat) (p : Nat), ∀ pe ∈ pcsF t p, pe.2 < 256
  | [], p, pe, h => by
    unfold pcsF at h
    rw [List.mem_singleton] at h
    rw [h]; show (124 : Nat) < 256; omega
  | c :: r, p, pe, h => by
    unfold pcsF at h
    split at h
    · next e =>
      rcases List.mem_cons.mp h with h | h
      · rw [h]; show c < 256; omega
      · exact pcs_ch r 0 pe h
    · exact pcs_ch r (p + 1) pe h
theorem c34 {W H : Nat} (hW : 1 ≤ W ∧ W ≤ 40) (hH : 1 ≤ H ∧ H ≤ 20) (htl : t.length ≤ 1660) (hP : (pcsF t 0).length ≤ 121) (hz : PZ b I (pcsF t 0)) (hQ : ∀ I', I' (ad b 470) 3 = nI (layT W H t).1 → I' (ad b 470) 4 = nI (layT W H t).2 → Ag pFt b I I' → Q (.inl none) (KAt KL b, I', RAt RL b q, L, sz, ex)) :
    X z 34 0 [some (.ref (ad b 470)), some (.int (nI W)), some (.int (nI H)), none, none, none] [] (0, 0) (KAt KL b, I, RAt RL b q, L, sz, ex) Q := by
  have pl := pcs_len t 0
  have fr : Ag pFt b I (up2 (up2 I (ad b 470) 3 (nI 0)) (ad b 470) 4 (nI 0)) := (Ag.rf.up ⟨rfl, Or.inl rfl⟩).up ⟨rfl, Or.inr rfl⟩
  unfold layT at hQ
  rw [fit_lay] at hQ
  simp (disch := omega) only [v34_0, v34_1, v34_2, v34_5, v34_6, v34_7, v34_10, v34_11, v34_12, v34_15, v34_16, v34_17, v34_20, v34_21, v34_22, v34_23, v34_24, v34_26, v34_27, n_cl, n_in_t, n_lt_t, n_lt_f, n_eq_t, n_eq_f, n_sub, nI_add, n_mul, n_01, ↓reduceIte, if_true, if_false, eq_self, true_or, or_true, and_self, and_true, true_and, Nat.reduceAdd, Nat.reduceMul, Nat.reduceLeDiff, Nat.zero_le, not_true_eq_false, not_false_eq_true, cat2_n, cat2_i, cat2_r, ws_0, ws_i, ws_r, ws_l, ws_d, aftr_n, aftr_s, bI_ok, bI_t, bI_f, up_s, up_n, n_bit, decide_true, decide_false, Bool.not_true, Bool.not_false, Bool.and_true, Bool.true_and, Bool.false_and, Bool.and_false, va_rf_s, n_nlt0, k_0, k_67, k_68, k_465, k_466, k_467, k_468, k_469, k_470, k_471, k_472, k_565, r_0_0, r_0_1, r_0_2, r_0_3, r_0_4, r_0_5, r_67_0, r_465_0, r_467_0, r_467_2, r_470_0, r_470_1, va_rf_s, n_neg_t, n_neg_f]
  exact l34 hW hH hP (pcsF t 0) 0 0 none 0 0 _ (by omega) (fun j _ => by rw [Nat.zero_add]) (pcs_ch t 0) (by omega) (by omega) (Nat.le_refl _) (Nat.le_refl _) (fun v hv => by cases hv) (hz.ag fr (fun y => by unfold pFt at y; omega) (fun j y => by unfold pFt at y; omega) (fun j y => by unfold pFt at y; omega)) (by rw [up_n (by omega), up_s]) up_s (fun I2 q1 q2 q3 => hQ I2 q1 q2 (fr.tr q3))
/-- a field "<w>" in what the buffer wrote -/
def askW : List Nat → Bool
  | [] => false
  | c :: r => (c == 60 && r.headD 0 == 119) || askW r
theorem askW_raw : ∀ (T : List Nat), (∀ t ∈ T, okTok t) → askW (T.flatMap exT) = T.any (fun t => t == 375)
  | [], _ => rfl
  | t :: T, h => by
    have ih := askW_raw T (fun x hx => h x (List.mem_cons_of_mem _ hx))
    have ht := h t List.mem_cons_self
    rw [List.flatMap_cons, List.any_cons]
    by_cases e : t < 256
    · have ex : exT t = [t] := by unfold exT; rw [if_pos e]
      rw [ex]
      show ((t == 60 && _) || askW (T.flatMap exT)) = _
      rw [ih, beq_eq_false_iff_ne.mpr (show t ≠ 60 by unfold okTok at ht; omega), beq_eq_false_iff_ne.mpr (show t ≠ 375 by omega), Bool.false_and]
    · have ex : exT t = [60, t - 256, 62] := by unfold exT; rw [if_neg e]
      rw [ex]
      show ((60 == 60 && t - 256 == 119) || ((t - 256 == 60 && 62 == 119) || ((62 == 60 && _) || askW (T.flatMap exT)))) = _
      rw [ih]
      by_cases e2 : t = 375
      · subst e2; rfl
      · rw [beq_eq_false_iff_ne.mpr (show t - 256 ≠ 119 by omega), beq_eq_false_iff_ne.mpr e2]
        have : (t - 256 == 60) = false := beq_eq_false_iff_ne.mpr (by unfold okTok at ht; omega)
        rw [this]
        rfl
theorem askW_A (hg : Good A) : askW (raw A) = hasW A := askW_raw (toks A) (fun t ht => (toks_ok hg t ht).1)
theorem l31 {B : List Nat} (hs : isS s) (h60 : B.length ≤ 60) (hB : ∀ c ∈ B, c < 256) (m1 : I (ad b (s + 3)) 1 = nI B.length) (m2 : ∀ k, k < B.length → I (ad b (s + 4)) k = nI (B.getD k 0)) : ∀ (r : List Nat) k, k + r.length = B.length → (∀ j, j < r.length → B.getD (k + j) 0 = r.getD j 0) → X z 31 2 [some (.ref (ad b (s + 3))), some (.int (nI k))] [] (0, 0) (KAt KL b, I, RAt RL b q, L, sz, ex) Q = Q (.inl (some (.int (bI (askW r))))) (KAt KL b, I, RAt RL b q, L, sz, ex) := by
  intro r
  induction r with
  | nil =>
    intro k hk hr
    rw [List.length_nil, Nat.add_zero] at hk
    rw [v31_2]
    simp (disch := omega) only [v31_3, v31_4, v31_5, v31_6, v31_9, v31_12, v31_13, v31_16, v31_17, v31_18, v31_20, v31_23, v31_24, v31_27, v31_28, v31_29, v31_30, v31_31, v31_33, v31_36, v31_37, v31_38, v31_41, v31_44, v31_45, n_cl, n_in_t, n_lt_t, n_lt_f, n_eq_t, n_eq_f, n_sub, nI_add, n_mul, n_01, ↓reduceIte, if_true, if_false, eq_self, true_or, or_true, and_self, and_true, true_and, Nat.reduceAdd, Nat.reduceMul, Nat.reduceLeDiff, Nat.zero_le, not_true_eq_false, not_false_eq_true, cat2_n, cat2_i, cat2_r, ws_0, ws_i, ws_r, ws_l, ws_d, aftr_n, aftr_s, bI_ok, bI_t, bI_f, up_s, up_n, n_bit, decide_true, decide_false, Bool.not_true, Bool.not_false, Bool.and_true, Bool.true_and, Bool.false_and, Bool.and_false, va_rf_s, n_nlt0, k_0, k_67, k_68, k_465, k_466, k_467, k_468, k_469, k_470, k_471, k_472, k_565, r_0_0, r_0_1, r_0_2, r_0_3, r_0_4, r_0_5, r_67_0, r_465_0, r_467_0, r_467_2, r_470_0, r_470_1, va_rf_s, n_neg_t, n_neg_f, kS0 hs, kS1 hs, kS2 hs, kS3 hs, kS4 hs, kS5 hs, kSp hs, kSn hs, kSw hs, kSl hs, rS0_0 hs, rS0_2 hs, rS0_4 hs, rS0_5 hs, rS3_0 hs, rS1 hs, rS2 hs, rSp hs, rSw hs, m1]
    rfl
  | cons c r ih =>
    intro k hk hr
    obtain ⟨hB1, hB2⟩ := getD_tail hr
    rw [List.length_cons] at hk
    have d1 := m2 k (by omega)
    rw [hB1] at d1
    have hc : c < 256 := hB c (by rw [← hB1, List.getD_eq_getElem?_getD, List.getElem?_eq_getElem (by omega)]; exact List.getElem_mem _)
    rw [v31_2]
    unfold askW
    cases r with
    | nil =>
      have e : ([] : List Nat).headD 0 = 0 := rfl
      rw [List.length_nil] at hk
      simp (disch := omega) only [v31_3, v31_4, v31_5, v31_6, v31_9, v31_12, v31_13, v31_16, v31_17, v31_18, v31_20, v31_23, v31_24, v31_27, v31_28, v31_29, v31_30, v31_31, v31_33, v31_36, v31_37, v31_38, v31_41, v31_44, v31_45, n_cl, n_in_t, n_lt_t, n_lt_f, n_eq_t, n_eq_f, n_sub, nI_add, n_mul, n_01, ↓reduceIte, if_true, if_false, eq_self, true_or, or_true, and_self, and_true, true_and, Nat.reduceAdd, Nat.reduceMul, Nat.reduceLeDiff, Nat.zero_le, not_true_eq_false, not_false_eq_true, cat2_n, cat2_i, cat2_r, ws_0, ws_i, ws_r, ws_l, ws_d, aftr_n, aftr_s, bI_ok, bI_t, bI_f, up_s, up_n, n_bit, decide_true, decide_false, Bool.not_true, Bool.not_false, Bool.and_true, Bool.true_and, Bool.false_and, Bool.and_false, va_rf_s, n_nlt0, k_0, k_67, k_68, k_465, k_466, k_467, k_468, k_469, k_470, k_471, k_472, k_565, r_0_0, r_0_1, r_0_2, r_0_3, r_0_4, r_0_5, r_67_0, r_465_0, r_467_0, r_467_2, r_470_0, r_470_1, va_rf_s, n_neg_t, n_neg_f, kS0 hs, kS1 hs, kS2 hs, kS3 hs, kS4 hs, kS5 hs, kSp hs, kSn hs, kSw hs, kSl hs, rS0_0 hs, rS0_2 hs, rS0_4 hs, rS0_5 hs, rS3_0 hs, rS1 hs, rS2 hs, rSp hs, rSw hs, m1]
      rw [e, show ((0 : Nat) == 119) = false from rfl, Bool.and_false]
      rfl
    | cons d r =>
      rw [List.length_cons] at hk
      have hd : B.getD (k + 1) 0 = d := by
        have := hB2 0 (by simp)
        rwa [Nat.add_zero] at this
      have d2 := m2 (k + 1) (by omega)
      rw [hd] at d2
      have hdc : d < 256 := hB d (by rw [← hd, List.getD_eq_getElem?_getD, List.getElem?_eq_getElem (by omega)]; exact List.getElem_mem _)
      show _ = Q (.inl (some (.int (bI ((c == 60 && d == 119) || askW (d :: r)))))) _
      by_cases e1 : c = 60
      · by_cases e2 : d = 119
        · rw [beq_iff_eq.mpr e1, beq_iff_eq.mpr e2]
          simp (disch := omega) only [v31_3, v31_4, v31_5, v31_6, v31_9, v31_12, v31_13, v31_16, v31_17, v31_18, v31_20, v31_23, v31_24, v31_27, v31_28, v31_29, v31_30, v31_31, v31_33, v31_36, v31_37, v31_38, v31_41, v31_44, v31_45, n_cl, n_in_t, n_lt_t, n_lt_f, n_eq_t, n_eq_f, n_sub, nI_add, n_mul, n_01, ↓reduceIte, if_true, if_false, eq_self, true_or, or_true, and_self, and_true, true_and, Nat.reduceAdd, Nat.reduceMul, Nat.reduceLeDiff, Nat.zero_le, not_true_eq_false, not_false_eq_true, cat2_n, cat2_i, cat2_r, ws_0, ws_i, ws_r, ws_l, ws_d, aftr_n, aftr_s, bI_ok, bI_t, bI_f, up_s, up_n, n_bit, decide_true, decide_false, Bool.not_true, Bool.not_false, Bool.and_true, Bool.true_and, Bool.false_and, Bool.and_false, va_rf_s, n_nlt0, k_0, k_67, k_68, k_465, k_466, k_467, k_468, k_469, k_470, k_471, k_472, k_565, r_0_0, r_0_1, r_0_2, r_0_3, r_0_4, r_0_5, r_67_0, r_465_0, r_467_0, r_467_2, r_470_0, r_470_1, va_rf_s, n_neg_t, n_neg_f, kS0 hs, kS1 hs, kS2 hs, kS3 hs, kS4 hs, kS5 hs, kSp hs, kSn hs, kSw hs, kSl hs, rS0_0 hs, rS0_2 hs, rS0_4 hs, rS0_5 hs, rS3_0 hs, rS1 hs, rS2 hs, rSp hs, rSw hs, m1, d1, d2, Bool.true_or]
        · rw [beq_eq_false_iff_ne.mpr e2, Bool.and_false, Bool.false_or]
          simp (disch := omega) only [v31_3, v31_4, v31_5, v31_6, v31_9, v31_12, v31_13, v31_16, v31_17, v31_18, v31_20, v31_23, v31_24, v31_27, v31_28, v31_29, v31_30, v31_31, v31_33, v31_36, v31_37, v31_38, v31_41, v31_44, v31_45, n_cl, n_in_t, n_lt_t, n_lt_f, n_eq_t, n_eq_f, n_sub, nI_add, n_mul, n_01, ↓reduceIte, if_true, if_false, eq_self, true_or, or_true, and_self, and_true, true_and, Nat.reduceAdd, Nat.reduceMul, Nat.reduceLeDiff, Nat.zero_le, not_true_eq_false, not_false_eq_true, cat2_n, cat2_i, cat2_r, ws_0, ws_i, ws_r, ws_l, ws_d, aftr_n, aftr_s, bI_ok, bI_t, bI_f, up_s, up_n, n_bit, decide_true, decide_false, Bool.not_true, Bool.not_false, Bool.and_true, Bool.true_and, Bool.false_and, Bool.and_false, va_rf_s, n_nlt0, k_0, k_67, k_68, k_465, k_466, k_467, k_468, k_469, k_470, k_471, k_472, k_565, r_0_0, r_0_1, r_0_2, r_0_3, r_0_4, r_0_5, r_67_0, r_465_0, r_467_0, r_467_2, r_470_0, r_470_1, va_rf_s, n_neg_t, n_neg_f, kS0 hs, kS1 hs, kS2 hs, kS3 hs, kS4 hs, kS5 hs, kSp hs, kSn hs, kSw hs, kSl hs, rS0_0 hs, rS0_2 hs, rS0_4 hs, rS0_5 hs, rS3_0 hs, rS1 hs, rS2 hs, rSp hs, rSw hs, m1, d1, d2]
          exact ih (k + 1) (by rw [List.length_cons]; omega) hB2
      · rw [beq_eq_false_iff_ne.mpr e1, Bool.false_and, Bool.false_or]
        simp (disch := omega) only [v31_3, v31_4, v31_5, v31_6, v31_9, v31_12, v31_13, v31_16, v31_17, v31_18, v31_20, v31_23, v31_24, v31_27, v31_28, v31_29, v31_30, v31_31, v31_33, v31_36, v31_37, v31_38, v31_41, v31_44, v31_45, n_cl, n_in_t, n_lt_t, n_lt_f, n_eq_t, n_eq_f, n_sub, nI_add, n_mul, n_01, ↓reduceIte, if_true, if_false, eq_self, true_or, or_true, and_self, and_true, true_and, Nat.reduceAdd, Nat.reduceMul, Nat.reduceLeDiff, Nat.zero_le, not_true_eq_false, not_false_eq_true, cat2_n, cat2_i, cat2_r, ws_0, ws_i, ws_r, ws_l, ws_d, aftr_n, aftr_s, bI_ok, bI_t, bI_f, up_s, up_n, n_bit, decide_true, decide_false, Bool.not_true, Bool.not_false, Bool.and_true, Bool.true_and, Bool.false_and, Bool.and_false, va_rf_s, n_nlt0, k_0, k_67, k_68, k_465, k_466, k_467, k_468, k_469, k_470, k_471, k_472, k_565, r_0_0, r_0_1, r_0_2, r_0_3, r_0_4, r_0_5, r_67_0, r_465_0, r_467_0, r_467_2, r_470_0, r_470_1, va_rf_s, n_neg_t, n_neg_f, kS0 hs, kS1 hs, kS2 hs, kS3 hs, kS4 hs, kS5 hs, kSp hs, kSn hs, kSw hs, kSl hs, rS0_0 hs, rS0_2 hs, rS0_4 hs, rS0_5 hs, rS3_0 hs, rS1 hs, rS2 hs, rSp hs, rSw hs, m1, d1]
        exact ih (k + 1) (by rw [List.length_cons]; omega) hB2
theorem raw_ch (hg : Good A) : ∀ c ∈ raw A, c < 256 := by
  intro c hc
  unfold raw at hc
  obtain ⟨t, ht, hc⟩ := List.mem_flatMap.mp hc
  have ok := (toks_ok hg t ht).1
  unfold exT at hc
  split at hc
  · rw [List.mem_singleton] at hc; omega
  · unfold okTok at ok
    simp only [List.mem_cons, List.not_mem_nil, or_false] at hc
    omega
theorem c31 (hs : isS s) (hg : Good A) (h : IR b I (s + 3) (s + 4) A) : X z 31 0 [some (.ref (ad b (s + 3))), none] [] (0, 0) (KAt KL b, I, RAt RL b q, L, sz, ex) Q = Q (.inl (some (.int (bI (hasW A))))) (KAt KL b, I, RAt RL b q, L, sz, ex) := by
  simp (disch := omega) only [v31_0, v31_1, n_cl, n_in_t, n_lt_t, n_lt_f, n_eq_t, n_eq_f, n_sub, nI_add, n_mul, n_01, ↓reduceIte, if_true, if_false, eq_self, true_or, or_true, and_self, and_true, true_and, Nat.reduceAdd, Nat.reduceMul, Nat.reduceLeDiff, Nat.zero_le, not_true_eq_false, not_false_eq_true, cat2_n, cat2_i, cat2_r, ws_0, ws_i, ws_r, ws_l, ws_d, aftr_n, aftr_s, bI_ok, bI_t, bI_f, up_s, up_n, n_bit, decide_true, decide_false, Bool.not_true, Bool.not_false, Bool.and_true, Bool.true_and, Bool.false_and, Bool.and_false, va_rf_s, n_nlt0, k_0, k_67, k_68, k_465, k_466, k_467, k_468, k_469, k_470, k_471, k_472, k_565, r_0_0, r_0_1, r_0_2, r_0_3, r_0_4, r_0_5, r_67_0, r_465_0, r_467_0, r_467_2, r_470_0, r_470_1, va_rf_s, n_neg_t, n_neg_f, l31 hs hg.2.2.2.2.2 (raw_ch hg) h.1 h.2 (raw A) 0 (by omega) (fun j _ => by rw [Nat.zero_add]), askW_A hg]
set_option maxHeartbeats 4000000 in
theorem c49 {pp d : Nat} (hs : isS s) (hg : Good A) (hm : Sm A) (hp : pp < A 6) (hd : A 8 ≤ d) (hd2 : d ≤ 20000) (h : SP b I s A) : X z 49 0 [some (.ref (ad b s)), some (.int (nI d)), some (.ref (ad b (s + 6 + 2 * pp))), some (.int (nI (A 3)))] [] (0, 0) (KAt KL b, I, RAt RL b q, L, sz, ex) Q = Q (.inl (some (.int (nI (reas A pp d))))) (KAt KL b, I, RAt RL b q, L, sz, ex) := by
  have h6 := hg.1.1
  have h8 := hg.1.2.2.2
  have h3 := hg.2.1.2.2.2.2.2.2.1
  obtain ⟨-, -, -, q4, q5, -, -, -⟩ := hg.2.2.1 pp hp
  have q2 := hm (93 + pp) (by omega)
  have q3 := hm (53 + pp) (by omega)
  obtain ⟨-, -, -, p4, p5, p6, -, -⟩ := h.2.1 pp hp
  have ir := h.2.2.2
  unfold reas
  by_cases e1 : A (73 + pp) = 1
  · rw [if_pos e1]
    simp (disch := omega) only [v49_0, v49_1, v49_4, v49_7, v49_8, v49_9, v49_10, v49_13, v49_14, v49_17, v49_18, v49_19, v49_22, v49_23, v49_24, v49_27, v49_28, v49_29, v49_30, v49_33, v49_34, v49_37, v49_38, u49_41, v49_44, v49_47, v49_48, v49_49, v49_50, n_cl, n_in_t, n_lt_t, n_lt_f, n_eq_t, n_eq_f, n_sub, nI_add, n_mul, n_01, ↓reduceIte, if_true, if_false, eq_self, true_or, or_true, and_self, and_true, true_and, Nat.reduceAdd, Nat.reduceMul, Nat.reduceLeDiff, Nat.zero_le, not_true_eq_false, not_false_eq_true, cat2_n, cat2_i, cat2_r, ws_0, ws_i, ws_r, ws_l, ws_d, aftr_n, aftr_s, bI_ok, bI_t, bI_f, up_s, up_n, n_bit, decide_true, decide_false, Bool.not_true, Bool.not_false, Bool.and_true, Bool.true_and, Bool.false_and, Bool.and_false, va_rf_s, n_nlt0, k_0, k_67, k_68, k_465, k_466, k_467, k_468, k_469, k_470, k_471, k_472, k_565, r_0_0, r_0_1, r_0_2, r_0_3, r_0_4, r_0_5, r_67_0, r_465_0, r_467_0, r_467_2, r_470_0, r_470_1, va_rf_s, n_neg_t, n_neg_f, kS0 hs, kS1 hs, kS2 hs, kS3 hs, kS4 hs, kS5 hs, kSp hs, kSn hs, kSw hs, kSl hs, rS0_0 hs, rS0_2 hs, rS0_4 hs, rS0_5 hs, rS3_0 hs, rS1 hs, rS2 hs, rSp hs, rSw hs, p5]
  · rw [if_neg e1]
    have noword : X z 49 29 [some (.ref (ad b s)), some (.int (nI d)), some (.ref (ad b (s + 6 + 2 * pp))), some (.int (nI (A 3)))] [] (0, 0) (KAt KL b, I, RAt RL b q, L, sz, ex) Q = Q (.inl (some (.int (nI (if A (53 + pp) = 4294967295 ∧ hasW A = true then 3 else 0))))) (KAt KL b, I, RAt RL b q, L, sz, ex) := by
      by_cases e3 : A (53 + pp) = 4294967295
      · cases e4 : hasW A with
        | true =>
          rw [if_pos ⟨e3, rfl⟩]
          simp (disch := omega) only [v49_29, v49_30, v49_33, v49_34, v49_37, v49_38, u49_41, v49_44, v49_47, v49_48, v49_49, v49_50, n_cl, n_in_t, n_lt_t, n_lt_f, n_eq_t, n_eq_f, n_sub, nI_add, n_mul, n_01, ↓reduceIte, if_true, if_false, eq_self, true_or, or_true, and_self, and_true, true_and, Nat.reduceAdd, Nat.reduceMul, Nat.reduceLeDiff, Nat.zero_le, not_true_eq_false, not_false_eq_true, cat2_n, cat2_i, cat2_r, ws_0, ws_i, ws_r, ws_l, ws_d, aftr_n, aftr_s, bI_ok, bI_t, bI_f, up_s, up_n, n_bit, decide_true, decide_false, Bool.not_true, Bool.not_false, Bool.and_true, Bool.true_and, Bool.false_and, Bool.and_false, va_rf_s, n_nlt0, k_0, k_67, k_68, k_465, k_466, k_467, k_468, k_469, k_470, k_471, k_472, k_565, r_0_0, r_0_1, r_0_2, r_0_3, r_0_4, r_0_5, r_67_0, r_465_0, r_467_0, r_467_2, r_470_0, r_470_1, va_rf_s, n_neg_t, n_neg_f, kS0 hs, kS1 hs, kS2 hs, kS3 hs, kS4 hs, kS5 hs, kSp hs, kSn hs, kSw hs, kSl hs, rS0_0 hs, rS0_2 hs, rS0_4 hs, rS0_5 hs, rS3_0 hs, rS1 hs, rS2 hs, rSp hs, rSw hs, p4, c31 hs hg ir, e4]
        | false =>
          rw [if_neg (fun x => by cases x.2)]
          simp (disch := omega) only [v49_29, v49_30, v49_33, v49_34, v49_37, v49_38, u49_41, v49_44, v49_47, v49_48, v49_49, v49_50, n_cl, n_in_t, n_lt_t, n_lt_f, n_eq_t, n_eq_f, n_sub, nI_add, n_mul, n_01, ↓reduceIte, if_true, if_false, eq_self, true_or, or_true, and_self, and_true, true_and, Nat.reduceAdd, Nat.reduceMul, Nat.reduceLeDiff, Nat.zero_le, not_true_eq_false, not_false_eq_true, cat2_n, cat2_i, cat2_r, ws_0, ws_i, ws_r, ws_l, ws_d, aftr_n, aftr_s, bI_ok, bI_t, bI_f, up_s, up_n, n_bit, decide_true, decide_false, Bool.not_true, Bool.not_false, Bool.and_true, Bool.true_and, Bool.false_and, Bool.and_false, va_rf_s, n_nlt0, k_0, k_67, k_68, k_465, k_466, k_467, k_468, k_469, k_470, k_471, k_472, k_565, r_0_0, r_0_1, r_0_2, r_0_3, r_0_4, r_0_5, r_67_0, r_465_0, r_467_0, r_467_2, r_470_0, r_470_1, va_rf_s, n_neg_t, n_neg_f, kS0 hs, kS1 hs, kS2 hs, kS3 hs, kS4 hs, kS5 hs, kSp hs, kSn hs, kSw hs, kSl hs, rS0_0 hs, rS0_2 hs, rS0_4 hs, rS0_5 hs, rS3_0 hs, rS1 hs, rS2 hs, rSp hs, rSw hs, p4, c31 hs hg ir, e4]
      · rw [if_neg (fun x => e3 x.1)]
        simp (disch := omega) only [v49_29, v49_30, v49_33, v49_34, v49_37, v49_38, u49_41, v49_44, v49_47, v49_48, v49_49, v49_50, n_cl, n_in_t, n_lt_t, n_lt_f, n_eq_t, n_eq_f, n_sub, nI_add, n_mul, n_01, ↓reduceIte, if_true, if_false, eq_self, true_or, or_true, and_self, and_true, true_and, Nat.reduceAdd, Nat.reduceMul, Nat.reduceLeDiff, Nat.zero_le, not_true_eq_false, not_false_eq_true, cat2_n, cat2_i, cat2_r, ws_0, ws_i, ws_r, ws_l, ws_d, aftr_n, aftr_s, bI_ok, bI_t, bI_f, up_s, up_n, n_bit, decide_true, decide_false, Bool.not_true, Bool.not_false, Bool.and_true, Bool.true_and, Bool.false_and, Bool.and_false, va_rf_s, n_nlt0, k_0, k_67, k_68, k_465, k_466, k_467, k_468, k_469, k_470, k_471, k_472, k_565, r_0_0, r_0_1, r_0_2, r_0_3, r_0_4, r_0_5, r_67_0, r_465_0, r_467_0, r_467_2, r_470_0, r_470_1, va_rf_s, n_neg_t, n_neg_f, kS0 hs, kS1 hs, kS2 hs, kS3 hs, kS4 hs, kS5 hs, kSp hs, kSn hs, kSw hs, kSl hs, rS0_0 hs, rS0_2 hs, rS0_4 hs, rS0_5 hs, rS3_0 hs, rS1 hs, rS2 hs, rSp hs, rSw hs, p4]
    by_cases e2 : A (93 + pp) = 4294967295
    · rw [if_neg (fun x => x.1 e2), ← noword]
      simp (disch := omega) only [v49_0, v49_1, v49_4, v49_7, v49_8, v49_9, v49_10, v49_13, v49_14, v49_17, v49_18, v49_19, v49_22, v49_23, v49_24, v49_27, v49_28, n_cl, n_in_t, n_lt_t, n_lt_f, n_eq_t, n_eq_f, n_sub, nI_add, n_mul, n_01, ↓reduceIte, if_true, if_false, eq_self, true_or, or_true, and_self, and_true, true_and, Nat.reduceAdd, Nat.reduceMul, Nat.reduceLeDiff, Nat.zero_le, not_true_eq_false, not_false_eq_true, cat2_n, cat2_i, cat2_r, ws_0, ws_i, ws_r, ws_l, ws_d, aftr_n, aftr_s, bI_ok, bI_t, bI_f, up_s, up_n, n_bit, decide_true, decide_false, Bool.not_true, Bool.not_false, Bool.and_true, Bool.true_and, Bool.false_and, Bool.and_false, va_rf_s, n_nlt0, k_0, k_67, k_68, k_465, k_466, k_467, k_468, k_469, k_470, k_471, k_472, k_565, r_0_0, r_0_1, r_0_2, r_0_3, r_0_4, r_0_5, r_67_0, r_465_0, r_467_0, r_467_2, r_470_0, r_470_1, va_rf_s, n_neg_t, n_neg_f, kS0 hs, kS1 hs, kS2 hs, kS3 hs, kS4 hs, kS5 hs, kSp hs, kSn hs, kSw hs, kSl hs, rS0_0 hs, rS0_2 hs, rS0_4 hs, rS0_5 hs, rS3_0 hs, rS1 hs, rS2 hs, rSp hs, rSw hs, p5, p6]
    · have l7 : A (93 + pp) ≤ A 8 := q5.resolve_left e2
      by_cases e6 : d - A (93 + pp) < A 3
      · rw [if_pos ⟨e2, e6⟩]
        simp (disch := omega) only [v49_0, v49_1, v49_4, v49_7, v49_8, v49_9, v49_10, v49_13, v49_14, v49_17, v49_18, v49_19, v49_22, v49_23, v49_24, v49_27, v49_28, n_cl, n_in_t, n_lt_t, n_lt_f, n_eq_t, n_eq_f, n_sub, nI_add, n_mul, n_01, ↓reduceIte, if_true, if_false, eq_self, true_or, or_true, and_self, and_true, true_and, Nat.reduceAdd, Nat.reduceMul, Nat.reduceLeDiff, Nat.zero_le, not_true_eq_false, not_false_eq_true, cat2_n, cat2_i, cat2_r, ws_0, ws_i, ws_r, ws_l, ws_d, aftr_n, aftr_s, bI_ok, bI_t, bI_f, up_s, up_n, n_bit, decide_true, decide_false, Bool.not_true, Bool.not_false, Bool.and_true, Bool.true_and, Bool.false_and, Bool.and_false, va_rf_s, n_nlt0, k_0, k_67, k_68, k_465, k_466, k_467, k_468, k_469, k_470, k_471, k_472, k_565, r_0_0, r_0_1, r_0_2, r_0_3, r_0_4, r_0_5, r_67_0, r_465_0, r_467_0, r_467_2, r_470_0, r_470_1, va_rf_s, n_neg_t, n_neg_f, kS0 hs, kS1 hs, kS2 hs, kS3 hs, kS4 hs, kS5 hs, kSp hs, kSn hs, kSw hs, kSl hs, rS0_0 hs, rS0_2 hs, rS0_4 hs, rS0_5 hs, rS3_0 hs, rS1 hs, rS2 hs, rSp hs, rSw hs, p5, p6]
      · rw [if_neg (fun x => e6 x.2), ← noword]
        simp (disch := omega) only [v49_0, v49_1, v49_4, v49_7, v49_8, v49_9, v49_10, v49_13, v49_14, v49_17, v49_18, v49_19, v49_22, v49_23, v49_24, v49_27, v49_28, n_cl, n_in_t, n_lt_t, n_lt_f, n_eq_t, n_eq_f, n_sub, nI_add, n_mul, n_01, ↓reduceIte, if_true, if_false, eq_self, true_or, or_true, and_self, and_true, true_and, Nat.reduceAdd, Nat.reduceMul, Nat.reduceLeDiff, Nat.zero_le, not_true_eq_false, not_false_eq_true, cat2_n, cat2_i, cat2_r, ws_0, ws_i, ws_r, ws_l, ws_d, aftr_n, aftr_s, bI_ok, bI_t, bI_f, up_s, up_n, n_bit, decide_true, decide_false, Bool.not_true, Bool.not_false, Bool.and_true, Bool.true_and, Bool.false_and, Bool.and_false, va_rf_s, n_nlt0, k_0, k_67, k_68, k_465, k_466, k_467, k_468, k_469, k_470, k_471, k_472, k_565, r_0_0, r_0_1, r_0_2, r_0_3, r_0_4, r_0_5, r_67_0, r_465_0, r_467_0, r_467_2, r_470_0, r_470_1, va_rf_s, n_neg_t, n_neg_f, kS0 hs, kS1 hs, kS2 hs, kS3 hs, kS4 hs, kS5 hs, kSp hs, kSn hs, kSw hs, kSl hs, rS0_0 hs, rS0_2 hs, rS0_4 hs, rS0_5 hs, rS3_0 hs, rS1 hs, rS2 hs, rSp hs, rSw hs, p5, p6]
end CJ
