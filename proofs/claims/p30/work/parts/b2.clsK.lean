/-! THE CLASS: persons divided into letters -/
theorem mem_lof {A : Row} : ∀ (n k i : Nat), i ∈ (grp A n).2 k ↔ i < n ∧ reas A i (A 8) = 0 ∧ lof A i = k
  | 0, k, i => by
    show i ∈ ([] : List Nat) ↔ _
    simp
  | n + 1, k, i => by
    have ih := mem_lof (A := A) n k i
    unfold grp
    by_cases e : reas A n (A 8) = 0
    · rw [if_pos e]
      have hl : lof A n = gix A (grp A n) n := by unfold lof; rw [if_pos e]
      unfold insG
      dsimp only
      by_cases ek : k = gix A (grp A n) n
      · rw [if_pos ek, List.mem_append, List.mem_singleton, ih]
        constructor
        · rintro (⟨h1, h2, h3⟩ | h)
          · exact ⟨by omega, h2, h3⟩
          · subst h; exact ⟨by omega, e, by rw [hl, ek]⟩
        · rintro ⟨h1, h2, h3⟩
          by_cases hi : i = n
          · exact Or.inr hi
          · exact Or.inl ⟨by omega, h2, h3⟩
      · rw [if_neg ek, ih]
        constructor
        · rintro ⟨h1, h2, h3⟩; exact ⟨by omega, h2, h3⟩
        · rintro ⟨h1, h2, h3⟩
          have hi : i ≠ n := fun x => by subst x; rw [hl] at h3; exact ek h3.symm
          exact ⟨by omega, h2, h3⟩
    · rw [if_neg e, ih]
      constructor
      · rintro ⟨h1, h2, h3⟩; exact ⟨by omega, h2, h3⟩
      · rintro ⟨h1, h2, h3⟩
        have hi : i ≠ n := fun x => by subst x; exact e h2
        exact ⟨by omega, h2, h3⟩
def pDf (p o j : Nat) : Prop := (o = p ∧ j = 1) ∨ (p + 6 ≤ o ∧ o < p + 46)
def pDv (p o j : Nat) : Prop := (o = p ∧ j = 1) ∨ (p + 2 ≤ o ∧ o ≤ p + 3) ∨ (p + 6 ≤ o ∧ o < p + 46)
theorem pDf_v {p : Nat} : ∀ o j, pDf p o j → pDv p o j := fun o j h => by unfold pDf at h; unfold pDv; omega
/-- n drafts with the persons G and their addresses -/
def DG (b : Nat) (I : Nat → Nat → Int32) (p : Nat) (A : Row) (n : Nat) (G : Nat → List Nat) (ha : Nat → Nat) : Prop := I (ad b p) 1 = nI n ∧ ∀ k, k < n → DR b I (p + 6 + 2 * k) (p + 7 + 2 * k) (G k) ∧ I (ad b (p + 6 + 2 * k)) 2 = nI (ha k)
def hdA (A : Row) (G : Nat → List Nat) : Nat → Nat := fun k => A (13 + (G k).headD 0)
section CK
variable {z : P0} {KL : Nat → Nat × Nat} {RL : Nat → Nat → Option Nat} {q : Nat → Nat} {b : Nat} {I : Nat → Nat → Int32} {L : Nat → Nat → Int64} {sz : Nat} {ex : Bool} {Q : Res → Mem → Prop} {A : Row}
variable {s p i : Nat} {G : Grp}
theorem DG.ag {F : Nat → Nat → Prop} {I' : Nat → Nat → Int32} {n : Nat} {H : Nat → List Nat} {ha : Nat → Nat} (hn : n ≤ 20) (h : DG b I p A n H ha) (hg : Ag F b I I') (h1 : ¬ F p 1) (h2 : ∀ o j, p + 6 ≤ o → o < p + 46 → (j = 1 ∨ j = 2 ∨ (o - p) % 2 = 1) → ¬ F o j) : DG b I' p A n H ha := by
  refine ⟨(hg.at h1).trans h.1, fun k hk => ?_⟩
  have := h.2 k hk
  exact ⟨⟨(hg.at (h2 _ _ (by omega) (by omega) (Or.inl rfl))).trans this.1.1, fun j hj => (hg.at (h2 _ _ (by omega) (by omega) (Or.inr (Or.inr (by omega))))).trans (this.1.2 j hj)⟩, (hg.at (h2 _ _ (by omega) (by omega) (Or.inr (Or.inl rfl)))).trans this.2⟩
set_option maxHeartbeats 4000000 in
theorem l41 (hp : isM p) (hg : Good A) (hm : Sm A) (hi : i < A 6) (hG : OKG A i G) (h : DG b I p A G.1 G.2 (hdA A G.2)) : ∀ d k, k + d = G.1 → (findI (fun k => fitG A i (G.2 k)) k d < G.1 → Q (.inl (some (.int (nI (findI (fun k => fitG A i (G.2 k)) k d))))) (KAt KL b, I, RAt RL b q, L, sz, ex)) →
    (findI (fun k => fitG A i (G.2 k)) k d = G.1 → Q (.inl (some (.int (nI G.1)))) (KAt KL b, up2 (up2 (up2 I (ad b (p + 6 + 2 * G.1)) 2 (nI (A (13 + i)))) (ad b (p + 6 + 2 * G.1)) 1 (nI 0)) (ad b p) 1 (nI (G.1 + 1)), RAt RL b q, L, sz, ex)) →
    X z 41 2 [some (.ref (ad b p)), some (.int (nI (A (13 + i)))), some (.int (nI (A 2))), some (.int (nI k))] [] (0, 0) (KAt KL b, I, RAt RL b q, L, sz, ex) Q := by
  have h6 := hg.1.1
  have h26 := hg.2.1
  have g1 := hG.1
  have m1 := h.1
  have l2 := hm (13 + i) (by omega)
  intro d
  induction d with
  | zero =>
    intro k hk q1 q2
    rw [v41_2]
    simp (disch := omega) only [v41_3, v41_4, v41_7, v41_10, v41_11, v41_14, v41_15, v41_16, v41_19, v41_20, v41_23, v41_24, v41_27, v41_28, v41_29, v41_32, v41_33, v41_36, v41_37, v41_38, v41_41, v41_44, v41_45, v41_48, v41_49, v41_50, v41_53, v41_54, v41_55, v41_56, v41_59, v41_60, v41_63, v41_64, v41_65, v41_66, v41_69, v41_70, v41_71, v41_72, v41_73, v41_76, v41_77, n_cl, n_in_t, n_lt_t, n_lt_f, n_eq_t, n_eq_f, n_sub, nI_add, n_mul, n_01, ↓reduceIte, if_true, if_false, eq_self, true_or, or_true, and_self, and_true, true_and, Nat.reduceAdd, Nat.reduceMul, Nat.reduceLeDiff, Nat.zero_le, not_true_eq_false, not_false_eq_true, cat2_n, cat2_i, cat2_r, ws_0, ws_i, ws_r, ws_l, ws_d, aftr_n, aftr_s, bI_ok, bI_t, bI_f, up_s, up_n, n_bit, decide_true, decide_false, Bool.not_true, Bool.not_false, Bool.and_true, Bool.true_and, Bool.false_and, Bool.and_false, va_rf_s, n_nlt0, k_0, k_67, k_68, k_465, k_466, k_467, k_468, k_469, k_470, k_471, k_472, k_565, r_0_0, r_0_1, r_0_2, r_0_3, r_0_4, r_0_5, r_67_0, r_465_0, r_467_0, r_467_2, r_470_0, r_470_1, va_rf_s, n_neg_t, n_neg_f, kM0 hp, kM1 hp, kM2 hp, kM3 hp, kM4 hp, kM5 hp, kMd hp, kMa hp, rM0_0 hp, rM0_2 hp, rM0_3 hp, rM0_4 hp, rM0_5 hp, rM0_6 hp, rM0_7 hp, rM1 hp, rMd hp, m1]
    exact q2 (by unfold findI; omega)
  | succ d ih =>
    intro k hk q1 q2
    obtain ⟨b1, b2, b3, b4⟩ := hG.2.2 k (by omega)
    have hh := head_min b2 b1
    have hh1 := (b4 _ hh.1).1
    have l1 := hm (13 + (G.2 k).headD 0) (by omega)
    obtain ⟨⟨d1, -⟩, d2⟩ := h.2 k (by omega)
    unfold hdA at d2
    unfold findI at q1 q2
    rw [v41_2]
    by_cases e1 : A (13 + (G.2 k).headD 0) = A (13 + i)
    · by_cases e2 : (G.2 k).length < A 2
      · have e : fitG A i (G.2 k) = true := by unfold fitG; rw [Bool.and_eq_true]; exact ⟨beq_iff_eq.mpr e1, decide_eq_true e2⟩
        rw [e] at q1
        simp (disch := omega) only [v41_3, v41_4, v41_7, v41_10, v41_11, v41_14, v41_15, v41_16, v41_19, v41_20, v41_23, v41_24, v41_27, v41_28, v41_29, v41_32, v41_33, v41_36, v41_37, v41_38, v41_41, v41_44, v41_45, v41_48, v41_49, v41_50, v41_53, v41_54, v41_55, v41_56, v41_59, v41_60, v41_63, v41_64, v41_65, v41_66, v41_69, v41_70, v41_71, v41_72, v41_73, v41_76, v41_77, n_cl, n_in_t, n_lt_t, n_lt_f, n_eq_t, n_eq_f, n_sub, nI_add, n_mul, n_01, ↓reduceIte, if_true, if_false, eq_self, true_or, or_true, and_self, and_true, true_and, Nat.reduceAdd, Nat.reduceMul, Nat.reduceLeDiff, Nat.zero_le, not_true_eq_false, not_false_eq_true, cat2_n, cat2_i, cat2_r, ws_0, ws_i, ws_r, ws_l, ws_d, aftr_n, aftr_s, bI_ok, bI_t, bI_f, up_s, up_n, n_bit, decide_true, decide_false, Bool.not_true, Bool.not_false, Bool.and_true, Bool.true_and, Bool.false_and, Bool.and_false, va_rf_s, n_nlt0, k_0, k_67, k_68, k_465, k_466, k_467, k_468, k_469, k_470, k_471, k_472, k_565, r_0_0, r_0_1, r_0_2, r_0_3, r_0_4, r_0_5, r_67_0, r_465_0, r_467_0, r_467_2, r_470_0, r_470_1, va_rf_s, n_neg_t, n_neg_f, kM0 hp, kM1 hp, kM2 hp, kM3 hp, kM4 hp, kM5 hp, kMd hp, kMa hp, rM0_0 hp, rM0_2 hp, rM0_3 hp, rM0_4 hp, rM0_5 hp, rM0_6 hp, rM0_7 hp, rM1 hp, rMd hp, m1, d1, d2]
        exact q1 (by simp only [cond_true]; omega)
      · have e : fitG A i (G.2 k) = false := by unfold fitG; rw [decide_eq_false e2, Bool.and_false]
        rw [e] at q1 q2
        simp (disch := omega) only [v41_3, v41_4, v41_7, v41_10, v41_11, v41_14, v41_15, v41_16, v41_19, v41_20, v41_23, v41_24, v41_27, v41_28, v41_29, v41_32, v41_33, v41_36, v41_37, v41_38, v41_41, v41_44, v41_45, v41_48, v41_49, v41_50, v41_53, v41_54, v41_55, v41_56, v41_59, v41_60, v41_63, v41_64, v41_65, v41_66, v41_69, v41_70, v41_71, v41_72, v41_73, v41_76, v41_77, n_cl, n_in_t, n_lt_t, n_lt_f, n_eq_t, n_eq_f, n_sub, nI_add, n_mul, n_01, ↓reduceIte, if_true, if_false, eq_self, true_or, or_true, and_self, and_true, true_and, Nat.reduceAdd, Nat.reduceMul, Nat.reduceLeDiff, Nat.zero_le, not_true_eq_false, not_false_eq_true, cat2_n, cat2_i, cat2_r, ws_0, ws_i, ws_r, ws_l, ws_d, aftr_n, aftr_s, bI_ok, bI_t, bI_f, up_s, up_n, n_bit, decide_true, decide_false, Bool.not_true, Bool.not_false, Bool.and_true, Bool.true_and, Bool.false_and, Bool.and_false, va_rf_s, n_nlt0, k_0, k_67, k_68, k_465, k_466, k_467, k_468, k_469, k_470, k_471, k_472, k_565, r_0_0, r_0_1, r_0_2, r_0_3, r_0_4, r_0_5, r_67_0, r_465_0, r_467_0, r_467_2, r_470_0, r_470_1, va_rf_s, n_neg_t, n_neg_f, kM0 hp, kM1 hp, kM2 hp, kM3 hp, kM4 hp, kM5 hp, kMd hp, kMa hp, rM0_0 hp, rM0_2 hp, rM0_3 hp, rM0_4 hp, rM0_5 hp, rM0_6 hp, rM0_7 hp, rM1 hp, rMd hp, m1, d1, d2]
        exact ih (k + 1) (by omega) q1 q2
    · have e : fitG A i (G.2 k) = false := by unfold fitG; rw [beq_eq_false_iff_ne.mpr e1, Bool.false_and]
      rw [e] at q1 q2
      simp (disch := omega) only [v41_3, v41_4, v41_7, v41_10, v41_11, v41_14, v41_15, v41_16, v41_19, v41_20, v41_23, v41_24, v41_27, v41_28, v41_29, v41_32, v41_33, v41_36, v41_37, v41_38, v41_41, v41_44, v41_45, v41_48, v41_49, v41_50, v41_53, v41_54, v41_55, v41_56, v41_59, v41_60, v41_63, v41_64, v41_65, v41_66, v41_69, v41_70, v41_71, v41_72, v41_73, v41_76, v41_77, n_cl, n_in_t, n_lt_t, n_lt_f, n_eq_t, n_eq_f, n_sub, nI_add, n_mul, n_01, ↓reduceIte, if_true, if_false, eq_self, true_or, or_true, and_self, and_true, true_and, Nat.reduceAdd, Nat.reduceMul, Nat.reduceLeDiff, Nat.zero_le, not_true_eq_false, not_false_eq_true, cat2_n, cat2_i, cat2_r, ws_0, ws_i, ws_r, ws_l, ws_d, aftr_n, aftr_s, bI_ok, bI_t, bI_f, up_s, up_n, n_bit, decide_true, decide_false, Bool.not_true, Bool.not_false, Bool.and_true, Bool.true_and, Bool.false_and, Bool.and_false, va_rf_s, n_nlt0, k_0, k_67, k_68, k_465, k_466, k_467, k_468, k_469, k_470, k_471, k_472, k_565, r_0_0, r_0_1, r_0_2, r_0_3, r_0_4, r_0_5, r_67_0, r_465_0, r_467_0, r_467_2, r_470_0, r_470_1, va_rf_s, n_neg_t, n_neg_f, kM0 hp, kM1 hp, kM2 hp, kM3 hp, kM4 hp, kM5 hp, kMd hp, kMa hp, rM0_0 hp, rM0_2 hp, rM0_3 hp, rM0_4 hp, rM0_5 hp, rM0_6 hp, rM0_7 hp, rM1 hp, rMd hp, m1, d1, d2]
      exact ih (k + 1) (by omega) q1 q2
theorem c41 (hp : isM p) (hg : Good A) (hm : Sm A) (hi : i < A 6) (hG : OKG A i G) (h : DG b I p A G.1 G.2 (hdA A G.2)) (hQ : ∀ I', DG b I' p A (insG A G i).1 G.2 (fun k => if k = gix A G i then A (13 + i) else hdA A G.2 k) → Ag (pDf p) b I I' → Q (.inl (some (.int (nI (gix A G i))))) (KAt KL b, I', RAt RL b q, L, sz, ex)) :
    X z 41 0 [some (.ref (ad b p)), some (.int (nI (A (13 + i)))), some (.int (nI (A 2))), none] [] (0, 0) (KAt KL b, I, RAt RL b q, L, sz, ex) Q := by
  have h6 := hg.1.1
  have g1 := hG.1
  have pb := isM_b hp
  simp (disch := omega) only [v41_0, v41_1, n_cl, n_in_t, n_lt_t, n_lt_f, n_eq_t, n_eq_f, n_sub, nI_add, n_mul, n_01, ↓reduceIte, if_true, if_false, eq_self, true_or, or_true, and_self, and_true, true_and, Nat.reduceAdd, Nat.reduceMul, Nat.reduceLeDiff, Nat.zero_le, not_true_eq_false, not_false_eq_true, cat2_n, cat2_i, cat2_r, ws_0, ws_i, ws_r, ws_l, ws_d, aftr_n, aftr_s, bI_ok, bI_t, bI_f, up_s, up_n, n_bit, decide_true, decide_false, Bool.not_true, Bool.not_false, Bool.and_true, Bool.true_and, Bool.false_and, Bool.and_false, va_rf_s, n_nlt0, k_0, k_67, k_68, k_465, k_466, k_467, k_468, k_469, k_470, k_471, k_472, k_565, r_0_0, r_0_1, r_0_2, r_0_3, r_0_4, r_0_5, r_67_0, r_465_0, r_467_0, r_467_2, r_470_0, r_470_1, va_rf_s, n_neg_t, n_neg_f]
  refine l41 hp hg hm hi hG h G.1 0 (by omega) (fun e => hQ I ?_ Ag.rf) (fun e => ?_)
  · have e' : gix A G i < G.1 := e
    unfold insG
    rw [if_pos e']
    refine ⟨h.1, fun k hk => ⟨(h.2 k hk).1, ?_⟩⟩
    dsimp only
    by_cases ek : k = gix A G i
    · rw [if_pos ek]
      have ok := gix_ok e'
      unfold fitG at ok
      rw [Bool.and_eq_true, beq_iff_eq] at ok
      rw [← ok.1, (h.2 k hk).2, ek]
      rfl
    · rw [if_neg ek]; exact (h.2 k hk).2
  · have e' : gix A G i = G.1 := e
    rw [e'] at hQ
    refine hQ _ ?_ (((Ag.rf.up (Or.inr ⟨by omega, by omega⟩)).up (Or.inr ⟨by omega, by omega⟩)).up (Or.inl ⟨rfl, rfl⟩))
    unfold insG
    rw [if_neg (by omega)]
    refine ⟨up_s, fun k hk => ?_⟩
    dsimp only at hk ⊢
    by_cases ek : k = G.1
    · subst ek
      rw [if_pos rfl, hG.2.1 _ (Nat.le_refl _)]
      exact ⟨⟨by rw [up_n (by omega), up_s]; rfl, fun j hj => absurd hj (Nat.not_lt_zero _)⟩, by rw [up_n (by omega), up_n (by omega), up_s]⟩
    · rw [if_neg ek]
      have := h.2 k (by omega)
      exact ⟨⟨by rw [up_n (by omega), up_n (by omega), up_n (by omega)]; exact this.1.1, fun j hj => by rw [up_n (by omega), up_n (by omega), up_n (by omega)]; exact this.1.2 j hj⟩, by rw [up_n (by omega), up_n (by omega), up_n (by omega)]; exact this.2⟩
theorem c21 {k v : Nat} {g : List Nat} (hp : isM p) (hk : k < 20) (hl : g.length < 6) (h : DR b I (p + 6 + 2 * k) (p + 7 + 2 * k) g) : X z 21 0 [some (.ref (ad b (p + 6 + 2 * k))), some (.int (nI v))] [] (0, 0) (KAt KL b, I, RAt RL b q, L, sz, ex) Q = Q (.inl none) (KAt KL b, up2 (up2 I (ad b (p + 7 + 2 * k)) g.length (nI v)) (ad b (p + 6 + 2 * k)) 1 (nI (g.length + 1)), RAt RL b q, L, sz, ex) := by
  have h1 := h.1
  simp (disch := omega) only [v21_0, v21_1, v21_4, v21_6, v21_9, v21_10, v21_13, v21_14, v21_17, v21_18, v21_19, v21_20, v21_20i, v21_21, v21_24, v21_25, v21_26, v21_29, n_cl, n_in_t, n_lt_t, n_lt_f, n_eq_t, n_eq_f, n_sub, nI_add, n_mul, n_01, ↓reduceIte, if_true, if_false, eq_self, true_or, or_true, and_self, and_true, true_and, Nat.reduceAdd, Nat.reduceMul, Nat.reduceLeDiff, Nat.zero_le, not_true_eq_false, not_false_eq_true, cat2_n, cat2_i, cat2_r, ws_0, ws_i, ws_r, ws_l, ws_d, aftr_n, aftr_s, bI_ok, bI_t, bI_f, up_s, up_n, n_bit, decide_true, decide_false, Bool.not_true, Bool.not_false, Bool.and_true, Bool.true_and, Bool.false_and, Bool.and_false, va_rf_s, n_nlt0, k_0, k_67, k_68, k_465, k_466, k_467, k_468, k_469, k_470, k_471, k_472, k_565, r_0_0, r_0_1, r_0_2, r_0_3, r_0_4, r_0_5, r_67_0, r_465_0, r_467_0, r_467_2, r_470_0, r_470_1, va_rf_s, n_neg_t, n_neg_f, kM0 hp, kM1 hp, kM2 hp, kM3 hp, kM4 hp, kM5 hp, kMd hp, kMa hp, rM0_0 hp, rM0_2 hp, rM0_3 hp, rM0_4 hp, rM0_5 hp, rM0_6 hp, rM0_7 hp, rM1 hp, rMd hp, h1]
set_option maxHeartbeats 8000000 in
theorem l40 {st : Nat} (hs : isS s) (hp : isM p) (hg : Good A) (hm : Sm A) (hst : KAt KL b (ad b st) = (20, 6)) (hstn : st < p ∨ p + 46 ≤ st) : ∀ d i I (x4 x5 : Option Value), cat2 x4 = false → i + d = A 6 → SP b I s A → ST b I st A → DG b I p A (grp A i).1 (grp A i).2 (hdA A (grp A i).2) → (∀ j, j < i → I (ad b (p + 2)) j = nI (reas A j (A 8)) ∧ I (ad b (p + 3)) j = nI (lof A j)) →
    (∀ I', DG b I' p A (grps A).1 (grps A).2 (hdA A (grps A).2) → (∀ j, j < A 6 → I' (ad b (p + 2)) j = nI (reas A j (A 8)) ∧ I' (ad b (p + 3)) j = nI (lof A j)) → Ag (pDv p) b I I' → Q (.inl none) (KAt KL b, I', RAt RL b q, L, sz, ex)) →
    X z 40 7 [some (.ref (ad b p)), some (.ref (ad b s)), some (.ref (ad b st)), some (.int (nI i)), x4, x5] [] (0, 0) (KAt KL b, I, RAt RL b q, L, sz, ex) Q := by
  have h6 := hg.1.1
  have h7 := hg.1.2.1
  have h8 := hg.1.2.2.2
  have h26 := hg.2.1
  have sb := isS_b hs
  have pb := isM_b hp
  intro d
  induction d with
  | zero =>
    intro i I x4 x5 hx4 hi hsp hs2 hd hr hQ
    have m6 := hsp.1.1
    have e : i = A 6 := by omega
    subst e
    rw [v40_7]
    simp (disch := omega) only [v40_8, v40_9, v40_12, v40_15, v40_16, v40_19, v40_20, v40_21, v40_23, v40_24, v40_27, v40_28, v40_29, v40_30, v40_33, v40_35, v40_36, v40_37, u40_38, v40_41, v40_42, v40_43, v40_46, v40_47, v40_48, v40_49, v40_50, v40_53, v40_54, v40_55, v40_58, v40_59, v40_61, v40_64, v40_65, v40_66, u40_67, v40_70, v40_72, v40_73, v40_76, v40_77, v40_79, v40_80, v40_81, v40_84, v40_86, v40_87, u40_88, v40_91, v40_94, v40_97, n_cl, n_in_t, n_lt_t, n_lt_f, n_eq_t, n_eq_f, n_sub, nI_add, n_mul, n_01, ↓reduceIte, if_true, if_false, eq_self, true_or, or_true, and_self, and_true, true_and, Nat.reduceAdd, Nat.reduceMul, Nat.reduceLeDiff, Nat.zero_le, not_true_eq_false, not_false_eq_true, cat2_n, cat2_i, cat2_r, ws_0, ws_i, ws_r, ws_l, ws_d, aftr_n, aftr_s, bI_ok, bI_t, bI_f, up_s, up_n, n_bit, decide_true, decide_false, Bool.not_true, Bool.not_false, Bool.and_true, Bool.true_and, Bool.false_and, Bool.and_false, va_rf_s, n_nlt0, k_0, k_67, k_68, k_465, k_466, k_467, k_468, k_469, k_470, k_471, k_472, k_565, r_0_0, r_0_1, r_0_2, r_0_3, r_0_4, r_0_5, r_67_0, r_465_0, r_467_0, r_467_2, r_470_0, r_470_1, va_rf_s, n_neg_t, n_neg_f, kS0 hs, kS1 hs, kS2 hs, kS3 hs, kS4 hs, kS5 hs, kSp hs, kSn hs, kSw hs, kSl hs, rS0_0 hs, rS0_2 hs, rS0_4 hs, rS0_5 hs, rS3_0 hs, rS1 hs, rS2 hs, rSp hs, rSw hs, m6]
    exact hQ I hd hr Ag.rf
  | succ d ih =>
    intro i I x4 x5 hx4 hi hsp hs2 hd hr hQ
    have m6 := hsp.1.1
    have m8 := hsp.1.2.2.1
    have s3 := hs2 3 (by omega)
    have s2' := hs2 2 (by omega)
    have rl := reas_le (A := A) (p := i) (d := A 8)
    have hG := okg (A := A) (by omega) i
    rw [v40_7]
    simp (disch := omega) only [v40_8, v40_9, v40_12, v40_15, v40_16, v40_19, v40_20, v40_21, v40_23, v40_24, v40_27, v40_28, v40_29, v40_30, v40_33, v40_35, v40_36, v40_37, u40_38, n_cl, n_in_t, n_lt_t, n_lt_f, n_eq_t, n_eq_f, n_sub, nI_add, n_mul, n_01, ↓reduceIte, if_true, if_false, eq_self, true_or, or_true, and_self, and_true, true_and, Nat.reduceAdd, Nat.reduceMul, Nat.reduceLeDiff, Nat.zero_le, not_true_eq_false, not_false_eq_true, cat2_n, cat2_i, cat2_r, ws_0, ws_i, ws_r, ws_l, ws_d, aftr_n, aftr_s, bI_ok, bI_t, bI_f, up_s, up_n, n_bit, decide_true, decide_false, Bool.not_true, Bool.not_false, Bool.and_true, Bool.true_and, Bool.false_and, Bool.and_false, va_rf_s, n_nlt0, k_0, k_67, k_68, k_465, k_466, k_467, k_468, k_469, k_470, k_471, k_472, k_565, r_0_0, r_0_1, r_0_2, r_0_3, r_0_4, r_0_5, r_67_0, r_465_0, r_467_0, r_467_2, r_470_0, r_470_1, va_rf_s, n_neg_t, n_neg_f, kS0 hs, kS1 hs, kS2 hs, kS3 hs, kS4 hs, kS5 hs, kSp hs, kSn hs, kSw hs, kSl hs, rS0_0 hs, rS0_2 hs, rS0_4 hs, rS0_5 hs, rS3_0 hs, rS1 hs, rS2 hs, rSp hs, rSw hs, kM0 hp, kM1 hp, kM2 hp, kM3 hp, kM4 hp, kM5 hp, kMd hp, kMa hp, rM0_0 hp, rM0_2 hp, rM0_3 hp, rM0_4 hp, rM0_5 hp, rM0_6 hp, rM0_7 hp, rM1 hp, rMd hp, m6, m8, s3, hst, c49 hs hg hm (show i < A 6 by omega) (Nat.le_refl _) (show A 8 ≤ 20000 by omega) hsp]
    have a1 : Ag (pDv p) b I (up2 (up2 I (ad b (p + 2)) i (nI (reas A i (A 8)))) (ad b (p + 3)) i (nI 4294967295)) := (Ag.rf.up (Or.inr (Or.inl ⟨by omega, by omega⟩))).up (Or.inr (Or.inl ⟨by omega, by omega⟩))
    have sp1 := hsp.ag h6 h7 a1 (fun o j x y z => by unfold pDv at z; omega)
    have st1 := hs2.ag a1 (fun j z => by unfold pDv at z; omega)
    have a1' : Ag (fun o _ => o = p + 2 ∨ o = p + 3) b I (up2 (up2 I (ad b (p + 2)) i (nI (reas A i (A 8)))) (ad b (p + 3)) i (nI 4294967295)) := (Ag.rf.up (Or.inl rfl)).up (Or.inr rfl)
    have dg1 := hd.ag (by have := hG.1; omega) a1' (by omega) (fun o j x y _ z => by omega)
    by_cases e : reas A i (A 8) = 0
    · have adr := (sp1.2.1 i (by omega)).2.1
      have st2 := st1 2 (by omega)
      rw [e] at adr st2 dg1 a1 sp1 st1 ⊢
      simp (disch := omega) only [v40_41, v40_42, v40_43, v40_46, v40_47, v40_48, v40_49, v40_50, v40_53, v40_54, v40_55, v40_58, v40_59, v40_61, v40_64, v40_65, v40_66, u40_67, n_cl, n_in_t, n_lt_t, n_lt_f, n_eq_t, n_eq_f, n_sub, nI_add, n_mul, n_01, ↓reduceIte, if_true, if_false, eq_self, true_or, or_true, and_self, and_true, true_and, Nat.reduceAdd, Nat.reduceMul, Nat.reduceLeDiff, Nat.zero_le, not_true_eq_false, not_false_eq_true, cat2_n, cat2_i, cat2_r, ws_0, ws_i, ws_r, ws_l, ws_d, aftr_n, aftr_s, bI_ok, bI_t, bI_f, up_s, up_n, n_bit, decide_true, decide_false, Bool.not_true, Bool.not_false, Bool.and_true, Bool.true_and, Bool.false_and, Bool.and_false, va_rf_s, n_nlt0, k_0, k_67, k_68, k_465, k_466, k_467, k_468, k_469, k_470, k_471, k_472, k_565, r_0_0, r_0_1, r_0_2, r_0_3, r_0_4, r_0_5, r_67_0, r_465_0, r_467_0, r_467_2, r_470_0, r_470_1, va_rf_s, n_neg_t, n_neg_f, kS0 hs, kS1 hs, kS2 hs, kS3 hs, kS4 hs, kS5 hs, kSp hs, kSn hs, kSw hs, kSl hs, rS0_0 hs, rS0_2 hs, rS0_4 hs, rS0_5 hs, rS3_0 hs, rS1 hs, rS2 hs, rSp hs, rSw hs, kM0 hp, kM1 hp, kM2 hp, kM3 hp, kM4 hp, kM5 hp, kMd hp, kMa hp, rM0_0 hp, rM0_2 hp, rM0_3 hp, rM0_4 hp, rM0_5 hp, rM0_6 hp, rM0_7 hp, rM1 hp, rMd hp, hst, hx4, adr, st2]
      refine c41 hp hg hm (show i < A 6 by omega) hG dg1 (fun I1 g1 g2 => ?_)
      have gl := gix_le (A := A) (G := grp A i) (p := i)
      have gle : gix A (grp A i) i < (insG A (grp A i) i).1 := by unfold insG; dsimp only; split <;> omega
      have hins := hG.ins (by omega) e
      have i1 := hins.1
      have hl6 : ((grp A i).2 (gix A (grp A i) i)).length < 6 := by
        by_cases e2 : gix A (grp A i) i < (grp A i).1
        · have := gix_ok e2
          unfold fitG at this
          rw [Bool.and_eq_true, decide_eq_true_eq] at this
          omega
        · rw [hG.2.1 _ (by omega)]; exact Nat.zero_lt_succ _
      have dr := (g1.2 _ gle).1
      have fr2 : Ag (pDv p) b I (up2 I1 (ad b (p + 3)) i (nI (gix A (grp A i) i))) := (a1.tr (g2.mn pDf_v)).up (Or.inr (Or.inl ⟨by omega, by omega⟩))
      have dr2 : DR b (up2 I1 (ad b (p + 3)) i (nI (gix A (grp A i) i))) (p + 6 + 2 * gix A (grp A i) i) (p + 7 + 2 * gix A (grp A i) i) ((grp A i).2 (gix A (grp A i) i)) := ⟨by rw [up_n (by omega)]; exact dr.1, fun j hj => by rw [up_n (by omega)]; exact dr.2 j hj⟩
      simp (disch := omega) only [v40_70, v40_72, v40_73, v40_76, v40_77, v40_79, v40_80, v40_81, v40_84, v40_86, v40_87, u40_88, v40_91, v40_94, n_cl, n_in_t, n_lt_t, n_lt_f, n_eq_t, n_eq_f, n_sub, nI_add, n_mul, n_01, ↓reduceIte, if_true, if_false, eq_self, true_or, or_true, and_self, and_true, true_and, Nat.reduceAdd, Nat.reduceMul, Nat.reduceLeDiff, Nat.zero_le, not_true_eq_false, not_false_eq_true, cat2_n, cat2_i, cat2_r, ws_0, ws_i, ws_r, ws_l, ws_d, aftr_n, aftr_s, bI_ok, bI_t, bI_f, up_s, up_n, n_bit, decide_true, decide_false, Bool.not_true, Bool.not_false, Bool.and_true, Bool.true_and, Bool.false_and, Bool.and_false, va_rf_s, n_nlt0, k_0, k_67, k_68, k_465, k_466, k_467, k_468, k_469, k_470, k_471, k_472, k_565, r_0_0, r_0_1, r_0_2, r_0_3, r_0_4, r_0_5, r_67_0, r_465_0, r_467_0, r_467_2, r_470_0, r_470_1, va_rf_s, n_neg_t, n_neg_f, kM0 hp, kM1 hp, kM2 hp, kM3 hp, kM4 hp, kM5 hp, kMd hp, kMa hp, rM0_0 hp, rM0_2 hp, rM0_3 hp, rM0_4 hp, rM0_5 hp, rM0_6 hp, rM0_7 hp, rM1 hp, rMd hp, c21 hp (show gix A (grp A i) i < 20 by omega) hl6 dr2]
      have fr3 := (fr2.up (o := p + 7 + 2 * gix A (grp A i) i) (j := ((grp A i).2 (gix A (grp A i) i)).length) (v := nI i) (Or.inr (Or.inr ⟨by omega, by omega⟩))).up (o := p + 6 + 2 * gix A (grp A i) i) (j := 1) (v := nI (((grp A i).2 (gix A (grp A i) i)).length + 1)) (Or.inr (Or.inr ⟨by omega, by omega⟩))
      have eg : grp A (i + 1) = insG A (grp A i) i := by show (if _ then _ else _) = _; rw [if_pos e]
      refine ih (i + 1) _ _ _ rfl (by omega) (hsp.ag h6 h7 fr3 (fun o j x y z => by unfold pDv at z; omega)) (hs2.ag fr3 (fun j z => by unfold pDv at z; omega)) ?_ (fun j hj => ?_) (fun I2 q1 q2 q3 => hQ I2 q1 q2 (fr3.tr q3))
      · rw [eg]
        refine ⟨by rw [up_n (by omega), up_n (by omega), up_n (by omega)]; exact g1.1, fun k hk => ?_⟩
        have gk := g1.2 k hk
        dsimp only at gk
        by_cases ek : k = gix A (grp A i) i
        · have e4 : (insG A (grp A i) i).2 k = (grp A i).2 k ++ [i] := by unfold insG; dsimp only; rw [if_pos ek]
          rw [e4, ← ek]
          refine ⟨⟨by rw [up_s, List.length_append, List.length_singleton], fun j hj => ?_⟩, ?_⟩
          · rw [List.length_append, List.length_singleton] at hj
            rw [up_n (by omega), getD_snoc]
            by_cases ej : j = ((grp A i).2 k).length
            · rw [ej, up_s, if_neg (by omega), if_pos rfl]
            · rw [if_pos (by omega), up_n (by omega), up_n (by omega)]
              exact gk.1.2 j (by omega)
          · rw [up_n (by omega), up_n (by omega), up_n (by omega), gk.2, if_pos ek]
            have h3 := (hins.2.2 k hk).2.2.2 i (by rw [e4]; simp)
            rw [h3.2.2]
            rfl
        · have e4 : (insG A (grp A i) i).2 k = (grp A i).2 k := by unfold insG; dsimp only; rw [if_neg ek]
          rw [e4]
          refine ⟨⟨by rw [up_n (by omega), up_n (by omega), up_n (by omega)]; exact gk.1.1, fun j hj => by rw [up_n (by omega), up_n (by omega), up_n (by omega)]; exact gk.1.2 j hj⟩, ?_⟩
          rw [up_n (by omega), up_n (by omega), up_n (by omega), gk.2, if_neg ek]
          unfold hdA
          rw [e4]
      · by_cases ej : j = i
        · subst ej
          refine ⟨?_, ?_⟩
          · rw [up_n (by omega), up_n (by omega), up_n (by omega), g2.at (fun z => by unfold pDf at z; omega), up_n (by omega), up_s, e]
          · rw [up_n (by omega), up_n (by omega), up_s]
            unfold lof
            rw [if_pos e]
        · have := hr j (by omega)
          refine ⟨?_, ?_⟩
          · rw [up_n (by omega), up_n (by omega), up_n (by omega), g2.at (fun z => by unfold pDf at z; omega), up_n (by omega), up_n (by omega)]; exact this.1
          · rw [up_n (by omega), up_n (by omega), up_n (by omega), g2.at (fun z => by unfold pDf at z; omega), up_n (by omega), up_n (by omega)]; exact this.2
    · have eg : grp A (i + 1) = grp A i := by show (if _ then _ else _) = _; rw [if_neg e]
      simp (disch := omega) only [v40_41, v40_42, v40_43, v40_46, v40_47, v40_48, v40_49, v40_50, v40_53, v40_54, v40_55, v40_58, v40_59, v40_61, v40_64, v40_65, v40_66, u40_67, v40_70, v40_72, v40_73, v40_76, v40_77, v40_79, v40_80, v40_81, v40_84, v40_86, v40_87, u40_88, v40_91, v40_94, n_cl, n_in_t, n_lt_t, n_lt_f, n_eq_t, n_eq_f, n_sub, nI_add, n_mul, n_01, ↓reduceIte, if_true, if_false, eq_self, true_or, or_true, and_self, and_true, true_and, Nat.reduceAdd, Nat.reduceMul, Nat.reduceLeDiff, Nat.zero_le, not_true_eq_false, not_false_eq_true, cat2_n, cat2_i, cat2_r, ws_0, ws_i, ws_r, ws_l, ws_d, aftr_n, aftr_s, bI_ok, bI_t, bI_f, up_s, up_n, n_bit, decide_true, decide_false, Bool.not_true, Bool.not_false, Bool.and_true, Bool.true_and, Bool.false_and, Bool.and_false, va_rf_s, n_nlt0, k_0, k_67, k_68, k_465, k_466, k_467, k_468, k_469, k_470, k_471, k_472, k_565, r_0_0, r_0_1, r_0_2, r_0_3, r_0_4, r_0_5, r_67_0, r_465_0, r_467_0, r_467_2, r_470_0, r_470_1, va_rf_s, n_neg_t, n_neg_f, kS0 hs, kS1 hs, kS2 hs, kS3 hs, kS4 hs, kS5 hs, kSp hs, kSn hs, kSw hs, kSl hs, rS0_0 hs, rS0_2 hs, rS0_4 hs, rS0_5 hs, rS3_0 hs, rS1 hs, rS2 hs, rSp hs, rSw hs, kM0 hp, kM1 hp, kM2 hp, kM3 hp, kM4 hp, kM5 hp, kMd hp, kMa hp, rM0_0 hp, rM0_2 hp, rM0_3 hp, rM0_4 hp, rM0_5 hp, rM0_6 hp, rM0_7 hp, rM1 hp, rMd hp, hx4]
      refine ih (i + 1) _ _ _ rfl (by omega) sp1 st1 (by rw [eg]; exact dg1) (fun j hj => ?_) (fun I2 q1 q2 q3 => hQ I2 q1 q2 (a1.tr q3))
      by_cases ej : j = i
      · subst ej
        exact ⟨by rw [up_n (by omega), up_s], by rw [up_s, lof_0 e]⟩
      · have := hr j (by omega)
        exact ⟨by rw [up_n (by omega), up_n (by omega)]; exact this.1, by rw [up_n (by omega), up_n (by omega)]; exact this.2⟩
theorem c40 {st : Nat} (hs : isS s) (hp : isM p) (hg : Good A) (hm : Sm A) (hst : KAt KL b (ad b st) = (20, 6)) (hstn : st < p ∨ p + 46 ≤ st) (hsp : SP b I s A) (hs2 : ST b I st A) (hQ : ∀ I', DG b I' p A (grps A).1 (grps A).2 (hdA A (grps A).2) → (∀ j, j < A 6 → I' (ad b (p + 2)) j = nI (reas A j (A 8)) ∧ I' (ad b (p + 3)) j = nI (lof A j)) → Ag (pDv p) b I I' → Q (.inl none) (KAt KL b, I', RAt RL b q, L, sz, ex)) :
    X z 40 0 [some (.ref (ad b p)), some (.ref (ad b s)), some (.ref (ad b st)), none, none, none] [] (0, 0) (KAt KL b, I, RAt RL b q, L, sz, ex) Q := by
  have h6 := hg.1.1
  have h7 := hg.1.2.1
  have sb := isS_b hs
  have pb := isM_b hp
  have a1 : Ag (pDv p) b I (up2 I (ad b p) 1 (nI 0)) := Ag.rf.up (Or.inl ⟨rfl, rfl⟩)
  simp (disch := omega) only [v40_0, v40_1, v40_2, v40_5, v40_6, n_cl, n_in_t, n_lt_t, n_lt_f, n_eq_t, n_eq_f, n_sub, nI_add, n_mul, n_01, ↓reduceIte, if_true, if_false, eq_self, true_or, or_true, and_self, and_true, true_and, Nat.reduceAdd, Nat.reduceMul, Nat.reduceLeDiff, Nat.zero_le, not_true_eq_false, not_false_eq_true, cat2_n, cat2_i, cat2_r, ws_0, ws_i, ws_r, ws_l, ws_d, aftr_n, aftr_s, bI_ok, bI_t, bI_f, up_s, up_n, n_bit, decide_true, decide_false, Bool.not_true, Bool.not_false, Bool.and_true, Bool.true_and, Bool.false_and, Bool.and_false, va_rf_s, n_nlt0, k_0, k_67, k_68, k_465, k_466, k_467, k_468, k_469, k_470, k_471, k_472, k_565, r_0_0, r_0_1, r_0_2, r_0_3, r_0_4, r_0_5, r_67_0, r_465_0, r_467_0, r_467_2, r_470_0, r_470_1, va_rf_s, n_neg_t, n_neg_f, kM0 hp, kM1 hp, kM2 hp, kM3 hp, kM4 hp, kM5 hp, kMd hp, kMa hp, rM0_0 hp, rM0_2 hp, rM0_3 hp, rM0_4 hp, rM0_5 hp, rM0_6 hp, rM0_7 hp, rM1 hp, rMd hp]
  exact l40 hs hp hg hm hst hstn (A 6) 0 _ none none rfl (by omega) (hsp.ag h6 h7 a1 (fun o j x y z => by unfold pDv at z; omega)) (hs2.ag a1 (fun j z => by unfold pDv at z; omega)) ⟨up_s, fun k hk => absurd hk (Nat.not_lt_zero _)⟩ (fun j hj => absurd hj (Nat.not_lt_zero _)) (fun I2 q1 q2 q3 => hQ I2 q1 q2 (a1.tr q3))
end CK
