/-! THE CLASS: all letters prepared -/
theorem SP.set {b : Nat} {I : Nat → Nat → Int32} {s : Nat} {A : Row} {k v : Nat} (h : SP b I s A) (hk : k ≤ 5) : SP b I s (upr A k v) := by
  have nn : ∀ j, 6 ≤ j → upr A k v j = A j := fun j hj => upr_n (by omega)
  have hraw : raw (upr A k v) = raw A := by unfold raw; rw [toks_set hk]
  obtain ⟨⟨a1, a2, a3, a4, a5, a6⟩, a7, a8, a9⟩ := h
  refine ⟨⟨by rw [nn 6 (by omega)]; exact a1, by rw [nn 7 (by omega)]; exact a2, by rw [nn 8 (by omega)]; exact a3, by rw [nn 9 (by omega)]; exact a4, by rw [nn 10 (by omega)]; exact a5, by rw [nn 11 (by omega)]; exact a6⟩, fun i hi => ?_, fun w hw => ?_, ?_⟩
  · rw [nn 6 (by omega)] at hi
    obtain ⟨b1, b2, b3, b4, b5, b6, b7, b8⟩ := a7 i hi
    refine ⟨by rw [nn _ (by omega)]; exact b1, by rw [nn _ (by omega)]; exact b2, by rw [nn _ (by omega)]; exact b3, by rw [nn _ (by omega)]; exact b4, by rw [nn _ (by omega)]; exact b5, by rw [nn _ (by omega)]; exact b6, by rw [nn _ (by omega)]; exact b7, fun j hj => ?_⟩
    rw [nn (133 + i) (by omega)] at hj
    rw [nn _ (by omega)]
    exact b8 j hj
  · rw [nn 7 (by omega)] at hw
    obtain ⟨b1, b2, b3⟩ := a8 w hw
    refine ⟨by rw [nn _ (by omega)]; exact b1, by rw [nn _ (by omega)]; exact b2, fun j hj => ?_⟩
    rw [nn (313 + w) (by omega)] at hj
    rw [nn _ (by omega)]
    exact b3 j hj
  · unfold IR
    rw [hraw]
    exact a9
/-- the reason noted once the drafts below k are measured -/
def rsK (A : Row) (k i : Nat) : Nat := if reas A i (A 8) = 0 ∧ lof A i < k then rsn A i else reas A i (A 8)
def DL (b : Nat) (I : Nat → Nat → Int32) (o : Nat) (A : Row) (g : List Nat) : Prop := I (ad b o) 3 = nI (textT A g).length ∧ I (ad b o) 4 = nI (linesT A g) ∧ I (ad b o) 5 = nI (pagesT A g)
/-- the plan of the drafts below k -/
def PM (b : Nat) (I : Nat → Nat → Int32) (p : Nat) (A : Row) (k : Nat) : Prop := DG b I p A (grps A).1 (grps A).2 (hdA A (grps A).2) ∧ (∀ j, j < k → DL b I (p + 6 + 2 * j) A ((grps A).2 j)) ∧ (∀ i, i < A 6 → I (ad b (p + 2)) i = nI (rsK A k i) ∧ I (ad b (p + 3)) i = nI (lof A i)) ∧ I (ad b p) 8 = nI (sumF (totF A 0) 0 k) ∧ I (ad b p) 9 = nI (sumF (totF A 1) 0 k) ∧ I (ad b p) 10 = nI (sumF (totF A 2) 0 k)
/-- the whole plan -/
def MZ (b : Nat) (I : Nat → Nat → Int32) (p : Nat) (A : Row) : Prop := DG b I p A (grps A).1 (grps A).2 (hdA A (grps A).2) ∧ (∀ j, j < (grps A).1 → DL b I (p + 6 + 2 * j) A ((grps A).2 j)) ∧ (∀ i, i < A 6 → I (ad b (p + 2)) i = nI (rsn A i) ∧ I (ad b (p + 3)) i = nI (lof A i)) ∧ I (ad b p) 8 = nI (totS A 0) ∧ I (ad b p) 9 = nI (totS A 1) ∧ I (ad b p) 10 = nI (totS A 2) ∧ I (ad b p) 11 = nI (totS A 3)
def pMl (p o _j : Nat) : Prop := (467 ≤ o ∧ o ≤ 472) ∨ (p ≤ o ∧ o < p + 46)
theorem tot3 {A : Row} : totS A 3 = totS A 2 * A 5 := by
  unfold totS
  have key : ∀ d i, sumF (fun k => bif sentB A ((grps A).2 k) then (if (3 : Nat) = 0 then 1 else if (3 : Nat) = 1 then ((grps A).2 k).length else if (3 : Nat) = 2 then pagesT A ((grps A).2 k) else pagesT A ((grps A).2 k) * A 5) else 0) i d = sumF (fun k => bif sentB A ((grps A).2 k) then (if (2 : Nat) = 0 then 1 else if (2 : Nat) = 1 then ((grps A).2 k).length else if (2 : Nat) = 2 then pagesT A ((grps A).2 k) else pagesT A ((grps A).2 k) * A 5) else 0) i d * A 5 := by
    intro d
    induction d with
    | zero => intro i; unfold sumF; rw [Nat.zero_mul]
    | succ d ih =>
      intro i
      unfold sumF
      rw [ih (i + 1), Nat.add_mul]
      cases sentB A ((grps A).2 i)
      · simp
      · simp
  exact key _ _
theorem rsK_s {A : Row} {k i : Nat} : rsK A (k + 1) i = if reas A i (A 8) = 0 ∧ lof A i = k then (if sentB A ((grps A).2 k) = true then 0 else 4) else rsK A k i := by
  unfold rsK rsn
  by_cases e : reas A i (A 8) = 0
  · simp only [e, true_and, if_true]
    by_cases e2 : lof A i = k
    · rw [if_pos (show lof A i < k + 1 by omega), if_pos e2, e2]
    · rw [if_neg e2]
      by_cases e3 : lof A i < k
      · rw [if_pos (show lof A i < k + 1 by omega), if_pos e3]
      · rw [if_neg (show ¬ lof A i < k + 1 by omega), if_neg e3]
  · simp only [e, false_and, if_false]
section CL
variable {z : P0} {KL : Nat → Nat × Nat} {RL : Nat → Nat → Option Nat} {q : Nat → Nat} {b : Nat} {I : Nat → Nat → Int32} {L : Nat → Nat → Int64} {sz : Nat} {ex : Bool} {Q : Res → Mem → Prop} {A : Row}
variable {s p i : Nat} {g : List Nat}
def pA4 (p o _j : Nat) : Prop := o = p + 2
theorem l42 {k : Nat} {mp : Nat} (hp : isM p) (hk : k < 20) (hg6 : g.length ≤ 6) (h20 : ∀ x ∈ g, x < 20) : ∀ (r : List Nat) j I, j + r.length = g.length → (∀ m, m < r.length → g.getD (j + m) 0 = r.getD m 0) → DR b I (p + 6 + 2 * k) (p + 7 + 2 * k) g → (∀ I', (∀ i, I' (ad b (p + 2)) i = if i ∈ r then nI 4 else I (ad b (p + 2)) i) → Ag (pA4 p) b I I' → Q (.inl none) (KAt KL b, I', RAt RL b q, L, sz, ex)) →
    X z 42 47 [some (.ref (ad b p)), some (.ref (ad b (p + 6 + 2 * k))), some (.int (nI mp)), some (.int (nI j))] [] (0, 0) (KAt KL b, I, RAt RL b q, L, sz, ex) Q := by
  intro r
  induction r with
  | nil =>
    intro j I hj hr hd hQ
    have d1 := hd.1
    rw [List.length_nil, Nat.add_zero] at hj
    rw [v42_47]
    simp (disch := omega) only [v42_48, v42_49, v42_52, v42_55, v42_56, v42_59, v42_60, v42_63, v42_64, v42_65, v42_66, v42_67, v42_70, v42_73, n_cl, n_in_t, n_lt_t, n_lt_f, n_eq_t, n_eq_f, n_sub, nI_add, n_mul, n_01, ↓reduceIte, if_true, if_false, eq_self, true_or, or_true, and_self, and_true, true_and, Nat.reduceAdd, Nat.reduceMul, Nat.reduceLeDiff, Nat.zero_le, not_true_eq_false, not_false_eq_true, cat2_n, cat2_i, cat2_r, ws_0, ws_i, ws_r, ws_l, ws_d, aftr_n, aftr_s, bI_ok, bI_t, bI_f, up_s, up_n, n_bit, decide_true, decide_false, Bool.not_true, Bool.not_false, Bool.and_true, Bool.true_and, Bool.false_and, Bool.and_false, va_rf_s, n_nlt0, k_0, k_67, k_68, k_465, k_466, k_467, k_468, k_469, k_470, k_471, k_472, k_565, r_0_0, r_0_1, r_0_2, r_0_3, r_0_4, r_0_5, r_67_0, r_465_0, r_467_0, r_467_2, r_470_0, r_470_1, va_rf_s, n_neg_t, n_neg_f, kM0 hp, kM1 hp, kM2 hp, kM3 hp, kM4 hp, kM5 hp, kMd hp, kMa hp, rM0_0 hp, rM0_2 hp, rM0_3 hp, rM0_4 hp, rM0_5 hp, rM0_6 hp, rM0_7 hp, rM1 hp, rMd hp, d1]
    exact hQ I (fun i => by rw [if_neg List.not_mem_nil]) Ag.rf
  | cons c r ih =>
    intro j I hj hr hd hQ
    obtain ⟨hB1, hB2⟩ := getD_tail hr
    rw [List.length_cons] at hj
    have d1 := hd.1
    have d2 := hd.2 j (by omega)
    rw [hB1] at d2
    have hc : c < 20 := h20 c (by rw [← hB1, List.getD_eq_getElem?_getD, List.getElem?_eq_getElem (by omega)]; exact List.getElem_mem _)
    have fr : Ag (pA4 p) b I (up2 I (ad b (p + 2)) c (nI 4)) := Ag.rf.up rfl
    rw [v42_47]
    simp (disch := omega) only [v42_48, v42_49, v42_52, v42_55, v42_56, v42_59, v42_60, v42_63, v42_64, v42_65, v42_66, v42_67, v42_70, v42_73, n_cl, n_in_t, n_lt_t, n_lt_f, n_eq_t, n_eq_f, n_sub, nI_add, n_mul, n_01, ↓reduceIte, if_true, if_false, eq_self, true_or, or_true, and_self, and_true, true_and, Nat.reduceAdd, Nat.reduceMul, Nat.reduceLeDiff, Nat.zero_le, not_true_eq_false, not_false_eq_true, cat2_n, cat2_i, cat2_r, ws_0, ws_i, ws_r, ws_l, ws_d, aftr_n, aftr_s, bI_ok, bI_t, bI_f, up_s, up_n, n_bit, decide_true, decide_false, Bool.not_true, Bool.not_false, Bool.and_true, Bool.true_and, Bool.false_and, Bool.and_false, va_rf_s, n_nlt0, k_0, k_67, k_68, k_465, k_466, k_467, k_468, k_469, k_470, k_471, k_472, k_565, r_0_0, r_0_1, r_0_2, r_0_3, r_0_4, r_0_5, r_67_0, r_465_0, r_467_0, r_467_2, r_470_0, r_470_1, va_rf_s, n_neg_t, n_neg_f, kM0 hp, kM1 hp, kM2 hp, kM3 hp, kM4 hp, kM5 hp, kMd hp, kMa hp, rM0_0 hp, rM0_2 hp, rM0_3 hp, rM0_4 hp, rM0_5 hp, rM0_6 hp, rM0_7 hp, rM1 hp, rMd hp, d1, d2]
    refine ih (j + 1) _ (by omega) hB2 (hd.ag fr (fun _ x => by unfold pA4 at x; omega) (fun _ x => by unfold pA4 at x; omega)) (fun I2 q1 q2 => hQ I2 (fun i => ?_) (fr.tr q2))
    rw [q1 i]
    by_cases e : i ∈ r
    · rw [if_pos e, if_pos (List.mem_cons_of_mem _ e)]
    · rw [if_neg e]
      by_cases e2 : i = c
      · rw [if_pos (by rw [e2]; exact List.mem_cons_self), e2, up_s]
      · rw [if_neg (fun x => (List.mem_cons.mp x).elim e2 e), up_n (by omega)]
set_option maxHeartbeats 8000000 in
theorem l38 {st : Nat} (hs : isS s) (hp : isM p) (hg : Good A) (hm : Sm A) (hst : KAt KL b (ad b st) = (20, 6)) (hstn : st < 467 ∨ 565 ≤ st) : ∀ d k I (x4 : Option Value), k + d = (grps A).1 → SZ KL RL b I z → SP b I s A → ST b I st A → PM b I p A k → (∀ I', MZ b I' p A → Ag (pMl p) b I I' → Q (.inl none) (KAt KL b, I', RAt RL b q, L, sz, ex)) →
    X z 38 23 [some (.ref (ad b p)), some (.ref (ad b s)), some (.ref (ad b st)), some (.int (nI k)), x4] [] (0, 0) (KAt KL b, I, RAt RL b q, L, sz, ex) Q := by
  have h6 := hg.1.1
  have h7 := hg.1.2.1
  have h26 := hg.2.1
  have hn := grps_le hg
  have sb := isS_b hs
  have pb := isM_b hp
  intro d
  induction d with
  | zero =>
    intro k I x4 hk hz hsp hs2 hP hQ
    obtain ⟨p1, p2, p3, p4, p5, p6⟩ := hP
    have m1 := p1.1
    have s5 := hs2 5 (by omega)
    have e : k = (grps A).1 := by omega
    subst e
    rw [v38_23]
    simp (disch := omega) only [v38_24, v38_25, v38_28, v38_31, v38_32, v38_35, v38_36, v38_37, v38_39, v38_40, v38_43, v38_44, u38_46, v38_49, v38_50, v38_53, v38_54, v38_57, v38_60, v38_61, v38_64, u38_67, v38_70, v38_71, v38_74, v38_75, v38_76, v38_77, v38_78, v38_79, u38_80, v38_83, v38_85, v38_86, v38_89, v38_92, v38_95, v38_97, v38_98, v38_101, v38_104, v38_107, v38_109, v38_110, v38_113, v38_116, v38_119, v38_120, v38_122, v38_123, v38_124, u38_125, v38_128, v38_131, v38_134, v38_135, v38_136, v38_139, v38_140, v38_141, v38_142, v38_143, v38_146, n_cl, n_in_t, n_lt_t, n_lt_f, n_eq_t, n_eq_f, n_sub, nI_add, n_mul, n_01, ↓reduceIte, if_true, if_false, eq_self, true_or, or_true, and_self, and_true, true_and, Nat.reduceAdd, Nat.reduceMul, Nat.reduceLeDiff, Nat.zero_le, not_true_eq_false, not_false_eq_true, cat2_n, cat2_i, cat2_r, ws_0, ws_i, ws_r, ws_l, ws_d, aftr_n, aftr_s, bI_ok, bI_t, bI_f, up_s, up_n, n_bit, decide_true, decide_false, Bool.not_true, Bool.not_false, Bool.and_true, Bool.true_and, Bool.false_and, Bool.and_false, va_rf_s, n_nlt0, k_0, k_67, k_68, k_465, k_466, k_467, k_468, k_469, k_470, k_471, k_472, k_565, r_0_0, r_0_1, r_0_2, r_0_3, r_0_4, r_0_5, r_67_0, r_465_0, r_467_0, r_467_2, r_470_0, r_470_1, va_rf_s, n_neg_t, n_neg_f, kM0 hp, kM1 hp, kM2 hp, kM3 hp, kM4 hp, kM5 hp, kMd hp, kMa hp, rM0_0 hp, rM0_2 hp, rM0_3 hp, rM0_4 hp, rM0_5 hp, rM0_6 hp, rM0_7 hp, rM1 hp, rMd hp, m1, p6, s5, hst]
    refine hQ _ ⟨p1.ag (F := fun o j => o = p ∧ j = 11) (by omega) (Ag.rf.up ⟨rfl, rfl⟩) (by omega) (fun o j x y _ z => by omega), fun j hj => ?_, fun i hi => ?_, ?_, ?_, ?_, ?_⟩ (Ag.rf.up (Or.inr ⟨by omega, by omega⟩))
    · have := p2 j hj
      exact ⟨by rw [up_n (by omega)]; exact this.1, by rw [up_n (by omega)]; exact this.2.1, by rw [up_n (by omega)]; exact this.2.2⟩
    · have := p3 i hi
      refine ⟨?_, by rw [up_n (by omega)]; exact this.2⟩
      rw [up_n (by omega), this.1]
      congr 1
      unfold rsK
      by_cases e : reas A i (A 8) = 0
      · rw [if_pos ⟨e, lof_lt hg (A 6) i hi e⟩]
      · rw [if_neg (fun x => e x.1)]
        unfold rsn
        rw [if_neg e]
    · rw [up_n (by omega)]; exact p4
    · rw [up_n (by omega)]; exact p5
    · rw [up_n (by omega)]; exact p6
    · rw [up_s, tot3]; rfl
  | succ d ih =>
    intro k I x4 hk hz hsp hs2 hP hQ
    obtain ⟨p1, p2, p3, p4, p5, p6⟩ := hP
    have m1 := p1.1
    have hk2 : k < (grps A).1 := by omega
    have ok := grps_ok hg hk2
    have tl := textT_len hg ok
    have bd := lay_bd hg ok
    obtain ⟨dr, dadr⟩ := p1.2 k hk2
    rw [v38_23]
    simp (disch := omega) only [v38_24, v38_25, v38_28, v38_31, v38_32, v38_35, v38_36, v38_37, v38_39, v38_40, v38_43, v38_44, u38_46, n_cl, n_in_t, n_lt_t, n_lt_f, n_eq_t, n_eq_f, n_sub, nI_add, n_mul, n_01, ↓reduceIte, if_true, if_false, eq_self, true_or, or_true, and_self, and_true, true_and, Nat.reduceAdd, Nat.reduceMul, Nat.reduceLeDiff, Nat.zero_le, not_true_eq_false, not_false_eq_true, cat2_n, cat2_i, cat2_r, ws_0, ws_i, ws_r, ws_l, ws_d, aftr_n, aftr_s, bI_ok, bI_t, bI_f, up_s, up_n, n_bit, decide_true, decide_false, Bool.not_true, Bool.not_false, Bool.and_true, Bool.true_and, Bool.false_and, Bool.and_false, va_rf_s, n_nlt0, k_0, k_67, k_68, k_465, k_466, k_467, k_468, k_469, k_470, k_471, k_472, k_565, r_0_0, r_0_1, r_0_2, r_0_3, r_0_4, r_0_5, r_67_0, r_465_0, r_467_0, r_467_2, r_470_0, r_470_1, va_rf_s, n_neg_t, n_neg_f, kM0 hp, kM1 hp, kM2 hp, kM3 hp, kM4 hp, kM5 hp, kMd hp, kMa hp, rM0_0 hp, rM0_2 hp, rM0_3 hp, rM0_4 hp, rM0_5 hp, rM0_6 hp, rM0_7 hp, rM1 hp, rMd hp, m1]
    refine c10 hs hp (show k < 20 by omega) hg ok hz ⟨hsp, dr⟩ (fun I1 t1 g1 => ?_)
    have t11 := t1.1
    simp (disch := omega) only [v38_49, v38_50, v38_53, v38_54, v38_57, v38_60, v38_61, v38_64, u38_67, n_cl, n_in_t, n_lt_t, n_lt_f, n_eq_t, n_eq_f, n_sub, nI_add, n_mul, n_01, ↓reduceIte, if_true, if_false, eq_self, true_or, or_true, and_self, and_true, true_and, Nat.reduceAdd, Nat.reduceMul, Nat.reduceLeDiff, Nat.zero_le, not_true_eq_false, not_false_eq_true, cat2_n, cat2_i, cat2_r, ws_0, ws_i, ws_r, ws_l, ws_d, aftr_n, aftr_s, bI_ok, bI_t, bI_f, up_s, up_n, n_bit, decide_true, decide_false, Bool.not_true, Bool.not_false, Bool.and_true, Bool.true_and, Bool.false_and, Bool.and_false, va_rf_s, n_nlt0, k_0, k_67, k_68, k_465, k_466, k_467, k_468, k_469, k_470, k_471, k_472, k_565, r_0_0, r_0_1, r_0_2, r_0_3, r_0_4, r_0_5, r_67_0, r_465_0, r_467_0, r_467_2, r_470_0, r_470_1, va_rf_s, n_neg_t, n_neg_f, kM0 hp, kM1 hp, kM2 hp, kM3 hp, kM4 hp, kM5 hp, kMd hp, kMa hp, rM0_0 hp, rM0_2 hp, rM0_3 hp, rM0_4 hp, rM0_5 hp, rM0_6 hp, rM0_7 hp, rM1 hp, rMd hp, t11]
    refine c33 tl (fun c hc => textF_lt hg ok (toks A) false (toks_ok hg) c hc) (pcs_le hg ok) t1.2 (fun I2 z2 g2 => ?_)
    have fr2 : Ag (fun o _ => 467 ≤ o ∧ o ≤ 472) b I I2 := (g1.mn (fun o j x => by unfold pCz at x; omega)).tr (g2.mn (fun o j x => by unfold pRd at x; omega))
    have hs3 := hs2.ag fr2 (fun j x => by omega)
    have s0 := hs3 0 (by omega)
    have s1 := hs3 1 (by omega)
    simp (disch := omega) only [v38_70, v38_71, v38_74, v38_75, v38_76, v38_77, v38_78, v38_79, u38_80, n_cl, n_in_t, n_lt_t, n_lt_f, n_eq_t, n_eq_f, n_sub, nI_add, n_mul, n_01, ↓reduceIte, if_true, if_false, eq_self, true_or, or_true, and_self, and_true, true_and, Nat.reduceAdd, Nat.reduceMul, Nat.reduceLeDiff, Nat.zero_le, not_true_eq_false, not_false_eq_true, cat2_n, cat2_i, cat2_r, ws_0, ws_i, ws_r, ws_l, ws_d, aftr_n, aftr_s, bI_ok, bI_t, bI_f, up_s, up_n, n_bit, decide_true, decide_false, Bool.not_true, Bool.not_false, Bool.and_true, Bool.true_and, Bool.false_and, Bool.and_false, va_rf_s, n_nlt0, k_0, k_67, k_68, k_465, k_466, k_467, k_468, k_469, k_470, k_471, k_472, k_565, r_0_0, r_0_1, r_0_2, r_0_3, r_0_4, r_0_5, r_67_0, r_465_0, r_467_0, r_467_2, r_470_0, r_470_1, va_rf_s, n_neg_t, n_neg_f, kM0 hp, kM1 hp, kM2 hp, kM3 hp, kM4 hp, kM5 hp, kMd hp, kMa hp, rM0_0 hp, rM0_2 hp, rM0_3 hp, rM0_4 hp, rM0_5 hp, rM0_6 hp, rM0_7 hp, rM1 hp, rMd hp, hst, s0, s1]
    refine c34 (W := A 0) (H := A 1) (by omega) (by omega) tl (pcs_le hg ok) z2 (fun I3 l1 l2 g3 => ?_)
    have fr3 : Ag (fun o _ => 467 ≤ o ∧ o ≤ 472) b I I3 := fr2.tr (g3.mn (fun o j x => by unfold pFt at x; omega))
    have t13 : I3 (ad b 467) 1 = nI (textT A ((grps A).2 k)).length := (g3.at (fun x => by unfold pFt at x; omega)).trans ((g2.at (fun x => by unfold pRd at x; omega)).trans t11)
    have l1' : I3 (ad b 470) 3 = nI (linesT A ((grps A).2 k)) := l1
    have l2' : I3 (ad b 470) 4 = nI (pagesT A ((grps A).2 k)) := l2
    have s4 := (hs2.ag fr3 (fun j x => by omega)) 4 (by omega)
    simp (disch := omega) only [v38_83, v38_85, v38_86, v38_89, v38_92, v38_95, v38_97, v38_98, v38_101, v38_104, v38_107, v38_109, v38_110, v38_113, v38_116, v38_119, v38_120, v38_122, v38_123, v38_124, u38_125, n_cl, n_in_t, n_lt_t, n_lt_f, n_eq_t, n_eq_f, n_sub, nI_add, n_mul, n_01, ↓reduceIte, if_true, if_false, eq_self, true_or, or_true, and_self, and_true, true_and, Nat.reduceAdd, Nat.reduceMul, Nat.reduceLeDiff, Nat.zero_le, not_true_eq_false, not_false_eq_true, cat2_n, cat2_i, cat2_r, ws_0, ws_i, ws_r, ws_l, ws_d, aftr_n, aftr_s, bI_ok, bI_t, bI_f, up_s, up_n, n_bit, decide_true, decide_false, Bool.not_true, Bool.not_false, Bool.and_true, Bool.true_and, Bool.false_and, Bool.and_false, va_rf_s, n_nlt0, k_0, k_67, k_68, k_465, k_466, k_467, k_468, k_469, k_470, k_471, k_472, k_565, r_0_0, r_0_1, r_0_2, r_0_3, r_0_4, r_0_5, r_67_0, r_465_0, r_467_0, r_467_2, r_470_0, r_470_1, va_rf_s, n_neg_t, n_neg_f, kM0 hp, kM1 hp, kM2 hp, kM3 hp, kM4 hp, kM5 hp, kMd hp, kMa hp, rM0_0 hp, rM0_2 hp, rM0_3 hp, rM0_4 hp, rM0_5 hp, rM0_6 hp, rM0_7 hp, rM1 hp, rMd hp, hst, t13, l1', l2', s4]
    have fr4 : Ag (fun o j => (467 ≤ o ∧ o ≤ 472) ∨ (o = p + 6 + 2 * k ∧ 3 ≤ j)) b I (up2 (up2 (up2 I3 (ad b (p + 6 + 2 * k)) 3 (nI (textT A ((grps A).2 k)).length)) (ad b (p + 6 + 2 * k)) 4 (nI (linesT A ((grps A).2 k)))) (ad b (p + 6 + 2 * k)) 5 (nI (pagesT A ((grps A).2 k)))) := (((fr3.mn (fun o j x => Or.inl x)).up (Or.inr ⟨rfl, by omega⟩)).up (Or.inr ⟨rfl, by omega⟩)).up (Or.inr ⟨rfl, by omega⟩)
    have dl : DL b (up2 (up2 (up2 I3 (ad b (p + 6 + 2 * k)) 3 (nI (textT A ((grps A).2 k)).length)) (ad b (p + 6 + 2 * k)) 4 (nI (linesT A ((grps A).2 k)))) (ad b (p + 6 + 2 * k)) 5 (nI (pagesT A ((grps A).2 k)))) (p + 6 + 2 * k) A ((grps A).2 k) := ⟨by rw [up_n (by omega), up_n (by omega), up_s], by rw [up_n (by omega), up_s], up_s⟩
    generalize up2 (up2 (up2 I3 (ad b (p + 6 + 2 * k)) 3 (nI (textT A ((grps A).2 k)).length)) (ad b (p + 6 + 2 * k)) 4 (nI (linesT A ((grps A).2 k)))) (ad b (p + 6 + 2 * k)) 5 (nI (pagesT A ((grps A).2 k))) = I4 at fr4 dl ⊢
    have dg4 := p1.ag (by omega) fr4 (by omega) (fun o j x y e z => by omega)
    have k8 : I4 (ad b p) 8 = _ := (fr4.at (by omega)).trans p4
    have k9 : I4 (ad b p) 9 = _ := (fr4.at (by omega)).trans p5
    have k10 : I4 (ad b p) 10 = _ := (fr4.at (by omega)).trans p6
    obtain ⟨dr4, -⟩ := dg4.2 k hk2
    have dr41 := dr4.1
    have dl5 := dl.2.2
    have r4 : ∀ i, i < A 6 → I4 (ad b (p + 2)) i = nI (rsK A k i) ∧ I4 (ad b (p + 3)) i = nI (lof A i) := fun i hi => ⟨(fr4.at (by omega)).trans (p3 i hi).1, (fr4.at (by omega)).trans (p3 i hi).2⟩
    have dlj : ∀ j, j < k → DL b I4 (p + 6 + 2 * j) A ((grps A).2 j) := fun j hj => ⟨(fr4.at (by omega)).trans (p2 j hj).1, (fr4.at (by omega)).trans (p2 j hj).2.1, (fr4.at (by omega)).trans (p2 j hj).2.2⟩
    have fr5 : Ag (pMl p) b I I4 := fr4.mn (fun o j x => by unfold pMl; omega)
    have memk : ∀ i, i < A 6 → (i ∈ (grps A).2 k ↔ reas A i (A 8) = 0 ∧ lof A i = k) := fun i hi => (mem_lof (A 6) k i).trans ⟨fun x => x.2, fun x => ⟨hi, x⟩⟩
    have ss : ∀ w, sumF (totF A w) 0 (k + 1) = sumF (totF A w) 0 k + totF A w k := fun w => by rw [sumF_snoc, Nat.zero_add]
    by_cases e : pagesT A ((grps A).2 k) ≤ A 4
    · have sb1 : sentB A ((grps A).2 k) = true := decide_eq_true e
      have f0 : totF A 0 k = 1 := by unfold totF; rw [sb1]; rfl
      have f1 : totF A 1 k = ((grps A).2 k).length := by unfold totF; rw [sb1]; rfl
      have f2 : totF A 2 k = pagesT A ((grps A).2 k) := by unfold totF; rw [sb1]; rfl
      simp (disch := omega) only [v42_0, v42_1, v42_4, v42_5, v42_8, v42_9, v42_9i, v42_10, v42_13, v42_14, v42_15, v42_18, v42_19, v42_19i, v42_20, v42_23, v42_24, v42_27, v42_28, v42_31, v42_32, v42_32i, v42_33, v42_36, v42_37, v42_40, v42_41, v42_44, v42_45, v42_46, v42_47, v42_48, v42_49, v42_52, v42_55, v42_56, v42_59, v42_60, v42_63, v42_64, v42_65, v42_66, v42_67, v42_70, v42_73, n_cl, n_in_t, n_lt_t, n_lt_f, n_eq_t, n_eq_f, n_sub, nI_add, n_mul, n_01, ↓reduceIte, if_true, if_false, eq_self, true_or, or_true, and_self, and_true, true_and, Nat.reduceAdd, Nat.reduceMul, Nat.reduceLeDiff, Nat.zero_le, not_true_eq_false, not_false_eq_true, cat2_n, cat2_i, cat2_r, ws_0, ws_i, ws_r, ws_l, ws_d, aftr_n, aftr_s, bI_ok, bI_t, bI_f, up_s, up_n, n_bit, decide_true, decide_false, Bool.not_true, Bool.not_false, Bool.and_true, Bool.true_and, Bool.false_and, Bool.and_false, va_rf_s, n_nlt0, k_0, k_67, k_68, k_465, k_466, k_467, k_468, k_469, k_470, k_471, k_472, k_565, r_0_0, r_0_1, r_0_2, r_0_3, r_0_4, r_0_5, r_67_0, r_465_0, r_467_0, r_467_2, r_470_0, r_470_1, va_rf_s, n_neg_t, n_neg_f, kM0 hp, kM1 hp, kM2 hp, kM3 hp, kM4 hp, kM5 hp, kMd hp, kMa hp, rM0_0 hp, rM0_2 hp, rM0_3 hp, rM0_4 hp, rM0_5 hp, rM0_6 hp, rM0_7 hp, rM1 hp, rMd hp, dl5, dr41, k8, k9, k10, v38_128, v38_131]
      have fr6 : Ag (fun o j => o = p ∧ 8 ≤ j) b I4 (up2 (up2 (up2 I4 (ad b p) 8 (nI (sumF (totF A 0) 0 k + 1))) (ad b p) 9 (nI (sumF (totF A 1) 0 k + ((grps A).2 k).length))) (ad b p) 10 (nI (sumF (totF A 2) 0 k + pagesT A ((grps A).2 k)))) := ((Ag.rf.up ⟨rfl, by omega⟩).up ⟨rfl, by omega⟩).up ⟨rfl, by omega⟩
      have fr7 := fr5.tr (fr6.mn (P' := pMl p) (fun o j x => by unfold pMl; omega))
      refine ih (k + 1) _ _ (by omega) (hz.ag fr7) (hsp.ag h6 h7 fr7 (fun o j x y w => by unfold pMl at w; omega)) (hs2.ag fr7 (fun j w => by unfold pMl at w; omega)) ⟨dg4.ag (by omega) fr6 (by omega) (fun o j x y _ w => by omega), fun j hj => ?_, fun i hi => ?_, ?_, ?_, ?_⟩ (fun I5 q1 q2 => hQ I5 q1 (fr7.tr q2))
      · by_cases ej : j = k
        · subst ej
          exact ⟨(fr6.at (by omega)).trans dl.1, (fr6.at (by omega)).trans dl.2.1, (fr6.at (by omega)).trans dl.2.2⟩
        · have := dlj j (by omega)
          exact ⟨(fr6.at (by omega)).trans this.1, (fr6.at (by omega)).trans this.2.1, (fr6.at (by omega)).trans this.2.2⟩
      · refine ⟨(fr6.at (by omega)).trans ((r4 i hi).1.trans ?_), (fr6.at (by omega)).trans (r4 i hi).2⟩
        rw [rsK_s, sb1]
        by_cases e2 : reas A i (A 8) = 0 ∧ lof A i = k
        · rw [if_pos e2, if_pos rfl]
          unfold rsK
          rw [if_neg (fun x => by omega), e2.1]
        · rw [if_neg e2]
      · rw [up_n (by omega), up_n (by omega), up_s, ss, f0]
      · rw [up_n (by omega), up_s, ss, f1]
      · rw [up_s, ss, f2]
    · have sb1 : sentB A ((grps A).2 k) = false := decide_eq_false e
      have f0 : ∀ w, totF A w k = 0 := fun w => by unfold totF; rw [sb1]; rfl
      have h4 := hs2
      simp (disch := omega) only [v42_0, v42_1, v42_4, v42_5, v42_8, v42_9, v42_9i, v42_10, v42_13, v42_14, v42_15, v42_18, v42_19, v42_19i, v42_20, v42_23, v42_24, v42_27, v42_28, v42_31, v42_32, v42_32i, v42_33, v42_36, v42_37, v42_40, v42_41, v42_44, v42_45, v42_46, n_cl, n_in_t, n_lt_t, n_lt_f, n_eq_t, n_eq_f, n_sub, nI_add, n_mul, n_01, ↓reduceIte, if_true, if_false, eq_self, true_or, or_true, and_self, and_true, true_and, Nat.reduceAdd, Nat.reduceMul, Nat.reduceLeDiff, Nat.zero_le, not_true_eq_false, not_false_eq_true, cat2_n, cat2_i, cat2_r, ws_0, ws_i, ws_r, ws_l, ws_d, aftr_n, aftr_s, bI_ok, bI_t, bI_f, up_s, up_n, n_bit, decide_true, decide_false, Bool.not_true, Bool.not_false, Bool.and_true, Bool.true_and, Bool.false_and, Bool.and_false, va_rf_s, n_nlt0, k_0, k_67, k_68, k_465, k_466, k_467, k_468, k_469, k_470, k_471, k_472, k_565, r_0_0, r_0_1, r_0_2, r_0_3, r_0_4, r_0_5, r_67_0, r_465_0, r_467_0, r_467_2, r_470_0, r_470_1, va_rf_s, n_neg_t, n_neg_f, kM0 hp, kM1 hp, kM2 hp, kM3 hp, kM4 hp, kM5 hp, kMd hp, kMa hp, rM0_0 hp, rM0_2 hp, rM0_3 hp, rM0_4 hp, rM0_5 hp, rM0_6 hp, rM0_7 hp, rM1 hp, rMd hp, dl5]
      refine l42 hp (show k < 20 by omega) ok.2.2.2.1 (fun x hx => by have := ok.2.2.1 x hx; omega) ((grps A).2 k) 0 I4 (by omega) (fun j _ => by rw [Nat.zero_add]) dr4 (fun I5 q1 q2 => ?_)
      simp (disch := omega) only [n_cl, n_in_t, n_lt_t, n_lt_f, n_eq_t, n_eq_f, n_sub, nI_add, n_mul, n_01, ↓reduceIte, if_true, if_false, eq_self, true_or, or_true, and_self, and_true, true_and, Nat.reduceAdd, Nat.reduceMul, Nat.reduceLeDiff, Nat.zero_le, not_true_eq_false, not_false_eq_true, cat2_n, cat2_i, cat2_r, ws_0, ws_i, ws_r, ws_l, ws_d, aftr_n, aftr_s, bI_ok, bI_t, bI_f, up_s, up_n, n_bit, decide_true, decide_false, Bool.not_true, Bool.not_false, Bool.and_true, Bool.true_and, Bool.false_and, Bool.and_false, va_rf_s, n_nlt0, k_0, k_67, k_68, k_465, k_466, k_467, k_468, k_469, k_470, k_471, k_472, k_565, r_0_0, r_0_1, r_0_2, r_0_3, r_0_4, r_0_5, r_67_0, r_465_0, r_467_0, r_467_2, r_470_0, r_470_1, va_rf_s, n_neg_t, n_neg_f, v38_128, v38_131]
      have fr7 := fr5.tr (q2.mn (P' := pMl p) (fun o j x => by unfold pA4 at x; unfold pMl; omega))
      refine ih (k + 1) _ _ (by omega) (hz.ag fr7) (hsp.ag h6 h7 fr7 (fun o j x y w => by unfold pMl at w; omega)) (hs2.ag fr7 (fun j w => by unfold pMl at w; omega)) ⟨dg4.ag (by omega) q2 (by unfold pA4; omega) (fun o j x y _ w => by unfold pA4 at w; omega), fun j hj => ?_, fun i hi => ?_, ?_, ?_, ?_⟩ (fun I6 q3 q4 => hQ I6 q3 (fr7.tr q4))
      · by_cases ej : j = k
        · subst ej
          exact ⟨(q2.at (by unfold pA4; omega)).trans dl.1, (q2.at (by unfold pA4; omega)).trans dl.2.1, (q2.at (by unfold pA4; omega)).trans dl.2.2⟩
        · have := dlj j (by omega)
          exact ⟨(q2.at (by unfold pA4; omega)).trans this.1, (q2.at (by unfold pA4; omega)).trans this.2.1, (q2.at (by unfold pA4; omega)).trans this.2.2⟩
      · refine ⟨?_, (q2.at (by unfold pA4; omega)).trans (r4 i hi).2⟩
        rw [q1 i, rsK_s, sb1]
        by_cases e2 : reas A i (A 8) = 0 ∧ lof A i = k
        · rw [if_pos ((memk i hi).mpr e2), if_pos e2, if_neg (by decide)]
        · rw [if_neg (fun x => e2 ((memk i hi).mp x)), if_neg e2]
          exact (r4 i hi).1
      · rw [q2.at (by unfold pA4; omega), ss, f0, Nat.add_zero]; exact k8
      · rw [q2.at (by unfold pA4; omega), ss, f0, Nat.add_zero]; exact k9
      · rw [q2.at (by unfold pA4; omega), ss, f0, Nat.add_zero]; exact k10
/-- Mailing.prepare -/
theorem c38 {st : Nat} (hs : isS s) (hp : isM p) (hg : Good A) (hm : Sm A) (hst : KAt KL b (ad b st) = (20, 6)) (hstn : st < 467 ∨ 565 ≤ st) (hz : SZ KL RL b I z) (hsp : SP b I s A) (hs2 : ST b I st A) (hQ : ∀ I', MZ b I' p A → Ag (pMl p) b I I' → Q (.inl none) (KAt KL b, I', RAt RL b q, L, sz, ex)) :
    X z 38 0 [some (.ref (ad b p)), some (.ref (ad b s)), some (.ref (ad b st)), none, none] [] (0, 0) (KAt KL b, I, RAt RL b q, L, sz, ex) Q := by
  have h6 := hg.1.1
  have h7 := hg.1.2.1
  have sb := isS_b hs
  have pb := isM_b hp
  have a1 : Ag (pMl p) b I (up2 (up2 (up2 I (ad b p) 8 (nI 0)) (ad b p) 9 (nI 0)) (ad b p) 10 (nI 0)) := ((Ag.rf.up (Or.inr ⟨by omega, by omega⟩)).up (Or.inr ⟨by omega, by omega⟩)).up (Or.inr ⟨by omega, by omega⟩)
  simp (disch := omega) only [v38_0, v38_1, v38_2, v38_5, v38_6, v38_7, v38_10, v38_11, v38_12, v38_15, v38_16, v38_17, u38_18, n_cl, n_in_t, n_lt_t, n_lt_f, n_eq_t, n_eq_f, n_sub, nI_add, n_mul, n_01, ↓reduceIte, if_true, if_false, eq_self, true_or, or_true, and_self, and_true, true_and, Nat.reduceAdd, Nat.reduceMul, Nat.reduceLeDiff, Nat.zero_le, not_true_eq_false, not_false_eq_true, cat2_n, cat2_i, cat2_r, ws_0, ws_i, ws_r, ws_l, ws_d, aftr_n, aftr_s, bI_ok, bI_t, bI_f, up_s, up_n, n_bit, decide_true, decide_false, Bool.not_true, Bool.not_false, Bool.and_true, Bool.true_and, Bool.false_and, Bool.and_false, va_rf_s, n_nlt0, k_0, k_67, k_68, k_465, k_466, k_467, k_468, k_469, k_470, k_471, k_472, k_565, r_0_0, r_0_1, r_0_2, r_0_3, r_0_4, r_0_5, r_67_0, r_465_0, r_467_0, r_467_2, r_470_0, r_470_1, va_rf_s, n_neg_t, n_neg_f, kM0 hp, kM1 hp, kM2 hp, kM3 hp, kM4 hp, kM5 hp, kMd hp, kMa hp, rM0_0 hp, rM0_2 hp, rM0_3 hp, rM0_4 hp, rM0_5 hp, rM0_6 hp, rM0_7 hp, rM1 hp, rMd hp]
  refine c40 hs hp hg hm hst (by omega) (hsp.ag h6 h7 a1 (fun o j x y w => by unfold pMl at w; omega)) (hs2.ag a1 (fun j w => by unfold pMl at w; omega)) (fun I1 d1 r1 g1 => ?_)
  simp (disch := omega) only [v38_21, v38_22, n_cl, n_in_t, n_lt_t, n_lt_f, n_eq_t, n_eq_f, n_sub, nI_add, n_mul, n_01, ↓reduceIte, if_true, if_false, eq_self, true_or, or_true, and_self, and_true, true_and, Nat.reduceAdd, Nat.reduceMul, Nat.reduceLeDiff, Nat.zero_le, not_true_eq_false, not_false_eq_true, cat2_n, cat2_i, cat2_r, ws_0, ws_i, ws_r, ws_l, ws_d, aftr_n, aftr_s, bI_ok, bI_t, bI_f, up_s, up_n, n_bit, decide_true, decide_false, Bool.not_true, Bool.not_false, Bool.and_true, Bool.true_and, Bool.false_and, Bool.and_false, va_rf_s, n_nlt0, k_0, k_67, k_68, k_465, k_466, k_467, k_468, k_469, k_470, k_471, k_472, k_565, r_0_0, r_0_1, r_0_2, r_0_3, r_0_4, r_0_5, r_67_0, r_465_0, r_467_0, r_467_2, r_470_0, r_470_1, va_rf_s, n_neg_t, n_neg_f]
  have fr := a1.tr (g1.mn (P' := pMl p) (fun o j x => by unfold pDv at x; unfold pMl; omega))
  refine l38 hs hp hg hm hst hstn (grps A).1 0 I1 none (by omega) (hz.ag fr) (hsp.ag h6 h7 fr (fun o j x y w => by unfold pMl at w; omega)) (hs2.ag fr (fun j w => by unfold pMl at w; omega)) ⟨d1, fun j hj => absurd hj (Nat.not_lt_zero _), fun i hi => ⟨?_, (r1 i hi).2⟩, ?_, ?_, ?_⟩ (fun I2 q1 q2 => hQ I2 q1 (fr.tr q2))
  · rw [(r1 i hi).1]
    unfold rsK
    rw [if_neg (fun x => Nat.not_lt_zero _ x.2)]
  · rw [g1.at (fun x => by unfold pDv at x; omega), up_n (by omega), up_n (by omega), up_s]; rfl
  · rw [g1.at (fun x => by unfold pDv at x; omega), up_n (by omega), up_s]; rfl
  · rw [g1.at (fun x => by unfold pDv at x; omega), up_s]; rfl
end CL
