/-! THE REFERENCE: groups, all letters, sums -/
def GZ (b : Nat) (I : Nat → Nat → Int32) (n : Nat) (G : Nat → List Nat) : Prop := I (ad b 566) 12 = nI n ∧ ∀ k, k < n → I (ad b 570) k = nI (maskL (G k)) ∧ I (ad b 571) k = nI (G k).length
def pGr (o j : Nat) : Prop := (o = 566 ∧ j = 12) ∨ o = 570 ∨ o = 571 ∨ o = 575
def pGf (o j : Nat) : Prop := (o = 566 ∧ j = 12) ∨ o = 570 ∨ o = 571
theorem pGf_r : ∀ o j, pGf o j → pGr o j := fun o j h => by unfold pGf at h; unfold pGr; omega
theorem reas_le {A : Row} {p d : Nat} : reas A p d ≤ 3 := by unfold reas; split <;> (try split) <;> (try split) <;> omega
def pScr (o j : Nat) : Prop := (570 ≤ o ∧ o ≤ 576) ∨ (o = 566 ∧ (j = 12 ∨ (14 ≤ j ∧ j ≤ 17)))
theorem okL_of {A : Row} (hg : Good A) {n : Nat} {G : Grp} (h : OKG A n G) (hn : n ≤ A 6) {k : Nat} (hk : k < G.1) : OkL A (G.2 k) := by
  obtain ⟨b1, b2, b3, b4⟩ := h.2.2 k hk
  have h26 := hg.2.1
  refine ⟨b2, b1, fun x hx => by have := (b4 x hx).1; omega, by omega, fun hw x hx => ?_⟩
  have h1 := (b4 x hx).1
  have h2 := (b4 x hx).2.1
  rcases (hg.2.2.1 x (by omega)).2.2.1 with h3 | h3
  · unfold reas at h2
    split at h2
    · omega
    · split at h2
      · omega
      · rw [if_pos ⟨h3, hw⟩] at h2; omega
  · exact h3
theorem textF_lt {A : Row} {g : List Nat} (hg : Good A) (h : OkL A g) : ∀ (T : List Nat) (j : Bool), (∀ t ∈ T, okTok t ∧ (t = 375 → hasW A = true)) → ∀ c ∈ textF A g j T, c < 256
  | [], j, _, c, hc => by unfold textF at hc; exact absurd hc List.not_mem_nil
  | t :: r, j, ht, c, hc => by
    have ih := fun j c hc => textF_lt hg h r j (fun x hx => ht x (List.mem_cons_of_mem _ hx)) c hc
    have ht1 := ht t List.mem_cons_self
    have sq : ∀ (n : Nat) (L : List (List Nat)) (i : Nat), (∀ x ∈ L, ∀ c ∈ x, c < 256) → ∀ c ∈ seqL n i L, c < 256 := by
      intro n L
      induction L with
      | nil => intro i _ c hc; unfold seqL at hc; exact absurd hc List.not_mem_nil
      | cons x r ih2 =>
        intro i hx c hc
        rw [seqL_c] at hc
        rcases List.mem_append.mp hc with hc | hc
        · unfold sepL at hc
          split at hc
          · exact absurd hc List.not_mem_nil
          · split at hc <;> (have := List.mem_singleton.mp hc; omega)
        · rcases List.mem_append.mp hc with hc | hc
          · exact hx x List.mem_cons_self c hc
          · exact ih2 (i + 1) (fun y hy => hx y (List.mem_cons_of_mem _ hy)) c hc
    unfold textF at hc
    split at hc
    · exact ih _ c hc
    · split at hc
      · exact ih _ c hc
      · rcases List.mem_append.mp hc with hc | hc
        · split at hc
          · split at hc
            · have := List.mem_singleton.mp hc; omega
            · unfold fieldT at hc
              split at hc
              · unfold namesT at hc
                refine sq _ _ _ (fun x hx c hc => ?_) c hc
                obtain ⟨p, hp, rfl⟩ := List.mem_map.mp hx
                obtain ⟨k, hk, rfl⟩ := (segF_mem _ _).mp hc
                have := (hg.2.2.1 p (h.2.2.1 p hp)).2.2.2.2.2.2.2 k hk
                rw [Nat.zero_add]
                unfold isLet at this; omega
              · split at hc
                · unfold formT at hc
                  split at hc
                  · rcases List.mem_cons.mp hc with hc | hc
                    · rw [hc]; unfold fsign; split <;> (try split) <;> omega
                    · split at hc
                      · have := List.mem_singleton.mp hc; omega
                      · exact absurd hc List.not_mem_nil
                  · simp at hc; omega
                · split at hc
                  · next he =>
                    have hw := ht1.2 (by have := ht1.1; unfold okTok at this; omega)
                    unfold wordsT at hc
                    refine sq _ _ _ (fun x hx c hc => ?_) c hc
                    obtain ⟨w, hw1, rfl⟩ := List.mem_map.mp hx
                    obtain ⟨p, hp, rfl⟩ := nws_mem _ _ _ hw1
                    unfold wordT at hc
                    rcases List.mem_append.mp hc with hc | hc
                    · unfold artT at hc
                      split at hc
                      · simp at hc; omega
                      · split at hc <;> (simp at hc; omega)
                    · rcases List.mem_cons.mp hc with hc | hc
                      · omega
                      · obtain ⟨k, hk, rfl⟩ := (segF_mem _ _).mp hc
                        have := (hg.2.2.2.1 _ (h.2.2.2.2 hw p hp)).2.2.2 k hk
                        rw [Nat.zero_add]
                        unfold isLet at this; omega
                  · have := List.mem_singleton.mp hc
                    have := h.2.2.2.1
                    omega
          · exact absurd hc List.not_mem_nil
        · exact ih _ c hc
section RH
variable {z : P0} {KL : Nat → Nat × Nat} {RL : Nat → Nat → Option Nat} {q : Nat → Nat} {b : Nat} {I : Nat → Nat → Int32} {L : Nat → Nat → Int64} {sz : Nat} {ex : Bool} {Q : Res → Mem → Prop} {A : Row}
variable {t : List Nat} {G : Grp}
theorem pGr_z : ∀ j, ¬ pGr 567 j := fun j h => by unfold pGr at h; omega
theorem GZ.ag {n : Nat} {F : Nat → List Nat} {P : Nat → Nat → Prop} {I' : Nat → Nat → Int32} (h : GZ b I n F) (hg : Ag P b I I') (h1 : ¬ P 566 12) (h2 : ∀ j, ¬ P 570 j) (h3 : ∀ j, ¬ P 571 j) : GZ b I' n F := ⟨(hg.at h1).trans h.1, fun k hk => ⟨(hg.at (h2 k)).trans (h.2 k hk).1, (hg.at (h3 k)).trans (h.2 k hk).2⟩⟩
set_option maxHeartbeats 4000000 in
theorem l114 {p : Nat} (hg : Good A) (hp : p < A 6) (hG : OKG A p G) (hz : RZ b I A) (hm : GZ b I G.1 G.2) : ∀ d k, k + d = G.1 → (findI (fun k => fitG A p (G.2 k)) k d < G.1 → Q (.inl (some (.int (nI (findI (fun k => fitG A p (G.2 k)) k d))))) (KAt KL b, I, RAt RL b q, L, sz, ex)) →
    (findI (fun k => fitG A p (G.2 k)) k d = G.1 → Q (.inl (some (.int (nI G.1)))) (KAt KL b, up2 (up2 (up2 I (ad b 570) G.1 (nI 0)) (ad b 571) G.1 (nI 0)) (ad b 566) 12 (nI (G.1 + 1)), RAt RL b q, L, sz, ex)) → X z 114 2 [some (.ref (ad b 566)), some (.int (nI p)), some (.int (nI k))] [] (0, 0) (KAt KL b, I, RAt RL b q, L, sz, ex) Q := by
  have h6 := hg.1.1
  have h26 := hg.2.1
  have g1 := hG.1
  have m12 := hm.1
  intro d
  induction d with
  | zero =>
    intro k hk q1 q2
    rw [v114_2]
    simp (disch := omega) only [v114_0, v114_1, v114_3, v114_4, v114_7, v114_10, v114_11, v114_14, v114_16, v114_17, u114_18, v114_21, v114_22, v114_23, v114_24, v114_27, v114_29, v114_30, v114_31, v114_32, v114_35, v114_36, v114_39, v114_40, v114_41, v114_42, v114_45, v114_46, v114_47, v114_50, v114_51, v114_52, v114_55, v114_58, v114_59, v114_62, v114_63, v114_66, v114_67, v114_68, v114_69, v114_72, v114_73, v114_76, v114_77, v114_78, v114_79, v114_79i, v114_80, v114_83, v114_84, v114_85, v114_88, v114_89, v114_92, v114_93, v114_94, k_566, k_567, k_568, k_569, k_570, k_571, k_572, k_573, k_574, k_575, k_576, r_566_0, r_566_2, r_566_4, r_566_6, r_566_7, r_566_8, r_566_9, r_566_10, r_566_11, r_566_13, va_rf_s, n_cl, n_in_t, n_lt_t, n_lt_f, n_eq_t, n_eq_f, n_sub, nI_add, n_mul, ↓reduceIte, if_true, if_false, eq_self, true_or, or_true, and_self, and_true, true_and, Nat.reduceAdd, Nat.reduceMul, Nat.reduceLeDiff, Nat.zero_le, not_true_eq_false, not_false_eq_true, cat2_n, cat2_i, cat2_r, ws_0, ws_i, ws_r, ws_l, ws_d, aftr_n, aftr_s, bI_ok, bI_t, bI_f, up_s, up_n, n_bit, decide_true, decide_false, Bool.not_true, Bool.not_false, Bool.and_true, Bool.true_and, Bool.false_and, Bool.and_false, m12, Nat.add_sub_cancel]
    exact q2 (by unfold findI; omega)
  | succ d ih =>
    intro k hk q1 q2
    obtain ⟨b1, b2, b3, b4⟩ := hG.2.2 k (by omega)
    have hh := head_min b2 b1
    have hh1 := (b4 _ hh.1).1
    have l1 := hz.lt (k := 13 + (G.2 k).headD 0) (by omega)
    have l2 := hz.lt (k := 13 + p) (by omega)
    have mm := hm.2 k (by omega)
    have cc := fun Q => c113 (z := z) (KL := KL) (RL := RL) (q := q) (b := b) (I := I) (L := L) (sz := sz) (ex := ex) (Q := Q) (lt := k) (by omega) b2 b1 (fun x hx => by have := (b4 x hx).1; omega) mm.1
    unfold findI at q1 q2
    rw [v114_2]
    by_cases e1 : A (13 + (G.2 k).headD 0) = A (13 + p)
    · by_cases e2 : (G.2 k).length < A 2
      · have e : fitG A p (G.2 k) = true := by unfold fitG; rw [Bool.and_eq_true]; exact ⟨beq_iff_eq.mpr e1, decide_eq_true e2⟩
        rw [e] at q1
        simp (disch := omega) only [v114_0, v114_1, v114_3, v114_4, v114_7, v114_10, v114_11, v114_14, v114_16, v114_17, u114_18, v114_21, v114_22, v114_23, v114_24, v114_27, v114_29, v114_30, v114_31, v114_32, v114_35, v114_36, v114_39, v114_40, v114_41, v114_42, v114_45, v114_46, v114_47, v114_50, v114_51, v114_52, v114_55, v114_58, v114_59, v114_62, v114_63, v114_66, v114_67, v114_68, v114_69, v114_72, v114_73, v114_76, v114_77, v114_78, v114_79, v114_79i, v114_80, v114_83, v114_84, v114_85, v114_88, v114_89, v114_92, v114_93, v114_94, k_566, k_567, k_568, k_569, k_570, k_571, k_572, k_573, k_574, k_575, k_576, r_566_0, r_566_2, r_566_4, r_566_6, r_566_7, r_566_8, r_566_9, r_566_10, r_566_11, r_566_13, va_rf_s, n_cl, n_in_t, n_lt_t, n_lt_f, n_eq_t, n_eq_f, n_sub, nI_add, n_mul, ↓reduceIte, if_true, if_false, eq_self, true_or, or_true, and_self, and_true, true_and, Nat.reduceAdd, Nat.reduceMul, Nat.reduceLeDiff, Nat.zero_le, not_true_eq_false, not_false_eq_true, cat2_n, cat2_i, cat2_r, ws_0, ws_i, ws_r, ws_l, ws_d, aftr_n, aftr_s, bI_ok, bI_t, bI_f, up_s, up_n, n_bit, decide_true, decide_false, Bool.not_true, Bool.not_false, Bool.and_true, Bool.true_and, Bool.false_and, Bool.and_false, m12, hz.at, cc, mm.2]
        exact q1 (by simp only [cond_true]; omega)
      · have e : fitG A p (G.2 k) = false := by unfold fitG; rw [decide_eq_false e2, Bool.and_false]
        rw [e] at q1 q2
        simp (disch := omega) only [v114_0, v114_1, v114_3, v114_4, v114_7, v114_10, v114_11, v114_14, v114_16, v114_17, u114_18, v114_21, v114_22, v114_23, v114_24, v114_27, v114_29, v114_30, v114_31, v114_32, v114_35, v114_36, v114_39, v114_40, v114_41, v114_42, v114_45, v114_46, v114_47, v114_50, v114_51, v114_52, v114_55, v114_58, v114_59, v114_62, v114_63, v114_66, v114_67, v114_68, v114_69, v114_72, v114_73, v114_76, v114_77, v114_78, v114_79, v114_79i, v114_80, v114_83, v114_84, v114_85, v114_88, v114_89, v114_92, v114_93, v114_94, k_566, k_567, k_568, k_569, k_570, k_571, k_572, k_573, k_574, k_575, k_576, r_566_0, r_566_2, r_566_4, r_566_6, r_566_7, r_566_8, r_566_9, r_566_10, r_566_11, r_566_13, va_rf_s, n_cl, n_in_t, n_lt_t, n_lt_f, n_eq_t, n_eq_f, n_sub, nI_add, n_mul, ↓reduceIte, if_true, if_false, eq_self, true_or, or_true, and_self, and_true, true_and, Nat.reduceAdd, Nat.reduceMul, Nat.reduceLeDiff, Nat.zero_le, not_true_eq_false, not_false_eq_true, cat2_n, cat2_i, cat2_r, ws_0, ws_i, ws_r, ws_l, ws_d, aftr_n, aftr_s, bI_ok, bI_t, bI_f, up_s, up_n, n_bit, decide_true, decide_false, Bool.not_true, Bool.not_false, Bool.and_true, Bool.true_and, Bool.false_and, Bool.and_false, m12, hz.at, cc, mm.2]
        exact ih (k + 1) (by omega) q1 q2
    · have e : fitG A p (G.2 k) = false := by unfold fitG; rw [beq_eq_false_iff_ne.mpr e1, Bool.false_and]
      rw [e] at q1 q2
      simp (disch := omega) only [v114_0, v114_1, v114_3, v114_4, v114_7, v114_10, v114_11, v114_14, v114_16, v114_17, u114_18, v114_21, v114_22, v114_23, v114_24, v114_27, v114_29, v114_30, v114_31, v114_32, v114_35, v114_36, v114_39, v114_40, v114_41, v114_42, v114_45, v114_46, v114_47, v114_50, v114_51, v114_52, v114_55, v114_58, v114_59, v114_62, v114_63, v114_66, v114_67, v114_68, v114_69, v114_72, v114_73, v114_76, v114_77, v114_78, v114_79, v114_79i, v114_80, v114_83, v114_84, v114_85, v114_88, v114_89, v114_92, v114_93, v114_94, k_566, k_567, k_568, k_569, k_570, k_571, k_572, k_573, k_574, k_575, k_576, r_566_0, r_566_2, r_566_4, r_566_6, r_566_7, r_566_8, r_566_9, r_566_10, r_566_11, r_566_13, va_rf_s, n_cl, n_in_t, n_lt_t, n_lt_f, n_eq_t, n_eq_f, n_sub, nI_add, n_mul, ↓reduceIte, if_true, if_false, eq_self, true_or, or_true, and_self, and_true, true_and, Nat.reduceAdd, Nat.reduceMul, Nat.reduceLeDiff, Nat.zero_le, not_true_eq_false, not_false_eq_true, cat2_n, cat2_i, cat2_r, ws_0, ws_i, ws_r, ws_l, ws_d, aftr_n, aftr_s, bI_ok, bI_t, bI_f, up_s, up_n, n_bit, decide_true, decide_false, Bool.not_true, Bool.not_false, Bool.and_true, Bool.true_and, Bool.false_and, Bool.and_false, m12, hz.at, cc, mm.2]
      exact ih (k + 1) (by omega) q1 q2
theorem c114 {p : Nat} (hg : Good A) (hp : p < A 6) (hG : OKG A p G) (hz : RZ b I A) (hm : GZ b I G.1 G.2) (hQ : ∀ I', GZ b I' (insG A G p).1 G.2 → Ag pGf b I I' → Q (.inl (some (.int (nI (gix A G p))))) (KAt KL b, I', RAt RL b q, L, sz, ex)) : X z 114 0 [some (.ref (ad b 566)), some (.int (nI p)), none] [] (0, 0) (KAt KL b, I, RAt RL b q, L, sz, ex) Q := by
  simp (disch := omega) only [v114_0, v114_1, k_566, k_567, k_568, k_569, k_570, k_571, k_572, k_573, k_574, k_575, k_576, r_566_0, r_566_2, r_566_4, r_566_6, r_566_7, r_566_8, r_566_9, r_566_10, r_566_11, r_566_13, va_rf_s, n_cl, n_in_t, n_lt_t, n_lt_f, n_eq_t, n_eq_f, n_sub, nI_add, n_mul, ↓reduceIte, if_true, if_false, eq_self, true_or, or_true, and_self, and_true, true_and, Nat.reduceAdd, Nat.reduceMul, Nat.reduceLeDiff, Nat.zero_le, not_true_eq_false, not_false_eq_true, cat2_n, cat2_i, cat2_r, ws_0, ws_i, ws_r, ws_l, ws_d, aftr_n, aftr_s, bI_ok, bI_t, bI_f, up_s, up_n, n_bit, decide_true, decide_false, Bool.not_true, Bool.not_false, Bool.and_true, Bool.true_and, Bool.false_and, Bool.and_false]
  refine l114 hg hp hG hz hm G.1 0 (by omega) (fun h => hQ I ?_ Ag.rf) (fun h => ?_)
  · have : gix A G p < G.1 := h
    unfold insG
    rw [if_pos this]
    exact hm
  · have h' : gix A G p = G.1 := h
    rw [h'] at hQ
    refine hQ _ ?_ (((Ag.rf.up (Or.inr (Or.inl rfl))).up (Or.inr (Or.inr rfl))).up (Or.inl ⟨rfl, rfl⟩))
    unfold insG
    rw [if_neg (by omega)]
    refine ⟨by rw [up_s], fun k hk => ?_⟩
    dsimp only at hk
    by_cases e : k = G.1
    · subst e
      rw [hG.2.1 _ (Nat.le_refl _)]
      exact ⟨by rw [up_n (by omega), up_n (by omega), up_s]; rfl, by rw [up_n (by omega), up_s]; rfl⟩
    · have := hm.2 k (by omega)
      exact ⟨by rw [up_n (by omega), up_n (by omega), up_n (by omega)]; exact this.1, by rw [up_n (by omega), up_n (by omega), up_n (by omega)]; exact this.2⟩
set_option maxHeartbeats 4000000 in
theorem l115 (hg : Good A) : ∀ d p I (x2 : Option Value), cat2 x2 = false → p + d = A 6 → RZ b I A → GZ b I (grp A p).1 (grp A p).2 → (∀ j, j < p → I (ad b 575) j = nI (lof A j)) →
    (∀ I', GZ b I' (grps A).1 (grps A).2 → (∀ j, j < A 6 → I' (ad b 575) j = nI (lof A j)) → Ag pGr b I I' → Q (.inl none) (KAt KL b, I', RAt RL b q, L, sz, ex)) → X z 115 7 [some (.ref (ad b 566)), some (.int (nI p)), x2] [] (0, 0) (KAt KL b, I, RAt RL b q, L, sz, ex) Q := by
  have h6 := hg.1.1
  have h8 := hg.1.2.2.2
  have h26 := hg.2.1
  intro d
  induction d with
  | zero =>
    intro p I x2 hx hp hz hm hl hQ
    rw [v115_7]
    simp (disch := omega) only [v115_8, v115_9, v115_12, v115_14, v115_15, v115_18, v115_19, v115_22, v115_23, v115_24, v115_25, v115_26, v115_27, v115_28, v115_31, v115_33, u115_34, v115_37, v115_40, v115_41, u115_42, v115_45, v115_46, v115_47, v115_50, v115_51, v115_52, v115_53, v115_54, v115_55, v115_56, v115_57, v115_58, v115_59, v115_62, v115_63, v115_64, v115_65, v115_66, v115_67, v115_68, v115_69, v115_72, v115_73, v115_74, v115_75, v115_78, v115_81, k_566, k_567, k_568, k_569, k_570, k_571, k_572, k_573, k_574, k_575, k_576, r_566_0, r_566_2, r_566_4, r_566_6, r_566_7, r_566_8, r_566_9, r_566_10, r_566_11, r_566_13, va_rf_s, n_cl, n_in_t, n_lt_t, n_lt_f, n_eq_t, n_eq_f, n_sub, nI_add, n_mul, ↓reduceIte, if_true, if_false, eq_self, true_or, or_true, and_self, and_true, true_and, Nat.reduceAdd, Nat.reduceMul, Nat.reduceLeDiff, Nat.zero_le, not_true_eq_false, not_false_eq_true, cat2_n, cat2_i, cat2_r, ws_0, ws_i, ws_r, ws_l, ws_d, aftr_n, aftr_s, bI_ok, bI_t, bI_f, up_s, up_n, n_bit, decide_true, decide_false, Bool.not_true, Bool.not_false, Bool.and_true, Bool.true_and, Bool.false_and, Bool.and_false, hz.at]
    have e : p = A 6 := by omega
    subst e
    exact hQ I hm hl Ag.rf
  | succ d ih =>
    intro p I x2 hx hp hz hm hl hQ
    rw [v115_7]
    have a1 : Ag pGr b I (up2 I (ad b 575) p (nI 4294967295)) := Ag.rf.up (Or.inr (Or.inr (Or.inr rfl)))
    have hz1 := hz.ag a1 pGr_z
    have hG := okg (A := A) (by omega) p
    have gl := gix_le (A := A) (G := grp A p) (p := p)
    simp (disch := omega) only [v115_8, v115_9, v115_12, v115_14, v115_15, v115_18, v115_19, v115_22, v115_23, v115_24, v115_25, v115_26, v115_27, v115_28, v115_31, v115_33, u115_34, v115_37, v115_40, v115_41, u115_42, v115_45, v115_46, v115_47, v115_50, v115_51, v115_52, v115_53, v115_54, v115_55, v115_56, v115_57, v115_58, v115_59, v115_62, v115_63, v115_64, v115_65, v115_66, v115_67, v115_68, v115_69, v115_72, v115_73, v115_74, v115_75, v115_78, v115_81, k_566, k_567, k_568, k_569, k_570, k_571, k_572, k_573, k_574, k_575, k_576, r_566_0, r_566_2, r_566_4, r_566_6, r_566_7, r_566_8, r_566_9, r_566_10, r_566_11, r_566_13, va_rf_s, n_cl, n_in_t, n_lt_t, n_lt_f, n_eq_t, n_eq_f, n_sub, nI_add, n_mul, ↓reduceIte, if_true, if_false, eq_self, true_or, or_true, and_self, and_true, true_and, Nat.reduceAdd, Nat.reduceMul, Nat.reduceLeDiff, Nat.zero_le, not_true_eq_false, not_false_eq_true, cat2_n, cat2_i, cat2_r, ws_0, ws_i, ws_r, ws_l, ws_d, aftr_n, aftr_s, bI_ok, bI_t, bI_f, up_s, up_n, n_bit, decide_true, decide_false, Bool.not_true, Bool.not_false, Bool.and_true, Bool.true_and, Bool.false_and, Bool.and_false, hz.at, hz1.at, c112 hz1 hg (p := p) (d := A 8) (by omega) (Nat.le_refl _) (by omega)]
    have hm1 : GZ b (up2 I (ad b 575) p (nI 4294967295)) (grp A p).1 (grp A p).2 := ⟨by rw [up_n (by omega)]; exact hm.1, fun k hk => ⟨by rw [up_n (by omega)]; exact (hm.2 k hk).1, by rw [up_n (by omega)]; exact (hm.2 k hk).2⟩⟩
    by_cases e : reas A p (A 8) = 0
    · rw [if_pos (by rw [e])]
      refine c114 hg (by omega) hG hz1 hm1 (fun I1 g1 g2 => ?_)
      have hi := (hG.ins (by omega) e).2.2
      have gle : gix A (grp A p) p < (insG A (grp A p) p).1 := by unfold insG; dsimp only; split <;> omega
      have i1 := (hG.ins (by omega) e).1
      have mm := g1.2 _ gle
      simp (disch := omega) only [v115_45, v115_46, v115_47, v115_50, v115_51, v115_52, v115_53, v115_54, v115_55, v115_56, v115_57, v115_58, v115_59, v115_62, v115_63, v115_64, v115_65, v115_66, v115_67, v115_68, v115_69, v115_72, v115_73, v115_74, v115_75, v115_78, v115_81, k_566, k_567, k_568, k_569, k_570, k_571, k_572, k_573, k_574, k_575, k_576, r_566_0, r_566_2, r_566_4, r_566_6, r_566_7, r_566_8, r_566_9, r_566_10, r_566_11, r_566_13, va_rf_s, n_cl, n_in_t, n_lt_t, n_lt_f, n_eq_t, n_eq_f, n_sub, nI_add, n_mul, ↓reduceIte, if_true, if_false, eq_self, true_or, or_true, and_self, and_true, true_and, Nat.reduceAdd, Nat.reduceMul, Nat.reduceLeDiff, Nat.zero_le, not_true_eq_false, not_false_eq_true, cat2_n, cat2_i, cat2_r, ws_0, ws_i, ws_r, ws_l, ws_d, aftr_n, aftr_s, bI_ok, bI_t, bI_f, up_s, up_n, n_bit, decide_true, decide_false, Bool.not_true, Bool.not_false, Bool.and_true, Bool.true_and, Bool.false_and, Bool.and_false, mm.1, mm.2, n_or, n_shl1]
      have a2 := a1.tr (g2.mn pGf_r)
      refine ih (p + 1) _ _ rfl (by omega) (hz.ag (((a2.up (Or.inr (Or.inl rfl))).up (Or.inr (Or.inr (Or.inl rfl)))).up (Or.inr (Or.inr (Or.inr rfl)))) pGr_z) ?_ (fun j hj => ?_) (fun I2 q1 q2 q3 => hQ I2 q1 q2 ((((a2.up (Or.inr (Or.inl rfl))).up (Or.inr (Or.inr (Or.inl rfl)))).up (Or.inr (Or.inr (Or.inr rfl)))).tr q3))
      · have eg : grp A (p + 1) = insG A (grp A p) p := by show (if _ then _ else _) = _; rw [if_pos e]
        rw [eg]
        refine ⟨by rw [up_n (by omega), up_n (by omega), up_n (by omega)]; exact g1.1, fun k hk => ?_⟩
        by_cases ek : k = gix A (grp A p) p
        · have : (insG A (grp A p) p).2 k = (grp A p).2 k ++ [p] := by unfold insG; dsimp only; rw [if_pos ek]
          rw [this, maskL_snoc, List.length_append, List.length_singleton, ek]
          exact ⟨by rw [up_n (by omega), up_n (by omega), up_s], by rw [up_n (by omega), up_s]⟩
        · have : (insG A (grp A p) p).2 k = (grp A p).2 k := by unfold insG; dsimp only; rw [if_neg ek]
          rw [this]
          exact ⟨by rw [up_n (by omega), up_n (by omega), up_n (by omega)]; exact (g1.2 k hk).1, by rw [up_n (by omega), up_n (by omega), up_n (by omega)]; exact (g1.2 k hk).2⟩
      · by_cases ej : j = p
        · rw [ej, up_s]
          unfold lof
          rw [if_pos e]
        · rw [up_n (by omega), up_n (by omega), up_n (by omega), ← hl j (by omega)]
          exact (g2.at (fun x => by unfold pGf at x; omega)).trans (up_n (by omega))
    · rw [if_neg (fun x => e (n_inj (by have : reas A p (A 8) ≤ 3 := reas_le; omega) (by omega) x))]
      refine ih (p + 1) _ _ hx (by omega) hz1 ?_ (fun j hj => ?_) (fun I2 q1 q2 q3 => hQ I2 q1 q2 (a1.tr q3))
      · have eg : grp A (p + 1) = grp A p := by show (if _ then _ else _) = _; rw [if_neg e]
        rw [eg]
        exact hm1
      · by_cases ej : j = p
        · rw [ej, up_s]
          unfold lof
          rw [if_neg e]
        · rw [up_n (by omega)]
          exact hl j (by omega)
end RH
