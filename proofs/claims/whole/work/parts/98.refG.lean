/-! THE REFERENCE: a letter's lines; groups; all letters; sums -/
section RG
variable {z : P0} {KL : Nat → Nat × Nat} {RL : Nat → Nat → Option Nat} {q : Nat → Nat} {b : Nat} {I : Nat → Nat → Int32} {L : Nat → Nat → Int64} {sz : Nat} {ex : Bool} {Q : Res → Mem → Prop} {A : Row}
variable {t : List Nat}
theorem LY.ag {P : Nat → Nat → Prop} {I' : Nat → Nat → Int32} {l : Nat} {u : Option Nat} (h : LY b I l u) (hg : Ag P b I I') (hP : ∀ j, 15 ≤ j → j ≤ 17 → ¬ P 566 j) : LY b I' l u := by
  cases u with
  | none => exact ⟨(hg.at (hP 17 (by omega) (by omega))).trans h.1, (hg.at (hP 16 (by omega) (by omega))).trans h.2.1, (hg.at (hP 15 (by omega) (by omega))).trans h.2.2⟩
  | some v => exact ⟨(hg.at (hP 17 (by omega) (by omega))).trans h.1, (hg.at (hP 16 (by omega) (by omega))).trans h.2.1, (hg.at (hP 15 (by omega) (by omega))).trans h.2.2⟩
theorem pLn_y {lt : Nat} : ∀ o j, pLn o j → pLy lt o j := fun _ _ h => Or.inl h
theorem LY.ln {l : Nat} {u : Option Nat} (h : LY b I l u) : ∃ n, I (ad b 566) 17 = nI n ∧ (u = none → n = l + 1) ∧ (u ≠ none → n = l) := by
  cases u with
  | none => exact ⟨l + 1, h.1, fun _ => rfl, fun x => absurd rfl x⟩
  | some v => exact ⟨l, h.1, fun x => (Option.some_ne_none v x).elim, fun _ => rfl⟩
set_option maxHeartbeats 8000000 in
theorem l129 {lt : Nat} (hg : Good A) (hlt : lt < 20) (htl : t.length ≤ 1700) : ∀ (r : List Nat) i p l (u : Option Nat) pt pg I (x5 x6 : Option Value), cat2 x5 = false → i + r.length = t.length → (∀ k, k < r.length → t.getD (i + k) 0 = r.getD k 0) → (∀ c ∈ r, c < 4294967296) → p ≤ i → l + p ≤ 2 * i → pg ≤ pt → pt ≤ l → (∀ v, u = some v → v ≤ 10000) →
    RZ b I A → OT b I t → LY b I l u → I (ad b 574) lt = nI pg → (∀ I', I' (ad b 572) lt = nI t.length → I' (ad b 573) lt = nI (layF (A 0) (A 1) r p l u pt pg).1 → I' (ad b 574) lt = nI (layF (A 0) (A 1) r p l u pt pg).2 → Ag (pLy lt) b I I' → Q (.inl none) (KAt KL b, I', RAt RL b q, L, sz, ex)) →
    X z 129 23 [some (.ref (ad b 566)), some (.int (nI lt)), some (.int (nI p)), some (.int (nI pt)), some (.int (nI i)), x5, x6] [] (0, 0) (KAt KL b, I, RAt RL b q, L, sz, ex) Q := by
  have h0 := hg.2.1.2.1
  have h01 := hg.2.1.2.2.1
  intro r
  induction r with
  | nil =>
    intro i p l u pt pg I x5 x6 hx5 hi hr hc hp hl hpg hpt hu hz ho hy m hQ
    rw [List.length_nil, Nat.add_zero] at hi
    rw [v129_23]
    simp (disch := omega) only [v129_25, v129_26, v129_29, v129_149, v129_150, u129_151, k_566, k_567, k_568, k_569, k_570, k_571, k_572, k_573, k_574, k_575, k_576, r_566_0, r_566_2, r_566_4, r_566_6, r_566_7, r_566_8, r_566_9, r_566_10, r_566_11, r_566_13, va_rf_s, n_cl, n_in_t, n_lt_t, n_lt_f, n_eq_t, n_eq_f, n_sub, nI_add, n_mul, ↓reduceIte, if_true, if_false, eq_self, true_or, or_true, and_self, and_true, true_and, Nat.reduceAdd, Nat.reduceMul, Nat.reduceLeDiff, Nat.zero_le, not_true_eq_false, not_false_eq_true, cat2_n, cat2_i, cat2_r, ws_0, ws_i, ws_r, ws_l, ws_d, aftr_n, aftr_s, bI_ok, bI_t, bI_f, up_s, up_n, n_bit, ho.1]
    have l1 := plc_le (W := A 0) (l := l) (p := p) (u := u)
    refine c127 hg hz hy (by omega) hu (fun I1 g1 g2 => ?_)
    have m1 := pLn_k g2 (o := 574) (by omega) m
    have hz1 := hz.ag g2 pLn_z
    have ho1 := ho.ag g2 (fun x => by unfold pLn at x; omega) (fun j x => by unfold pLn at x; omega)
    have g11 : I1 (ad b 566) 17 = nI (plc (A 0) l u p).1 := g1.1
    simp (disch := omega) only [v129_149, v129_150, u129_151, v129_154, v129_155, v129_158, v129_159, v129_160, v129_161, v129_162, v129_163, v129_166, v129_167, u129_168, v129_171, v129_172, v129_173, v129_174, v129_177, v129_178, v129_179, v129_182, v129_183, v129_184, v129_187, v129_188, v129_189, v129_192, v129_193, k_566, k_567, k_568, k_569, k_570, k_571, k_572, k_573, k_574, k_575, k_576, r_566_0, r_566_2, r_566_4, r_566_6, r_566_7, r_566_8, r_566_9, r_566_10, r_566_11, r_566_13, va_rf_s, n_cl, n_in_t, n_lt_t, n_lt_f, n_eq_t, n_eq_f, n_sub, nI_add, n_mul, ↓reduceIte, if_true, if_false, eq_self, true_or, or_true, and_self, and_true, true_and, Nat.reduceAdd, Nat.reduceMul, Nat.reduceLeDiff, Nat.zero_le, not_true_eq_false, not_false_eq_true, cat2_n, cat2_i, cat2_r, ws_0, ws_i, ws_r, ws_l, ws_d, aftr_n, aftr_s, bI_ok, bI_t, bI_f, up_s, up_n, n_bit, m1, g11, c128 hg hz1, ho1.1]
    unfold layF at hQ
    refine hQ _ ?_ ?_ ?_ ((((g2.mn pLn_y).up (Or.inr ⟨Or.inr (Or.inr rfl), rfl⟩)).up (Or.inr ⟨Or.inr (Or.inl rfl), rfl⟩)).up (Or.inr ⟨Or.inl rfl, rfl⟩))
    · rw [up_s]
    · rw [up_n (by omega), up_s]
    · rw [up_n (by omega), up_n (by omega), up_s]
  | cons c r ih =>
    intro i p l u pt pg I x5 x6 hx5 hi hr hc hp hl hpg hpt hu hz ho hy m hQ
    rw [List.length_cons] at hi hr
    have hc0 : I (ad b 576) i = nI c := by
      rw [ho.2 i (by omega)]
      have := hr 0 (by omega)
      rw [Nat.add_zero] at this
      rw [this]; rfl
    have hcl := hc c List.mem_cons_self
    have hr' : ∀ k, k < r.length → t.getD (i + 1 + k) 0 = r.getD k 0 := fun k hk => by
      rw [show i + 1 + k = i + (k + 1) by omega, hr (k + 1) (by omega)]; rfl
    have hc' : ∀ x ∈ r, x < 4294967296 := fun x hx => hc x (List.mem_cons_of_mem _ hx)
    have l1 := plc_le (W := A 0) (l := l) (p := p) (u := u)
    have l2 := plc_u (W := A 0) (l := l) (p := p) (u := u) (by omega) (by omega)
    rw [v129_23]
    by_cases e1 : c = 95
    · have eq : layF (A 0) (A 1) (c :: r) p l u pt pg = layF (A 0) (A 1) r 0 (plc (A 0) l u p).1 (some (plc (A 0) l u p).2) pt pg := by show (if _ then _ else _) = _; rw [if_pos e1]
      rw [eq] at hQ
      simp (disch := omega) only [v129_25, v129_26, v129_29, v129_32, v129_33, v129_36, v129_38, v129_39, v129_41, v129_43, v129_45, v129_48, v129_50, v129_52, v129_55, v129_57, v129_59, v129_62, v129_63, v129_66, v129_67, v129_69, v129_70, v129_72, v129_75, v129_76, v129_79, v129_80, v129_81, v129_82, v129_84, v129_87, v129_88, u129_89, v129_92, v129_93, v129_94, v129_96, v129_98, v129_101, v129_102, v129_105, v129_106, v129_107, v129_108, v129_109, v129_110, v129_113, v129_114, u129_115, v129_118, v129_119, v129_120, v129_121, v129_124, v129_125, v129_127, v129_129, v129_132, v129_134, v129_136, v129_139, u129_140, v129_143, v129_146, k_566, k_567, k_568, k_569, k_570, k_571, k_572, k_573, k_574, k_575, k_576, r_566_0, r_566_2, r_566_4, r_566_6, r_566_7, r_566_8, r_566_9, r_566_10, r_566_11, r_566_13, va_rf_s, n_cl, n_in_t, n_lt_t, n_lt_f, n_eq_t, n_eq_f, n_sub, nI_add, n_mul, ↓reduceIte, if_true, if_false, eq_self, true_or, or_true, and_self, and_true, true_and, Nat.reduceAdd, Nat.reduceMul, Nat.reduceLeDiff, Nat.zero_le, not_true_eq_false, not_false_eq_true, cat2_n, cat2_i, cat2_r, ws_0, ws_i, ws_r, ws_l, ws_d, aftr_n, aftr_s, bI_ok, bI_t, bI_f, up_s, up_n, n_bit, ho.1, hc0, hx5, Nat.add_zero]
      refine c127 hg hz hy (by omega) hu (fun I1 g1 g2 => ?_)
      simp (disch := omega) only [v129_92, v129_93, v129_94, v129_96, v129_98, v129_101, v129_102, v129_105, v129_106, v129_107, v129_108, v129_109, v129_110, v129_113, v129_114, u129_115, v129_118, v129_119, v129_120, v129_121, v129_124, v129_125, v129_127, v129_129, v129_132, v129_134, v129_136, v129_139, u129_140, v129_143, v129_146, k_566, k_567, k_568, k_569, k_570, k_571, k_572, k_573, k_574, k_575, k_576, r_566_0, r_566_2, r_566_4, r_566_6, r_566_7, r_566_8, r_566_9, r_566_10, r_566_11, r_566_13, va_rf_s, n_cl, n_in_t, n_lt_t, n_lt_f, n_eq_t, n_eq_f, n_sub, nI_add, n_mul, ↓reduceIte, if_true, if_false, eq_self, true_or, or_true, and_self, and_true, true_and, Nat.reduceAdd, Nat.reduceMul, Nat.reduceLeDiff, Nat.zero_le, not_true_eq_false, not_false_eq_true, cat2_n, cat2_i, cat2_r, ws_0, ws_i, ws_r, ws_l, ws_d, aftr_n, aftr_s, bI_ok, bI_t, bI_f, up_s, up_n, n_bit]
      exact ih (i + 1) 0 (plc (A 0) l u p).1 (some (plc (A 0) l u p).2) pt pg I1 _ _ rfl (by omega) hr' hc' (by omega) (by omega) hpg (by omega) (fun v hv => by cases hv; omega) (hz.ag g2 pLn_z) (ho.ag g2 (fun x => by unfold pLn at x; omega) (fun j x => by unfold pLn at x; omega)) g1 (pLn_k g2 (by omega) m) (fun I2 q1 q2 q3 q4 => hQ I2 q1 q2 q3 ((g2.mn pLn_y).tr q4))
    · by_cases e2 : c = 47
      · have eq : layF (A 0) (A 1) (c :: r) p l u pt pg = layF (A 0) (A 1) r 0 (plc (A 0) l u p).1 none pt pg := by show (if _ then _ else if _ then _ else _) = _; rw [if_neg e1, if_pos e2]
        rw [eq] at hQ
        simp (disch := omega) only [v129_25, v129_26, v129_29, v129_32, v129_33, v129_36, v129_38, v129_39, v129_41, v129_43, v129_45, v129_48, v129_50, v129_52, v129_55, v129_57, v129_59, v129_62, v129_63, v129_66, v129_67, v129_69, v129_70, v129_72, v129_75, v129_76, v129_79, v129_80, v129_81, v129_82, v129_84, v129_87, v129_88, u129_89, v129_92, v129_93, v129_94, v129_96, v129_98, v129_101, v129_102, v129_105, v129_106, v129_107, v129_108, v129_109, v129_110, v129_113, v129_114, u129_115, v129_118, v129_119, v129_120, v129_121, v129_124, v129_125, v129_127, v129_129, v129_132, v129_134, v129_136, v129_139, u129_140, v129_143, v129_146, k_566, k_567, k_568, k_569, k_570, k_571, k_572, k_573, k_574, k_575, k_576, r_566_0, r_566_2, r_566_4, r_566_6, r_566_7, r_566_8, r_566_9, r_566_10, r_566_11, r_566_13, va_rf_s, n_cl, n_in_t, n_lt_t, n_lt_f, n_eq_t, n_eq_f, n_sub, nI_add, n_mul, ↓reduceIte, if_true, if_false, eq_self, true_or, or_true, and_self, and_true, true_and, Nat.reduceAdd, Nat.reduceMul, Nat.reduceLeDiff, Nat.zero_le, not_true_eq_false, not_false_eq_true, cat2_n, cat2_i, cat2_r, ws_0, ws_i, ws_r, ws_l, ws_d, aftr_n, aftr_s, bI_ok, bI_t, bI_f, up_s, up_n, n_bit, ho.1, hc0, hx5, Nat.add_zero]
        refine c127 hg hz hy (by omega) hu (fun I1 g1 g2 => ?_)
        simp (disch := omega) only [v129_92, v129_93, v129_94, v129_96, v129_98, v129_101, v129_102, v129_105, v129_106, v129_107, v129_108, v129_109, v129_110, v129_113, v129_114, u129_115, v129_118, v129_119, v129_120, v129_121, v129_124, v129_125, v129_127, v129_129, v129_132, v129_134, v129_136, v129_139, u129_140, v129_143, v129_146, k_566, k_567, k_568, k_569, k_570, k_571, k_572, k_573, k_574, k_575, k_576, r_566_0, r_566_2, r_566_4, r_566_6, r_566_7, r_566_8, r_566_9, r_566_10, r_566_11, r_566_13, va_rf_s, n_cl, n_in_t, n_lt_t, n_lt_f, n_eq_t, n_eq_f, n_sub, nI_add, n_mul, ↓reduceIte, if_true, if_false, eq_self, true_or, or_true, and_self, and_true, true_and, Nat.reduceAdd, Nat.reduceMul, Nat.reduceLeDiff, Nat.zero_le, not_true_eq_false, not_false_eq_true, cat2_n, cat2_i, cat2_r, ws_0, ws_i, ws_r, ws_l, ws_d, aftr_n, aftr_s, bI_ok, bI_t, bI_f, up_s, up_n, n_bit]
        refine c125 g1.1 (fun I2 g3 g4 => ?_)
        simp (disch := omega) only [v129_143, v129_146, k_566, k_567, k_568, k_569, k_570, k_571, k_572, k_573, k_574, k_575, k_576, r_566_0, r_566_2, r_566_4, r_566_6, r_566_7, r_566_8, r_566_9, r_566_10, r_566_11, r_566_13, va_rf_s, n_cl, n_in_t, n_lt_t, n_lt_f, n_eq_t, n_eq_f, n_sub, nI_add, n_mul, ↓reduceIte, if_true, if_false, eq_self, true_or, or_true, and_self, and_true, true_and, Nat.reduceAdd, Nat.reduceMul, Nat.reduceLeDiff, Nat.zero_le, not_true_eq_false, not_false_eq_true, cat2_n, cat2_i, cat2_r, ws_0, ws_i, ws_r, ws_l, ws_d, aftr_n, aftr_s, bI_ok, bI_t, bI_f, up_s, up_n, n_bit]
        have g5 := g2.tr g4
        exact ih (i + 1) 0 (plc (A 0) l u p).1 none pt pg I2 _ _ rfl (by omega) hr' hc' (by omega) (by omega) hpg (by omega) (fun v hv => by cases hv) (hz.ag g5 pLn_z) (ho.ag g5 (fun x => by unfold pLn at x; omega) (fun j x => by unfold pLn at x; omega)) g3 (pLn_k g5 (by omega) m) (fun I3 q1 q2 q3 q4 => hQ I3 q1 q2 q3 ((g5.mn pLn_y).tr q4))
      · by_cases e3 : c = 124
        · have eq : layF (A 0) (A 1) (c :: r) p l u pt pg = layF (A 0) (A 1) r 0 (plc (A 0) l u p).1 none (plc (A 0) l u p).1 (pg + pgs (A 1) ((plc (A 0) l u p).1 - pt)) := by show (if _ then _ else if _ then _ else if _ then _ else _) = _; rw [if_neg e1, if_neg e2, if_pos e3]
          rw [eq] at hQ
          have l3 := pgs_le (H := A 1) (n := (plc (A 0) l u p).1 - pt) (by omega)
          simp (disch := omega) only [v129_25, v129_26, v129_29, v129_32, v129_33, v129_36, v129_38, v129_39, v129_41, v129_43, v129_45, v129_48, v129_50, v129_52, v129_55, v129_57, v129_59, v129_62, v129_63, v129_66, v129_67, v129_69, v129_70, v129_72, v129_75, v129_76, v129_79, v129_80, v129_81, v129_82, v129_84, v129_87, v129_88, u129_89, v129_92, v129_93, v129_94, v129_96, v129_98, v129_101, v129_102, v129_105, v129_106, v129_107, v129_108, v129_109, v129_110, v129_113, v129_114, u129_115, v129_118, v129_119, v129_120, v129_121, v129_124, v129_125, v129_127, v129_129, v129_132, v129_134, v129_136, v129_139, u129_140, v129_143, v129_146, k_566, k_567, k_568, k_569, k_570, k_571, k_572, k_573, k_574, k_575, k_576, r_566_0, r_566_2, r_566_4, r_566_6, r_566_7, r_566_8, r_566_9, r_566_10, r_566_11, r_566_13, va_rf_s, n_cl, n_in_t, n_lt_t, n_lt_f, n_eq_t, n_eq_f, n_sub, nI_add, n_mul, ↓reduceIte, if_true, if_false, eq_self, true_or, or_true, and_self, and_true, true_and, Nat.reduceAdd, Nat.reduceMul, Nat.reduceLeDiff, Nat.zero_le, not_true_eq_false, not_false_eq_true, cat2_n, cat2_i, cat2_r, ws_0, ws_i, ws_r, ws_l, ws_d, aftr_n, aftr_s, bI_ok, bI_t, bI_f, up_s, up_n, n_bit, ho.1, hc0, hx5, Nat.add_zero]
          refine c127 hg hz hy (by omega) hu (fun I1 g1 g2 => ?_)
          have m1 := pLn_k g2 (o := 574) (by omega) m
          have hz1 := hz.ag g2 pLn_z
          have ho1 := ho.ag g2 (fun x => by unfold pLn at x; omega) (fun j x => by unfold pLn at x; omega)
          have g11 : I1 (ad b 566) 17 = nI (plc (A 0) l u p).1 := g1.1
          simp (disch := omega) only [v129_92, v129_93, v129_94, v129_96, v129_98, v129_101, v129_102, v129_105, v129_106, v129_107, v129_108, v129_109, v129_110, v129_113, v129_114, u129_115, v129_118, v129_119, v129_120, v129_121, v129_124, v129_125, v129_127, v129_129, v129_132, v129_134, v129_136, v129_139, u129_140, k_566, k_567, k_568, k_569, k_570, k_571, k_572, k_573, k_574, k_575, k_576, r_566_0, r_566_2, r_566_4, r_566_6, r_566_7, r_566_8, r_566_9, r_566_10, r_566_11, r_566_13, va_rf_s, n_cl, n_in_t, n_lt_t, n_lt_f, n_eq_t, n_eq_f, n_sub, nI_add, n_mul, ↓reduceIte, if_true, if_false, eq_self, true_or, or_true, and_self, and_true, true_and, Nat.reduceAdd, Nat.reduceMul, Nat.reduceLeDiff, Nat.zero_le, not_true_eq_false, not_false_eq_true, cat2_n, cat2_i, cat2_r, ws_0, ws_i, ws_r, ws_l, ws_d, aftr_n, aftr_s, bI_ok, bI_t, bI_f, up_s, up_n, n_bit, m1, g11, c128 hg hz1]
          have g6 : Ag (pLy lt) b I (up2 I1 (ad b 574) lt (nI (pg + pgs (A 1) ((plc (A 0) l u p).1 - pt)))) := (g2.mn pLn_y).up (Or.inr ⟨Or.inr (Or.inr rfl), rfl⟩)
          refine c125 (I := up2 I1 (ad b 574) lt (nI (pg + pgs (A 1) ((plc (A 0) l u p).1 - pt)))) (n := (plc (A 0) l u p).1) (by rw [up_n (by omega), g11]) (fun I2 g3 g4 => ?_)
          simp (disch := omega) only [v129_143, v129_146, k_566, k_567, k_568, k_569, k_570, k_571, k_572, k_573, k_574, k_575, k_576, r_566_0, r_566_2, r_566_4, r_566_6, r_566_7, r_566_8, r_566_9, r_566_10, r_566_11, r_566_13, va_rf_s, n_cl, n_in_t, n_lt_t, n_lt_f, n_eq_t, n_eq_f, n_sub, nI_add, n_mul, ↓reduceIte, if_true, if_false, eq_self, true_or, or_true, and_self, and_true, true_and, Nat.reduceAdd, Nat.reduceMul, Nat.reduceLeDiff, Nat.zero_le, not_true_eq_false, not_false_eq_true, cat2_n, cat2_i, cat2_r, ws_0, ws_i, ws_r, ws_l, ws_d, aftr_n, aftr_s, bI_ok, bI_t, bI_f, up_s, up_n, n_bit]
          have g5 := g6.tr (g4.mn pLn_y)
          exact ih (i + 1) 0 (plc (A 0) l u p).1 none (plc (A 0) l u p).1 _ I2 _ _ rfl (by omega) hr' hc' (by omega) (by omega) (by omega) (by omega) (fun v hv => by cases hv) (hz.ag g5 pLy_z) (ho.ag g5 (fun x => by unfold pLy at x; omega) (fun j x => by unfold pLy at x; omega)) g3 (pLn_k g4 (by omega) up_s) (fun I3 q1 q2 q3 q4 => hQ I3 q1 q2 q3 (g5.tr q4))
        · have eq : layF (A 0) (A 1) (c :: r) p l u pt pg = layF (A 0) (A 1) r (p + 1) l u pt pg := by show (if _ then _ else if _ then _ else if _ then _ else _) = _; rw [if_neg e1, if_neg e2, if_neg e3]
          rw [eq] at hQ
          simp (disch := omega) only [v129_25, v129_26, v129_29, v129_32, v129_33, v129_36, v129_38, v129_39, v129_41, v129_43, v129_45, v129_48, v129_50, v129_52, v129_55, v129_57, v129_59, v129_62, v129_63, v129_66, v129_67, v129_69, v129_70, v129_72, v129_75, v129_76, v129_79, v129_80, v129_81, v129_82, v129_84, v129_87, v129_88, u129_89, v129_92, v129_93, v129_94, v129_96, v129_98, v129_101, v129_102, v129_105, v129_106, v129_107, v129_108, v129_109, v129_110, v129_113, v129_114, u129_115, v129_118, v129_119, v129_120, v129_121, v129_124, v129_125, v129_127, v129_129, v129_132, v129_134, v129_136, v129_139, u129_140, v129_143, v129_146, k_566, k_567, k_568, k_569, k_570, k_571, k_572, k_573, k_574, k_575, k_576, r_566_0, r_566_2, r_566_4, r_566_6, r_566_7, r_566_8, r_566_9, r_566_10, r_566_11, r_566_13, va_rf_s, n_cl, n_in_t, n_lt_t, n_lt_f, n_eq_t, n_eq_f, n_sub, nI_add, n_mul, ↓reduceIte, if_true, if_false, eq_self, true_or, or_true, and_self, and_true, true_and, Nat.reduceAdd, Nat.reduceMul, Nat.reduceLeDiff, Nat.zero_le, not_true_eq_false, not_false_eq_true, cat2_n, cat2_i, cat2_r, ws_0, ws_i, ws_r, ws_l, ws_d, aftr_n, aftr_s, bI_ok, bI_t, bI_f, up_s, up_n, n_bit, ho.1, hc0, hx5]
          exact ih (i + 1) (p + 1) l u pt pg I _ _ rfl (by omega) hr' hc' (by omega) (by omega) hpg hpt hu hz ho hy m hQ
set_option maxHeartbeats 4000000 in
theorem c129 {lt : Nat} (hg : Good A) (hlt : lt < 20) (htl : t.length ≤ 1700) (hc : ∀ c ∈ t, c < 4294967296) (hz : RZ b I A) (ho : OT b I t)
    (hQ : ∀ I', I' (ad b 572) lt = nI t.length → I' (ad b 573) lt = nI (layT (A 0) (A 1) t).1 → I' (ad b 574) lt = nI (layT (A 0) (A 1) t).2 → Ag (pLy lt) b I I' → Q (.inl none) (KAt KL b, I', RAt RL b q, L, sz, ex)) :
    X z 129 0 [some (.ref (ad b 566)), some (.int (nI lt)), none, none, none, none, none] [] (0, 0) (KAt KL b, I, RAt RL b q, L, sz, ex) Q := by
  simp (disch := omega) only [v129_0, v129_1, v129_2, v129_3, v129_4, v129_5, v129_6, v129_9, v129_10, v129_13, v129_14, v129_15, v129_16, u129_17, k_566, k_567, k_568, k_569, k_570, k_571, k_572, k_573, k_574, k_575, k_576, r_566_0, r_566_2, r_566_4, r_566_6, r_566_7, r_566_8, r_566_9, r_566_10, r_566_11, r_566_13, va_rf_s, n_cl, n_in_t, n_lt_t, n_lt_f, n_eq_t, n_eq_f, n_sub, nI_add, n_mul, ↓reduceIte, if_true, if_false, eq_self, true_or, or_true, and_self, and_true, true_and, Nat.reduceAdd, Nat.reduceMul, Nat.reduceLeDiff, Nat.zero_le, not_true_eq_false, not_false_eq_true, cat2_n, cat2_i, cat2_r, ws_0, ws_i, ws_r, ws_l, ws_d, aftr_n, aftr_s, bI_ok, bI_t, bI_f, up_s, up_n, n_bit]
  have a1 : Ag (pLy lt) b I (up2 (up2 I (ad b 566) 17 (nI 0)) (ad b 574) lt (nI 0)) := (Ag.rf.up (Or.inl ⟨rfl, by omega, by omega⟩)).up (Or.inr ⟨Or.inr (Or.inr rfl), rfl⟩)
  refine c125 (I := up2 (up2 I (ad b 566) 17 (nI 0)) (ad b 574) lt (nI 0)) (n := 0) (by rw [up_n (by omega), up_s]) (fun I2 g3 g4 => ?_)
  simp (disch := omega) only [v129_20, v129_21, k_566, k_567, k_568, k_569, k_570, k_571, k_572, k_573, k_574, k_575, k_576, r_566_0, r_566_2, r_566_4, r_566_6, r_566_7, r_566_8, r_566_9, r_566_10, r_566_11, r_566_13, va_rf_s, n_cl, n_in_t, n_lt_t, n_lt_f, n_eq_t, n_eq_f, n_sub, nI_add, n_mul, ↓reduceIte, if_true, if_false, eq_self, true_or, or_true, and_self, and_true, true_and, Nat.reduceAdd, Nat.reduceMul, Nat.reduceLeDiff, Nat.zero_le, not_true_eq_false, not_false_eq_true, cat2_n, cat2_i, cat2_r, ws_0, ws_i, ws_r, ws_l, ws_d, aftr_n, aftr_s, bI_ok, bI_t, bI_f, up_s, up_n, n_bit]
  have g5 := a1.tr (g4.mn pLn_y)
  exact l129 hg hlt htl t 0 0 0 none 0 0 I2 none none rfl (by omega) (fun k _ => by rw [Nat.zero_add]) hc (by omega) (by omega) (by omega) (by omega) (fun v hv => by cases hv) (hz.ag g5 pLy_z) (ho.ag g5 (fun x => by unfold pLy at x; omega) (fun j x => by unfold pLy at x; omega)) g3 (pLn_k g4 (by omega) up_s) (fun I3 q1 q2 q3 q4 => hQ I3 q1 q2 q3 (g5.tr q4))
end RG
