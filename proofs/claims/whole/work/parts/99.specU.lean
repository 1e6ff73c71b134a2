/-! THE REFERENCE: adding a person, a word; taking a letter -/
def updL (A : Row) (off : Nat) (L : List Nat) : Row := fun k => if off ≤ k ∧ k < off + L.length then L.getD (k - off) 0 else A k
theorem updL_nil {A : Row} {off : Nat} : updL A off [] = A := by
  funext k
  unfold updL
  rw [if_neg (fun x => by rw [List.length_nil] at x; omega)]
theorem updL_snoc {A : Row} {off c : Nat} {L : List Nat} : upr (updL A off L) (off + L.length) c = updL A off (L ++ [c]) := by
  funext k
  unfold upr updL
  by_cases h : k = off + L.length
  · rw [if_pos h, if_pos (by rw [List.length_append, List.length_singleton]; omega), getD_snoc, if_neg (by omega), if_pos (by omega)]
  · rw [if_neg h, List.length_append, List.length_singleton]
    by_cases h2 : off ≤ k ∧ k < off + L.length
    · rw [if_pos h2, if_pos (by omega), getD_snoc, if_pos (by omega)]
    · rw [if_neg h2, if_neg (by omega)]
theorem updL_n {A : Row} {off k : Nat} {L : List Nat} (h : ¬ (off ≤ k ∧ k < off + L.length)) : updL A off L k = A k := if_neg h
theorem upr_updL {A : Row} {off k v : Nat} {L : List Nat} (h : ¬ (off ≤ k ∧ k < off + L.length)) : upr (updL A off L) k v = updL (upr A k v) off L := by
  funext j
  unfold upr updL
  dsimp only
  by_cases h1 : j = k
  · subst h1; rw [if_pos rfl, if_neg h, if_pos rfl]
  · rw [if_neg h1, if_neg h1]
theorem upr_upr {A : Row} {k v v' : Nat} : upr (upr A k v) k v' = upr A k v' := by
  funext j
  unfold upr
  by_cases h1 : j = k
  · rw [if_pos h1, if_pos h1]
  · rw [if_neg h1, if_neg h1, if_neg h1]
def perR (A : Row) (p a f len : Nat) : Row := upr (upr (upr (upr (upr (upr (upr (upr A 6 (p + 1)) (13 + p) a) (33 + p) f) (53 + p) 4294967295) (73 + p) 0) (93 + p) 4294967295) (113 + p) 0) (133 + p) len
def addPR (A : Row) (a f : Nat) (B : List Nat) : Row := updL (perR A (A 6) a f B.length) (153 + 8 * A 6) B
def opAddP (w : Wd) (a f : Nat) : Ans := if (a ≤ 19 ∧ f ≤ 2) ∧ cpl 0 w.2.2.2 = true then (if w.1 6 < 20 then (0, w.1 6, (addPR w.1 a f w.2.2.2, svN w.2.1, svH w.1 w.2.1 w.2.2.1, [])) else (2, 0, w)) else (1, 0, w)
def worR (A : Row) (w pl len : Nat) : Row := upr (upr (upr A 7 (w + 1)) (323 + w) pl) (313 + w) len
def addWR (A : Row) (B : List Nat) : Row := updL (worR A (A 7) (if ldr 8 B < B.length then 1 else 0) (ldr 8 B)) (333 + 8 * A 7) (B.take (ldr 8 B))
def opAddW (w : Wd) : Ans := if cpl 1 w.2.2.2 = true then (if w.1 7 < 10 then (0, w.1 7, (addWR w.1 w.2.2.2, svN w.2.1, svH w.1 w.2.1 w.2.2.1, [])) else (2, 0, w)) else (1, 0, w)
/-- the items of a letter that is read from the place w on -/
def tkw : Nat → List Nat → List Nat
  | _, [] => []
  | w, c :: r => if w = 3 ∨ w = 5 then (256 + c) :: tkw (nxt w c) r else if w = 4 ∨ w = 6 ∨ c = 60 then tkw (nxt w c) r else c :: tkw (nxt w c) r
def takeR (A : Row) (T : List Nat) : Row := updL (upr A 12 T.length) 413 T
def flds (A : Row) : Nat := cntF (fun k => decide (256 ≤ A (413 + k))) 0 (A 12)
def opTake (w : Wd) : Ans := if cpl 2 w.2.2.2 = true then (0, flds (takeR w.1 (tkw 0 w.2.2.2)), (takeR w.1 (tkw 0 w.2.2.2), svN w.2.1, svH w.1 w.2.1 w.2.2.1, [])) else (1, 0, w)
theorem leF_full : ∀ (r : List Nat) (w : Nat), leW w r ≠ 7 → leF w r = r.length
  | [], _, _ => rfl
  | c :: r, w, h => by
    unfold leW at h
    unfold leF
    have h7 : nxt w c ≠ 7 := fun e => h (by rw [e]; exact leW_7 r)
    rw [if_neg h7, leF_full r _ h, List.length_cons]
    omega
theorem cpl_eq {kind : Nat} {B : List Nat} : cpl kind B = (decide (rgt kind B = B.length) && whl kind B) := by
  unfold cpl rgt whl
  by_cases e : kind = 2
  · rw [if_pos e, if_pos e, if_pos e]
    by_cases h : leW 0 B = 0
    · rw [decide_eq_true (leF_full B 0 (by omega)), Bool.true_and]
    · rw [decide_eq_false h, Bool.and_false, Bool.and_false]
  · rw [if_neg e, if_neg e, if_neg e, Bool.and_comm]
section OU
variable {z : P0} {KL : Nat → Nat × Nat} {RL : Nat → Nat → Option Nat} {q : Nat → Nat} {b : Nat} {I : Nat → Nat → Int32} {L : Nat → Nat → Int64} {sz : Nat} {ex : Bool} {Q : Res → Mem → Prop} {A : Row}
variable {n : Nat} {H : Nat → Row} {B : List Nat}
theorem RS.buf (hs : RS b I (A, n, H, B)) {k : Nat} (hk : k < B.length) : I (ad b 569) k = nI (B.getD k 0) := hs.2.2.2.2.2.1 k hk
theorem RS.len (hs : RS b I (A, n, H, B)) : I (ad b 566) 3 = nI B.length ∧ B.length ≤ 60 := ⟨hs.2.2.2.1, hs.2.2.2.2.1⟩
theorem RS.chr (hs : RS b I (A, n, H, B)) {k : Nat} (hk : k < B.length) : 33 ≤ B.getD k 0 ∧ B.getD k 0 ≤ 126 := hs.2.2.2.2.2.2 _ (by show B.getD k 0 ∈ B; rw [List.getD_eq_getElem?_getD, List.getElem?_eq_getElem hk]; exact List.getElem_mem _)
theorem getD_mid {D R : List Nat} {c : Nat} : (D ++ c :: R).getD D.length 0 = c := by rw [List.getD_eq_getElem?_getD, List.getElem?_append_right (Nat.le_refl _), Nat.sub_self]; rfl
theorem l133 {X0 : Row} {p g a f : Nat} (hp : p < 20) : ∀ (R D : List Nat) I, D ++ R = B → B.length ≤ 8 → RS b I (updL X0 (153 + 8 * p) D, n, H, B) → (∀ I', RS b I' (updL X0 (153 + 8 * p) B, n, H, []) → Ag pRef b I I' → I' (ad b 566) 5 = I (ad b 566) 5 → Q (.inl (some (.int (nI p)))) (KAt KL b, I', RAt RL b q, L, sz, ex)) →
    X z 133 191 [some (.ref (ad b 566)), some (.int (nI a)), some (.int (nI f)), some (.int (nI g)), some (.int (nI p)), some (.int (nI D.length))] [] (0, 0) (KAt KL b, I, RAt RL b q, L, sz, ex) Q := by
  intro R
  induction R with
  | nil =>
    intro D I hD hB hs hQ
    rw [List.append_nil] at hD
    subst hD
    have hl := hs.len
    have hl1 := hl.1
    rw [v133_191]
    simp (disch := omega) only [v133_193, v133_194, v133_197, v133_200, v133_201, v133_204, v133_207, v133_209, v133_211, v133_212, v133_213, v133_215, v133_216, v133_217, v133_220, v133_222, v133_223, v133_224, v133_227, v133_230, v133_231, v133_232, v133_235, v133_237, k_566, k_567, k_568, k_569, k_570, k_571, k_572, k_573, k_574, k_575, k_576, r_566_0, r_566_2, r_566_4, r_566_6, r_566_7, r_566_8, r_566_9, r_566_10, r_566_11, r_566_13, va_rf_s, n_cl, n_in_t, n_lt_t, n_lt_f, n_eq_t, n_eq_f, n_sub, nI_add, n_mul, ↓reduceIte, if_true, if_false, eq_self, true_or, or_true, and_self, and_true, true_and, Nat.reduceAdd, Nat.reduceMul, Nat.reduceLeDiff, Nat.zero_le, not_true_eq_false, not_false_eq_true, cat2_n, cat2_i, cat2_r, ws_0, ws_i, ws_r, ws_l, ws_d, aftr_n, aftr_s, bI_ok, bI_t, bI_f, up_s, up_n, n_bit, decide_true, decide_false, Bool.not_true, Bool.not_false, Bool.and_true, Bool.true_and, Bool.false_and, Bool.and_false, hl1]
    exact hQ _ hs.clr (Ag.rf.up (by unfold pRef; omega)) (up_n (by omega))
  | cons c R ih =>
    intro D I hD hB hs hQ
    have hl := hs.len
    have hl1 := hl.1
    have hL : D.length + (R.length + 1) = B.length := by rw [← hD, List.length_append, List.length_cons]
    have hb := hs.buf (k := D.length) (by omega)
    have hc := hs.chr (k := D.length) (by omega)
    have hd : B.getD D.length 0 = c := by rw [← hD]; exact getD_mid
    rw [hd] at hb hc
    rw [v133_191]
    simp (disch := omega) only [v133_193, v133_194, v133_197, v133_200, v133_201, v133_204, v133_207, v133_209, v133_211, v133_212, v133_213, v133_215, v133_216, v133_217, v133_220, v133_222, v133_223, v133_224, v133_227, v133_230, v133_231, v133_232, v133_235, v133_237, k_566, k_567, k_568, k_569, k_570, k_571, k_572, k_573, k_574, k_575, k_576, r_566_0, r_566_2, r_566_4, r_566_6, r_566_7, r_566_8, r_566_9, r_566_10, r_566_11, r_566_13, va_rf_s, n_cl, n_in_t, n_lt_t, n_lt_f, n_eq_t, n_eq_f, n_sub, nI_add, n_mul, ↓reduceIte, if_true, if_false, eq_self, true_or, or_true, and_self, and_true, true_and, Nat.reduceAdd, Nat.reduceMul, Nat.reduceLeDiff, Nat.zero_le, not_true_eq_false, not_false_eq_true, cat2_n, cat2_i, cat2_r, ws_0, ws_i, ws_r, ws_l, ws_d, aftr_n, aftr_s, bI_ok, bI_t, bI_f, up_s, up_n, n_bit, decide_true, decide_false, Bool.not_true, Bool.not_false, Bool.and_true, Bool.true_and, Bool.false_and, Bool.and_false, hl1, hb]
    have s2 := hs.setz (k := 153 + 8 * p + D.length) (v := c) (by omega) (by omega)
    rw [updL_snoc] at s2
    have := ih (D ++ [c]) _ (by rw [List.append_assoc]; exact hD) hB s2 (fun I2 q1 q2 q3 => hQ I2 q1 ((Ag.rf.up (by unfold pRef; omega)).tr q2) (q3.trans (up_n (by omega))))
    rwa [List.length_append, List.length_singleton] at this
set_option maxHeartbeats 8000000 in
theorem c133 {a f : Nat} (ha : a < 4294967296) (hf : f < 4294967296) (hs : RS b I (A, n, H, B)) (hg : Good A) (hQ : RQ b I (opAddP (A, n, H, B) a f) fun v I' => Q (.inl (some (.int (nI v)))) (KAt KL b, I', RAt RL b q, L, sz, ex)) : X z 133 0 [some (.ref (ad b 566)), some (.int (nI a)), some (.int (nI f)), none, none, none] [] (0, 0) (KAt KL b, I, RAt RL b q, L, sz, ex) Q := by
  have h6 := hg.1.1
  have hl := hs.len.1
  have hb60 := hs.len.2
  unfold opAddP at hQ
  dsimp only at hQ
  have no : ∀ I1, Ag pSx b I I1 → ¬ ((a ≤ 19 ∧ f ≤ 2) ∧ cpl 0 B = true) → X z 133 43 [some (.ref (ad b 566)), some (.int (nI a)), some (.int (nI f)), none, none, none] [] (0, 0) (KAt KL b, I1, RAt RL b q, L, sz, ex) Q := by
    intro I1 g1 e
    rw [if_neg e] at hQ
    simp (disch := omega) only [v133_43, v133_44, v133_45, v133_46, v133_47, v133_50, v133_51, v133_54, v133_55, v133_58, v133_60, v133_61, v133_63, v133_66, v133_67, v133_70, v133_71, v133_74, v133_75, v133_78, v133_81, v133_82, k_566, k_567, k_568, k_569, k_570, k_571, k_572, k_573, k_574, k_575, k_576, r_566_0, r_566_2, r_566_4, r_566_6, r_566_7, r_566_8, r_566_9, r_566_10, r_566_11, r_566_13, va_rf_s, n_cl, n_in_t, n_lt_t, n_lt_f, n_eq_t, n_eq_f, n_sub, nI_add, n_mul, ↓reduceIte, if_true, if_false, eq_self, true_or, or_true, and_self, and_true, true_and, Nat.reduceAdd, Nat.reduceMul, Nat.reduceLeDiff, Nat.zero_le, not_true_eq_false, not_false_eq_true, cat2_n, cat2_i, cat2_r, ws_0, ws_i, ws_r, ws_l, ws_d, aftr_n, aftr_s, bI_ok, bI_t, bI_f, up_s, up_n, n_bit, decide_true, decide_false, Bool.not_true, Bool.not_false, Bool.and_true, Bool.true_and, Bool.false_and, Bool.and_false]
    exact hQ _ 0 (hs.sx g1).thr up_s ((g1.mn pSx_r).tr (agThr.mn pThr_r)) (fun x => ne_s x)
  by_cases e1 : a ≤ 19
  · by_cases e2 : f ≤ 2
    · simp (disch := omega) only [v133_0, v133_1, v133_2, u133_4, v133_7, v133_10, v133_11, v133_12, u133_13, v133_16, v133_19, v133_20, u133_21, k_566, k_567, k_568, k_569, k_570, k_571, k_572, k_573, k_574, k_575, k_576, r_566_0, r_566_2, r_566_4, r_566_6, r_566_7, r_566_8, r_566_9, r_566_10, r_566_11, r_566_13, va_rf_s, n_cl, n_in_t, n_lt_t, n_lt_f, n_eq_t, n_eq_f, n_sub, nI_add, n_mul, ↓reduceIte, if_true, if_false, eq_self, true_or, or_true, and_self, and_true, true_and, Nat.reduceAdd, Nat.reduceMul, Nat.reduceLeDiff, Nat.zero_le, not_true_eq_false, not_false_eq_true, cat2_n, cat2_i, cat2_r, ws_0, ws_i, ws_r, ws_l, ws_d, aftr_n, aftr_s, bI_ok, bI_t, bI_f, up_s, up_n, n_bit, decide_true, decide_false, Bool.not_true, Bool.not_false, Bool.and_true, Bool.true_and, Bool.false_and, Bool.and_false, c106, n_wi, decide_eq_true e1, decide_eq_true e2]
      refine c150 (by omega) hs (fun I1 g1 h1 => ?_)
      have hl1 : I1 (ad b 566) 3 = nI B.length := (g1.at (fun x => by unfold pSx at x; omega)).trans hl
      have rl : rgt 0 B ≤ B.length := wE_le B 0
      by_cases e3 : rgt 0 B = B.length
      · have hw := (h1 e3).1
        simp (disch := omega) only [v133_24, v133_25, v133_28, v133_31, v133_32, u133_33, v133_36, k_566, k_567, k_568, k_569, k_570, k_571, k_572, k_573, k_574, k_575, k_576, r_566_0, r_566_2, r_566_4, r_566_6, r_566_7, r_566_8, r_566_9, r_566_10, r_566_11, r_566_13, va_rf_s, n_cl, n_in_t, n_lt_t, n_lt_f, n_eq_t, n_eq_f, n_sub, nI_add, n_mul, ↓reduceIte, if_true, if_false, eq_self, true_or, or_true, and_self, and_true, true_and, Nat.reduceAdd, Nat.reduceMul, Nat.reduceLeDiff, Nat.zero_le, not_true_eq_false, not_false_eq_true, cat2_n, cat2_i, cat2_r, ws_0, ws_i, ws_r, ws_l, ws_d, aftr_n, aftr_s, bI_ok, bI_t, bI_f, up_s, up_n, n_bit, decide_true, decide_false, Bool.not_true, Bool.not_false, Bool.and_true, Bool.true_and, Bool.false_and, Bool.and_false, hl1, hw]
        cases hc : whl 0 B with
        | false =>
          rw [if_pos (by rw [bI_f])]
          exact no I1 g1 (fun x => by rw [cpl_eq, hc, Bool.and_false] at x; exact absurd x.2 (by decide))
        | true =>
          rw [if_neg (by rw [bI_t]; exact fun x => absurd (n_inj (by omega) (by omega) x) (by omega))]
          have hcp : cpl 0 B = true := by rw [cpl_eq, hc, decide_eq_true e3]; rfl
          have hB8 : B.length ≤ 8 := by
            have e4 : rgt 0 B = wE 0 0 B := rfl
            have e5 := wE_ldr (kind := 0) B 0 (by omega)
            rw [if_neg (fun x => absurd x.1 (by decide))] at e5
            have := (ldr_le (8 - 0) B).1
            omega
          rw [if_pos ⟨⟨e1, e2⟩, hcp⟩] at hQ
          have hs1 := hs.sx g1
          have hz1 : RZ b I1 A := hs1.rz
          by_cases e6 : A 6 < 20
          · rw [if_pos e6] at hQ
            simp (disch := omega) only [v133_39, v133_40, v133_43, v133_44, v133_45, v133_46, v133_47, v133_50, v133_51, v133_54, v133_55, v133_58, v133_60, v133_61, v133_63, v133_66, v133_67, v133_70, v133_71, v133_74, v133_75, v133_78, v133_81, v133_82, v133_83, u133_84, k_566, k_567, k_568, k_569, k_570, k_571, k_572, k_573, k_574, k_575, k_576, r_566_0, r_566_2, r_566_4, r_566_6, r_566_7, r_566_8, r_566_9, r_566_10, r_566_11, r_566_13, va_rf_s, n_cl, n_in_t, n_lt_t, n_lt_f, n_eq_t, n_eq_f, n_sub, nI_add, n_mul, ↓reduceIte, if_true, if_false, eq_self, true_or, or_true, and_self, and_true, true_and, Nat.reduceAdd, Nat.reduceMul, Nat.reduceLeDiff, Nat.zero_le, not_true_eq_false, not_false_eq_true, cat2_n, cat2_i, cat2_r, ws_0, ws_i, ws_r, ws_l, ws_d, aftr_n, aftr_s, bI_ok, bI_t, bI_f, up_s, up_n, n_bit, decide_true, decide_false, Bool.not_true, Bool.not_false, Bool.and_true, Bool.true_and, Bool.false_and, Bool.and_false, hz1.at]
            refine c107 hs1.thr (fun I2 g2 g3 => ?_)
            have hz2 : RZ b I2 A := g2.rz
            have hl2 : I2 (ad b 566) 3 = nI B.length := g2.len.1
            simp (disch := omega) only [v133_87, v133_88, v133_91, v133_93, v133_94, v133_96, v133_97, v133_100, v133_102, v133_103, v133_104, v133_105, v133_106, v133_107, v133_108, v133_111, v133_113, v133_115, v133_116, v133_117, v133_118, v133_119, v133_122, v133_124, v133_126, v133_127, v133_128, v133_129, v133_130, v133_133, v133_135, v133_137, v133_138, v133_139, v133_140, v133_141, v133_144, v133_146, v133_148, v133_149, v133_150, v133_151, v133_152, v133_155, v133_157, v133_159, v133_160, v133_161, v133_162, v133_163, v133_166, v133_168, v133_170, v133_171, v133_172, v133_173, v133_174, v133_177, v133_180, v133_182, v133_183, v133_184, v133_187, v133_188, v133_189, k_566, k_567, k_568, k_569, k_570, k_571, k_572, k_573, k_574, k_575, k_576, r_566_0, r_566_2, r_566_4, r_566_6, r_566_7, r_566_8, r_566_9, r_566_10, r_566_11, r_566_13, va_rf_s, n_cl, n_in_t, n_lt_t, n_lt_f, n_eq_t, n_eq_f, n_sub, nI_add, n_mul, ↓reduceIte, if_true, if_false, eq_self, true_or, or_true, and_self, and_true, true_and, Nat.reduceAdd, Nat.reduceMul, Nat.reduceLeDiff, Nat.zero_le, not_true_eq_false, not_false_eq_true, cat2_n, cat2_i, cat2_r, ws_0, ws_i, ws_r, ws_l, ws_d, aftr_n, aftr_s, bI_ok, bI_t, bI_f, up_s, up_n, n_bit, decide_true, decide_false, Bool.not_true, Bool.not_false, Bool.and_true, Bool.true_and, Bool.false_and, Bool.and_false, hz2.at, hl2]
            have s2 := (((((((g2.setz (k := 6) (v := A 6 + 1) (by omega) (by omega)).setz (k := 13 + A 6) (v := a) (by omega) ha).setz (k := 33 + A 6) (v := f) (by omega) hf).setz (k := 53 + A 6) (v := 4294967295) (by omega) (by omega)).setz (k := 73 + A 6) (v := 0) (by omega) (by omega)).setz (k := 93 + A 6) (v := 4294967295) (by omega) (by omega)).setz (k := 113 + A 6) (v := 0) (by omega) (by omega)).setz (k := 133 + A 6) (v := B.length) (by omega) (by omega)
            refine l133 (X0 := perR A (A 6) a f B.length) (p := A 6) e6 B [] _ rfl hB8 (by rw [updL_nil]; exact s2) (fun I3 q1 q2 q3 => ?_)
            refine hQ I3 _ q1 (q3.trans ?_) ((((((((((g1.mn pSx_r).tr (agThr.mn pThr_r)).tr (g3.mn pSv_r)).up (by unfold pRef; omega)).up (by unfold pRef; omega)).up (by unfold pRef; omega)).up (by unfold pRef; omega)).up (by unfold pRef; omega)).up (by unfold pRef; omega) |>.up (by unfold pRef; omega) |>.up (by unfold pRef; omega)).tr q2) (fun _ => rfl)
            rw [up_n (by omega), up_n (by omega), up_n (by omega), up_n (by omega), up_n (by omega), up_n (by omega), up_n (by omega), up_n (by omega), g3.at (fun x => by unfold pSv at x; omega), up_s]
          · rw [if_neg e6] at hQ
            simp (disch := omega) only [v133_39, v133_40, v133_43, v133_44, v133_45, v133_46, v133_47, v133_50, v133_51, v133_54, v133_55, v133_58, v133_60, v133_61, v133_63, v133_66, v133_67, v133_70, v133_71, v133_74, v133_75, v133_78, v133_81, v133_82, k_566, k_567, k_568, k_569, k_570, k_571, k_572, k_573, k_574, k_575, k_576, r_566_0, r_566_2, r_566_4, r_566_6, r_566_7, r_566_8, r_566_9, r_566_10, r_566_11, r_566_13, va_rf_s, n_cl, n_in_t, n_lt_t, n_lt_f, n_eq_t, n_eq_f, n_sub, nI_add, n_mul, ↓reduceIte, if_true, if_false, eq_self, true_or, or_true, and_self, and_true, true_and, Nat.reduceAdd, Nat.reduceMul, Nat.reduceLeDiff, Nat.zero_le, not_true_eq_false, not_false_eq_true, cat2_n, cat2_i, cat2_r, ws_0, ws_i, ws_r, ws_l, ws_d, aftr_n, aftr_s, bI_ok, bI_t, bI_f, up_s, up_n, n_bit, decide_true, decide_false, Bool.not_true, Bool.not_false, Bool.and_true, Bool.true_and, Bool.false_and, Bool.and_false, hz1.at]
            exact hQ _ 0 hs1.thr up_s ((g1.mn pSx_r).tr (agThr.mn pThr_r)) (fun x => ne_s x)
      · simp (disch := omega) only [v133_24, v133_25, v133_28, v133_31, v133_32, u133_33, v133_36, k_566, k_567, k_568, k_569, k_570, k_571, k_572, k_573, k_574, k_575, k_576, r_566_0, r_566_2, r_566_4, r_566_6, r_566_7, r_566_8, r_566_9, r_566_10, r_566_11, r_566_13, va_rf_s, n_cl, n_in_t, n_lt_t, n_lt_f, n_eq_t, n_eq_f, n_sub, nI_add, n_mul, ↓reduceIte, if_true, if_false, eq_self, true_or, or_true, and_self, and_true, true_and, Nat.reduceAdd, Nat.reduceMul, Nat.reduceLeDiff, Nat.zero_le, not_true_eq_false, not_false_eq_true, cat2_n, cat2_i, cat2_r, ws_0, ws_i, ws_r, ws_l, ws_d, aftr_n, aftr_s, bI_ok, bI_t, bI_f, up_s, up_n, n_bit, decide_true, decide_false, Bool.not_true, Bool.not_false, Bool.and_true, Bool.true_and, Bool.false_and, Bool.and_false, hl1]
        exact no I1 g1 (fun x => by rw [cpl_eq, decide_eq_false e3, Bool.false_and] at x; exact absurd x.2 (by decide))
    · have := no I Ag.rf (fun x => e2 x.1.2)
      simp (disch := omega) only [v133_0, v133_1, v133_2, u133_4, v133_7, v133_10, v133_11, v133_12, u133_13, v133_16, k_566, k_567, k_568, k_569, k_570, k_571, k_572, k_573, k_574, k_575, k_576, r_566_0, r_566_2, r_566_4, r_566_6, r_566_7, r_566_8, r_566_9, r_566_10, r_566_11, r_566_13, va_rf_s, n_cl, n_in_t, n_lt_t, n_lt_f, n_eq_t, n_eq_f, n_sub, nI_add, n_mul, ↓reduceIte, if_true, if_false, eq_self, true_or, or_true, and_self, and_true, true_and, Nat.reduceAdd, Nat.reduceMul, Nat.reduceLeDiff, Nat.zero_le, not_true_eq_false, not_false_eq_true, cat2_n, cat2_i, cat2_r, ws_0, ws_i, ws_r, ws_l, ws_d, aftr_n, aftr_s, bI_ok, bI_t, bI_f, up_s, up_n, n_bit, decide_true, decide_false, Bool.not_true, Bool.not_false, Bool.and_true, Bool.true_and, Bool.false_and, Bool.and_false, c106, n_wi, decide_eq_true e1, decide_eq_false e2]
      exact this
  · have := no I Ag.rf (fun x => e1 x.1.1)
    simp (disch := omega) only [v133_0, v133_1, v133_2, u133_4, v133_7, v133_10, v133_11, v133_12, u133_13, v133_16, k_566, k_567, k_568, k_569, k_570, k_571, k_572, k_573, k_574, k_575, k_576, r_566_0, r_566_2, r_566_4, r_566_6, r_566_7, r_566_8, r_566_9, r_566_10, r_566_11, r_566_13, va_rf_s, n_cl, n_in_t, n_lt_t, n_lt_f, n_eq_t, n_eq_f, n_sub, nI_add, n_mul, ↓reduceIte, if_true, if_false, eq_self, true_or, or_true, and_self, and_true, true_and, Nat.reduceAdd, Nat.reduceMul, Nat.reduceLeDiff, Nat.zero_le, not_true_eq_false, not_false_eq_true, cat2_n, cat2_i, cat2_r, ws_0, ws_i, ws_r, ws_l, ws_d, aftr_n, aftr_s, bI_ok, bI_t, bI_f, up_s, up_n, n_bit, decide_true, decide_false, Bool.not_true, Bool.not_false, Bool.and_true, Bool.true_and, Bool.false_and, Bool.and_false, c106, n_wi, decide_eq_false e1]
    exact this
end OU
