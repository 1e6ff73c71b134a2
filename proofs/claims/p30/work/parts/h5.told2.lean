/-! THE LAW: all letters told, all persons, what comes of it; sending -/
/-- the persons of the letters that go, as a mask -/
def goM (A : Row) : Nat → Nat
  | 0 => 0
  | g + 1 => if sentB A ((grps A).2 g) = true then goM A g ||| maskL ((grps A).2 g) else goM A g
theorem goM_bit {A : Row} : ∀ (N p : Nat), (goM A N).testBit p = true ↔ ∃ g, g < N ∧ sentB A ((grps A).2 g) = true ∧ p ∈ (grps A).2 g
  | 0, p => by unfold goM; simp
  | N + 1, p => by
    unfold goM
    have ih := goM_bit (A := A) N p
    by_cases e : sentB A ((grps A).2 N) = true
    · rw [if_pos e, Nat.testBit_or, Bool.or_eq_true, ih, maskL_t, decide_eq_true_eq]
      constructor
      · rintro (⟨g, h1, h2, h3⟩ | h)
        · exact ⟨g, by omega, h2, h3⟩
        · exact ⟨N, by omega, e, h⟩
      · rintro ⟨g, h1, h2, h3⟩
        by_cases eg : g = N
        · subst eg; exact Or.inr h3
        · exact Or.inl ⟨g, by omega, h2, h3⟩
    · rw [if_neg e, ih]
      constructor
      · rintro ⟨g, h1, h2, h3⟩; exact ⟨g, by omega, h2, h3⟩
      · rintro ⟨g, h1, h2, h3⟩
        by_cases eg : g = N
        · subst eg; exact absurd h2 e
        · exact ⟨g, by omega, h2, h3⟩
theorem goM_snt {A : Row} (hg : Good A) {p : Nat} (hp : p < A 6) : (goM A (grps A).1).testBit p = snt A p := by
  rw [Bool.eq_iff_iff, goM_bit]
  unfold snt
  rw [Bool.and_eq_true, decide_eq_true_eq]
  constructor
  · rintro ⟨g, h1, h2, h3⟩
    have ml := (mem_lof (A := A) (A 6) g p).mp h3
    exact ⟨ml.2.1, by rw [ml.2.2]; exact h2⟩
  · rintro ⟨h1, h2⟩
    have lt := lof_lt hg (A 6) p hp h1
    exact ⟨lof A p, lt, h2, (mem_lof (A := A) (A 6) (lof A p) p).mpr ⟨hp, h1, rfl⟩⟩
theorem goM_lt {A : Row} (hg : Good A) : ∀ N, N ≤ (grps A).1 → goM A N < 2147483648 := fun N hN => Nat.lt_of_lt_of_le (Nat.lt_pow_two_of_testBit (n := 20) _ fun i hi => by
  cases hb : (goM A N).testBit i with
  | false => rfl
  | true =>
    obtain ⟨g, h1, h2, h3⟩ := (goM_bit N i).mp hb
    have := (grps_ok hg (show g < (grps A).1 by omega)).2.2.1 i h3
    have := hg.1.1
    omega) (by decide)
theorem totS_F {A : Row} {w : Nat} : totS A w = sumF (totF A w) 0 (grps A).1 := rfl
section LN
variable {z : P0} {KL : Nat → Nat × Nat} {RL : Nat → Nat → Option Nat} {q : Nat → Nat} {b : Nat} {I : Nat → Nat → Int32} {L : Nat → Nat → Int64} {sz : Nat} {ex : Bool} {Q : Res → Mem → Prop} {A : Row}
variable {n m t g : Nat} {H : Nat → Row} {B : List Nat}
set_option maxHeartbeats 8000000 in
/-- letter by letter -/
theorem t36 {sd r c0 n0 : Nat} (hk : KAt KL b (ad b t) = (20, 10)) (ht : 577 ≤ t) (hgd : Good A) (hlt : LwT A) (hr : r = (A 8 + A 6 + A 12) % (grps A).1) (hc0 : c0 ≤ 10) (hn0 : n0 ≤ 100)
    (hQ : ∀ I1 q1 c n x19 x20 x21 x22, c ≤ c0 + 44 * 12 + 1660 → n ≤ n0 + 264 * 12 + 9960 → TD KL RL z b I1 q1 A m H B → (∀ a, a < b → I1 a = I a) → X z 213 417 [some (.ref (ad b 0)), some (.int (nI (sd))), some (.ref (ad b 566)), some (.ref (ad b 567)), some (.ref (ad b 568)), some (.ref (ad b 569)), some (.ref (ad b 570)), some (.ref (ad b 571)), some (.ref (ad b 572)), some (.ref (ad b 573)), some (.ref (ad b 574)), some (.ref (ad b 575)), some (.ref (ad b 576)), some (.ref (ad b t)), some (.int (nI (totS A 0))), some (.int (nI (totS A 1))), some (.int (nI (totS A 2))), some (.int (nI (goM A (grps A).1))), some (.int (nI ((grps A).1))), x19, x20, x21, x22] [] (c, n) (KAt KL b, I1, RAt RL b (q1), L, sz, ex) Q) :
    ∀ d g I1 q1 c n x19 x20 x21 x22, g + d = (grps A).1 → c ≤ c0 + 44 * g + (if r < g then 1660 else 0) → n ≤ n0 + 264 * g + (if r < g then 9960 else 0) → TD KL RL z b I1 q1 A m H B → (∀ a, a < b → I1 a = I a) → X z 213 36 [some (.ref (ad b 0)), some (.int (nI (sd))), some (.ref (ad b 566)), some (.ref (ad b 567)), some (.ref (ad b 568)), some (.ref (ad b 569)), some (.ref (ad b 570)), some (.ref (ad b 571)), some (.ref (ad b 572)), some (.ref (ad b 573)), some (.ref (ad b 574)), some (.ref (ad b 575)), some (.ref (ad b 576)), some (.ref (ad b t)), some (.int (nI (sumF (totF A 0) 0 g))), some (.int (nI (sumF (totF A 1) 0 g))), some (.int (nI (sumF (totF A 2) 0 g))), some (.int (nI (goM A g))), some (.int (nI (g))), x19, x20, x21, x22] [] (c, n) (KAt KL b, I1, RAt RL b (q1), L, sz, ex) Q := by
  have gn := grps_le hgd
  have h6 := hgd.1.1
  have h12 := hlt.2.2.1
  have h24 := hlt.2.2.2.2
  have h8 := hgd.1.2.2.2
  have hg2 := hgd.2.1
  intro d
  induction d with
  | zero =>
    intro g I1 q1 c n x19 x20 x21 x22 h hc hn hT hlo
    obtain rfl : g = (grps A).1 := by omega
    have k14 := hT.2.2.2.2.2.2.2.1
    rw [v213_36]
    simp (disch := omega) only [v213_38, v213_39, v213_41, v213_42, Nat.add_zero, n_cl, n_in_t, n_lt_t, n_lt_f, n_eq_t, n_eq_f, n_sub, nI_add, n_mul, n_01, ↓reduceIte, if_true, if_false, eq_self, true_or, or_true, and_self, and_true, true_and, Nat.reduceAdd, Nat.reduceMul, Nat.reduceLeDiff, Nat.zero_le, not_true_eq_false, not_false_eq_true, cat2_n, cat2_i, cat2_r, ws_0, ws_i, ws_r, ws_l, ws_d, aftr_n, aftr_s, bI_ok, bI_t, bI_f, up_s, up_n, n_bit, decide_true, decide_false, Bool.not_true, Bool.not_false, Bool.and_true, Bool.true_and, Bool.false_and, Bool.and_false, n_nlt0, n_neg_t, n_neg_f, k_0, k_566, k_567, k_568, k_569, k_570, k_571, k_572, k_573, k_574, k_575, k_576, k14]
    exact hQ I1 q1 c n x19 x20 x21 x22 (by split at hc <;> omega) (by split at hn <;> omega) hT hlo
  | succ d ih =>
    intro g I1 q1 c n x19 x20 x21 x22 h hc hn hT hlo
    have hgl : g < (grps A).1 := by omega
    have ok := grps_ok hgd hgl
    have h20 : ∀ x ∈ (grps A).2 g, x < 20 := fun x hx => by have := ok.2.2.1 x hx; omega
    have tl := textT_len hgd ok
    have k14 := hT.2.2.2.2.2.2.2.1
    have kg := hT.2.2.2.2.2.2.2.2 g hgl
    have cb0 : c ≤ 2250 := by split at hc <;> omega
    have nb0 : n ≤ 14000 := by split at hn <;> omega
    rw [v213_36]
    simp (disch := omega) only [v213_38, v213_39, v213_41, v213_42, v213_45, v213_47, v213_48, v213_50, v213_52, v213_53, v213_55, v213_57, v213_59, v213_61, u213_63, Nat.add_zero, n_cl, n_in_t, n_lt_t, n_lt_f, n_eq_t, n_eq_f, n_sub, nI_add, n_mul, n_01, ↓reduceIte, if_true, if_false, eq_self, true_or, or_true, and_self, and_true, true_and, Nat.reduceAdd, Nat.reduceMul, Nat.reduceLeDiff, Nat.zero_le, not_true_eq_false, not_false_eq_true, cat2_n, cat2_i, cat2_r, ws_0, ws_i, ws_r, ws_l, ws_d, aftr_n, aftr_s, bI_ok, bI_t, bI_f, up_s, up_n, n_bit, decide_true, decide_false, Bool.not_true, Bool.not_false, Bool.and_true, Bool.true_and, Bool.false_and, Bool.and_false, n_nlt0, n_neg_t, n_neg_f, k_0, k_566, k_567, k_568, k_569, k_570, k_571, k_572, k_573, k_574, k_575, k_576, leq_t, k14, kg]
    refine c211 hgd hlt hk ht ok hT.2.2.2.2.2.1 (fun I2 o2 g2 => ?_)
    have T2 := hT.st ht g2
    have o26 := o2.2.2.1
    have m12 : I2 (ad b 566) 12 = nI (A 4) := T2.2.2.2.2.2.1.1.2 4 (by omega)
    have bd := lay_bd hgd ok
    have lo2 : ∀ a, a < b → I2 a = I a := fun a ha => (g2.1 a ha).trans (hlo a ha)
    have pg2 : sentB A ((grps A).2 g) = decide ((layT (A 0) (A 1) (textT A ((grps A).2 g))).2 ≤ A 4) := rfl
    have pgb : (layT (A 0) (A 1) (textT A ((grps A).2 g))).2 ≤ 4000 := bd.2
    -- behind the signs
    have after : ∀ I3 q3 c' n' (x20 : Option Value) (v21 : Int32) (x22 : Option Value), c' ≤ c0 + 44 * g + (if r < g + 1 then 1660 else 0) → n' ≤ n0 + 264 * g + (if r < g + 1 then 9960 else 0) → TD KL RL z b I3 q3 A m H B → OE b I3 t (A 0) (A 1) (textT A ((grps A).2 g)) → (∀ a, a < b → I3 a = I a) →
        X z 213 170 [some (.ref (ad b 0)), some (.int (nI (sd))), some (.ref (ad b 566)), some (.ref (ad b 567)), some (.ref (ad b 568)), some (.ref (ad b 569)), some (.ref (ad b 570)), some (.ref (ad b 571)), some (.ref (ad b 572)), some (.ref (ad b 573)), some (.ref (ad b 574)), some (.ref (ad b 575)), some (.ref (ad b 576)), some (.ref (ad b t)), some (.int (nI (sumF (totF A 0) 0 g))), some (.int (nI (sumF (totF A 1) 0 g))), some (.int (nI (sumF (totF A 2) 0 g))), some (.int (nI (goM A g))), some (.int (nI (g))), some (.int (bI (sentB A ((grps A).2 g)))), x20, some (.int v21), x22] [] (c', n') (KAt KL b, I3, RAt RL b (q3), L, sz, ex) Q := by
      intro I3 q3 c' n' x20 v21 x22 hc' hn' T3 o3 lo3
      have cb : c' ≤ 2250 := by split at hc' <;> omega
      have nb : n' ≤ 14000 := by split at hn' <;> omega
      refine t170 hk ht hgl T3 o3 (by omega) (by omega) (fun I4 q4 c4 n4 hc4 hn4 T4 o4 g4 => ?_)
      simp (disch := omega) only [v213_289, v213_290, Nat.add_zero, n_cl, n_in_t, n_lt_t, n_lt_f, n_eq_t, n_eq_f, n_sub, nI_add, n_mul, n_01, ↓reduceIte, if_true, if_false, eq_self, true_or, or_true, and_self, and_true, true_and, Nat.reduceAdd, Nat.reduceMul, Nat.reduceLeDiff, Nat.zero_le, not_true_eq_false, not_false_eq_true, cat2_n, cat2_i, cat2_r, ws_0, ws_i, ws_r, ws_l, ws_d, aftr_n, aftr_s, bI_ok, bI_t, bI_f, up_s, up_n, n_bit, decide_true, decide_false, Bool.not_true, Bool.not_false, Bool.and_true, Bool.true_and, Bool.false_and, Bool.and_false, n_nlt0, n_neg_t, n_neg_f, k_0, k_566, k_567, k_568, k_569, k_570, k_571, k_572, k_573, k_574, k_575, k_576]
      refine t292 (c0 := c4) (n0 := n4) ht hgl hgd (by omega) (by omega) h12 (T := textT A ((grps A).2 g)) (fun I5 q5 c5 n5 hc5 hn5 T5 o5 g5 => ?_) (A 6) 0 I4 q4 c4 n4 (by omega) (by omega) (by omega) T4 o4 Ag.rf
      have lo5 : ∀ a, a < b → I5 a = I a := fun a ha => ((g5.1 a ha).trans (g4.1 a ha)).trans (lo3 a ha)
      have s0 : sumF (totF A 0) 0 (g + 1) = sumF (totF A 0) 0 g + totF A 0 g := by rw [sumF_snoc, Nat.zero_add]
      have s1 : sumF (totF A 1) 0 (g + 1) = sumF (totF A 1) 0 g + totF A 1 g := by rw [sumF_snoc, Nat.zero_add]
      have s2 : sumF (totF A 2) 0 (g + 1) = sumF (totF A 2) 0 g + totF A 2 g := by rw [sumF_snoc, Nat.zero_add]
      have gg : goM A (g + 1) = if sentB A ((grps A).2 g) = true then goM A g ||| maskL ((grps A).2 g) else goM A g := rfl
      have nx := ih (g + 1) I5 q5 c5 n5 (some (.int (bI (sentB A ((grps A).2 g))))) x20 (some (.int v21)) (some (.int (nI (A 6)))) (by omega) (by omega) (by omega) T5 lo5
      rw [s0, s1, s2, gg] at nx
      have k5 := T5.2.2.2.2.2.2.2.2 g hgl
      have o56 := o5.2.2.1
      cases hs : sentB A ((grps A).2 g) with
      | true =>
        have f0 : totF A 0 g = 1 := by unfold totF; rw [hs]; rfl
        have f1 : totF A 1 g = ((grps A).2 g).length := by unfold totF; rw [hs]; rfl
        have f2 : totF A 2 g = (layT (A 0) (A 1) (textT A ((grps A).2 g))).2 := by unfold totF; rw [hs]; rfl
        rw [f0, f1, f2, hs, if_pos rfl, bI_t] at nx
        simp (disch := omega) only [v213_370, v213_372, v213_375, v213_378, v213_380, v213_382, v213_384, u213_385, v213_388, v213_389, v213_391, v213_393, v213_395, v213_397, v213_398, v213_399, v213_401, v213_403, v213_405, v213_407, v213_408, v213_409, v213_411, v213_414, Nat.add_zero, n_cl, n_in_t, n_lt_t, n_lt_f, n_eq_t, n_eq_f, n_sub, nI_add, n_mul, n_01, ↓reduceIte, if_true, if_false, eq_self, true_or, or_true, and_self, and_true, true_and, Nat.reduceAdd, Nat.reduceMul, Nat.reduceLeDiff, Nat.zero_le, not_true_eq_false, not_false_eq_true, cat2_n, cat2_i, cat2_r, ws_0, ws_i, ws_r, ws_l, ws_d, aftr_n, aftr_s, bI_ok, bI_t, bI_f, up_s, up_n, n_bit, decide_true, decide_false, Bool.not_true, Bool.not_false, Bool.and_true, Bool.true_and, Bool.false_and, Bool.and_false, n_nlt0, n_neg_t, n_neg_f, k_0, k_566, k_567, k_568, k_569, k_570, k_571, k_572, k_573, k_574, k_575, k_576, leq_t, hk, k5, o56, c206 ok.1 h20, n_or]
        exact nx
      | false =>
        have f0 : totF A 0 g = 0 := by unfold totF; rw [hs]; rfl
        have f1 : totF A 1 g = 0 := by unfold totF; rw [hs]; rfl
        have f2 : totF A 2 g = 0 := by unfold totF; rw [hs]; rfl
        rw [f0, f1, f2, hs, if_neg (by decide), bI_f, Nat.add_zero, Nat.add_zero, Nat.add_zero] at nx
        simp (disch := omega) only [v213_370, v213_372, v213_375, v213_378, v213_380, v213_382, v213_384, u213_385, v213_388, v213_389, v213_391, v213_393, v213_395, v213_397, v213_398, v213_399, v213_401, v213_403, v213_405, v213_407, v213_408, v213_409, v213_411, v213_414, Nat.add_zero, n_cl, n_in_t, n_lt_t, n_lt_f, n_eq_t, n_eq_f, n_sub, nI_add, n_mul, n_01, ↓reduceIte, if_true, if_false, eq_self, true_or, or_true, and_self, and_true, true_and, Nat.reduceAdd, Nat.reduceMul, Nat.reduceLeDiff, Nat.zero_le, not_true_eq_false, not_false_eq_true, cat2_n, cat2_i, cat2_r, ws_0, ws_i, ws_r, ws_l, ws_d, aftr_n, aftr_s, bI_ok, bI_t, bI_f, up_s, up_n, n_bit, decide_true, decide_false, Bool.not_true, Bool.not_false, Bool.and_true, Bool.true_and, Bool.false_and, Bool.and_false, n_nlt0, n_neg_t, n_neg_f, k_0, k_566, k_567, k_568, k_569, k_570, k_571, k_572, k_573, k_574, k_575, k_576]
        exact nx
    have k85 : X z 213 85 [some (.ref (ad b 0)), some (.int (nI (sd))), some (.ref (ad b 566)), some (.ref (ad b 567)), some (.ref (ad b 568)), some (.ref (ad b 569)), some (.ref (ad b 570)), some (.ref (ad b 571)), some (.ref (ad b 572)), some (.ref (ad b 573)), some (.ref (ad b 574)), some (.ref (ad b 575)), some (.ref (ad b 576)), some (.ref (ad b t)), some (.int (nI (sumF (totF A 0) 0 g))), some (.int (nI (sumF (totF A 1) 0 g))), some (.int (nI (sumF (totF A 2) 0 g))), some (.int (nI (goM A g))), some (.int (nI (g))), some (.int (bI (sentB A ((grps A).2 g)))), x20, x21, x22] [] (c, n) (KAt KL b, I2, RAt RL b (q1), L, sz, ex) Q := by
      have k14' := T2.2.2.2.2.2.2.2.1
      obtain ⟨⟨m0, -, m2, m3, -⟩, -⟩ := T2.2.2.2.2.2.1.1
      have rl : r < (grps A).1 := by rw [hr]; exact Nat.mod_lt _ (by omega)
      have o20 := o2.1
      by_cases ef : g = r
      · subst ef
        have hc2 : c ≤ c0 + 44 * g := by rw [if_neg (Nat.lt_irrefl g)] at hc; omega
        have hn2 : n ≤ n0 + 264 * g := by rw [if_neg (Nat.lt_irrefl g)] at hn; omega
        simp (disch := omega) only [v213_85, v213_86, v213_88, v213_90, v213_91, v213_92, v213_93, v213_94, v213_95, v213_96, v213_97, v213_98, v213_99, v213_100, v213_101, v213_102, v213_104, v213_105, v213_106, v213_109, v213_110, v213_113, v213_114, v213_116, v213_117, Nat.add_zero, n_cl, n_in_t, n_lt_t, n_lt_f, n_eq_t, n_eq_f, n_sub, nI_add, n_mul, n_01, ↓reduceIte, if_true, if_false, eq_self, true_or, or_true, and_self, and_true, true_and, Nat.reduceAdd, Nat.reduceMul, Nat.reduceLeDiff, Nat.zero_le, not_true_eq_false, not_false_eq_true, cat2_n, cat2_i, cat2_r, ws_0, ws_i, ws_r, ws_l, ws_d, aftr_n, aftr_s, bI_ok, bI_t, bI_f, up_s, up_n, n_bit, decide_true, decide_false, Bool.not_true, Bool.not_false, Bool.and_true, Bool.true_and, Bool.false_and, Bool.and_false, n_nlt0, n_neg_t, n_neg_f, k_0, k_566, k_567, k_568, k_569, k_570, k_571, k_572, k_573, k_574, k_575, k_576, n_z, n_rem, m0, m2, m3, k14', ← hr]
        have := t119 (Q := Q) (z := z) (KL := KL) (RL := RL) (L := L) (sz := sz) (ex := ex) (b := b) (I := I2) (A := A) (m := m) (H := H) (B := B) (g := g) (t := t) (sd := sd) (c0 := c) (n0 := n) (x14 := some (.int (nI (sumF (totF A 0) 0 g)))) (x15 := some (.int (nI (sumF (totF A 1) 0 g)))) (x16 := some (.int (nI (sumF (totF A 2) 0 g)))) (x17 := some (.int (nI (goM A g)))) (v19 := bI (sentB A ((grps A).2 g))) (T := textT A ((grps A).2 g)) rfl hk ht hgl tl (fun I3 q3 c3 n3 hc3 hn3 T3 o3 g3 => by
          have o39 := o3.2.2.2
          simp (disch := omega) only [v213_155, v213_157, v213_160, v213_162, v213_164, v213_166, v213_167, Nat.add_zero, n_cl, n_in_t, n_lt_t, n_lt_f, n_eq_t, n_eq_f, n_sub, nI_add, n_mul, n_01, ↓reduceIte, if_true, if_false, eq_self, true_or, or_true, and_self, and_true, true_and, Nat.reduceAdd, Nat.reduceMul, Nat.reduceLeDiff, Nat.zero_le, not_true_eq_false, not_false_eq_true, cat2_n, cat2_i, cat2_r, ws_0, ws_i, ws_r, ws_l, ws_d, aftr_n, aftr_s, bI_ok, bI_t, bI_f, up_s, up_n, n_bit, decide_true, decide_false, Bool.not_true, Bool.not_false, Bool.and_true, Bool.true_and, Bool.false_and, Bool.and_false, n_nlt0, n_neg_t, n_neg_f, k_0, k_566, k_567, k_568, k_569, k_570, k_571, k_572, k_573, k_574, k_575, k_576, hk, o39]
          exact after I3 q3 c3 n3 _ _ _ (by rw [if_pos (Nat.lt_succ_self g)]; omega) (by rw [if_pos (Nat.lt_succ_self g)]; omega) T3 o3 (fun a ha => (g3.1 a ha).trans (lo2 a ha))) (by omega) (by omega) (textT A ((grps A).2 g)).length 0 I2 q1 c n (by omega) (by omega) (by omega) T2 o2 Ag.rf
        exact this
      · have ec : (if r < g + 1 then 1660 else 0) = (if r < g then 1660 else 0) := by split <;> split <;> omega
        have en : (if r < g + 1 then 9960 else 0) = (if r < g then 9960 else 0) := by split <;> split <;> omega
        have af := after I2 q1 c n (some (.int (nI 0))) (nI 0) (some (.int (nI 0))) (by rw [ec]; exact hc) (by rw [en]; exact hn) T2 o2 lo2
        by_cases e0 : (textT A ((grps A).2 g)).length = 0
        · simp (disch := omega) only [v213_85, v213_86, v213_88, v213_90, v213_91, v213_92, v213_93, v213_94, v213_95, v213_96, v213_97, v213_98, v213_99, v213_100, v213_101, v213_102, v213_104, v213_105, v213_106, v213_109, v213_110, v213_113, v213_114, v213_116, v213_117, v213_119, v213_121, v213_123, v213_124, v213_125, v213_128, v213_130, v213_133, v213_135, v213_137, v213_138, v213_139, v213_141, u213_143, v213_146, v213_147, v213_149, v213_152, v213_155, v213_157, Nat.add_zero, n_cl, n_in_t, n_lt_t, n_lt_f, n_eq_t, n_eq_f, n_sub, nI_add, n_mul, n_01, ↓reduceIte, if_true, if_false, eq_self, true_or, or_true, and_self, and_true, true_and, Nat.reduceAdd, Nat.reduceMul, Nat.reduceLeDiff, Nat.zero_le, not_true_eq_false, not_false_eq_true, cat2_n, cat2_i, cat2_r, ws_0, ws_i, ws_r, ws_l, ws_d, aftr_n, aftr_s, bI_ok, bI_t, bI_f, up_s, up_n, n_bit, decide_true, decide_false, Bool.not_true, Bool.not_false, Bool.and_true, Bool.true_and, Bool.false_and, Bool.and_false, n_nlt0, n_neg_t, n_neg_f, k_0, k_566, k_567, k_568, k_569, k_570, k_571, k_572, k_573, k_574, k_575, k_576, n_z, n_rem, m0, m2, m3, k14', ← hr, hk, o20]
          exact af
        · simp (disch := omega) only [v213_85, v213_86, v213_88, v213_90, v213_91, v213_92, v213_93, v213_94, v213_95, v213_96, v213_97, v213_98, v213_99, v213_100, v213_101, v213_102, v213_104, v213_105, v213_106, v213_109, v213_110, v213_113, v213_114, v213_116, v213_117, v213_119, v213_121, v213_123, v213_124, v213_125, v213_128, v213_130, v213_133, v213_135, v213_137, v213_138, v213_139, v213_141, u213_143, v213_146, v213_147, v213_149, v213_152, v213_155, v213_157, Nat.add_zero, n_cl, n_in_t, n_lt_t, n_lt_f, n_eq_t, n_eq_f, n_sub, nI_add, n_mul, n_01, ↓reduceIte, if_true, if_false, eq_self, true_or, or_true, and_self, and_true, true_and, Nat.reduceAdd, Nat.reduceMul, Nat.reduceLeDiff, Nat.zero_le, not_true_eq_false, not_false_eq_true, cat2_n, cat2_i, cat2_r, ws_0, ws_i, ws_r, ws_l, ws_d, aftr_n, aftr_s, bI_ok, bI_t, bI_f, up_s, up_n, n_bit, decide_true, decide_false, Bool.not_true, Bool.not_false, Bool.and_true, Bool.true_and, Bool.false_and, Bool.and_false, n_nlt0, n_neg_t, n_neg_f, k_0, k_566, k_567, k_568, k_569, k_570, k_571, k_572, k_573, k_574, k_575, k_576, n_z, n_rem, m0, m2, m3, k14', ← hr, hk, o20]
          exact af
    cases hs : sentB A ((grps A).2 g) with
    | true =>
      rw [hs, bI_t] at k85
      rw [hs] at pg2
      have := of_decide_eq_true pg2.symm
      simp (disch := omega) only [v213_66, v213_68, v213_70, v213_71, v213_72, v213_74, v213_75, v213_78, v213_79, v213_82, v213_83, Nat.add_zero, n_cl, n_in_t, n_lt_t, n_lt_f, n_eq_t, n_eq_f, n_sub, nI_add, n_mul, n_01, ↓reduceIte, if_true, if_false, eq_self, true_or, or_true, and_self, and_true, true_and, Nat.reduceAdd, Nat.reduceMul, Nat.reduceLeDiff, Nat.zero_le, not_true_eq_false, not_false_eq_true, cat2_n, cat2_i, cat2_r, ws_0, ws_i, ws_r, ws_l, ws_d, aftr_n, aftr_s, bI_ok, bI_t, bI_f, up_s, up_n, n_bit, decide_true, decide_false, Bool.not_true, Bool.not_false, Bool.and_true, Bool.true_and, Bool.false_and, Bool.and_false, n_nlt0, n_neg_t, n_neg_f, k_0, k_566, k_567, k_568, k_569, k_570, k_571, k_572, k_573, k_574, k_575, k_576, hk, o26, m12]
      exact k85
    | false =>
      rw [hs, bI_f] at k85
      rw [hs] at pg2
      have := of_decide_eq_false pg2.symm
      simp (disch := omega) only [v213_66, v213_68, v213_70, v213_71, v213_72, v213_74, v213_75, v213_78, v213_79, v213_82, v213_83, Nat.add_zero, n_cl, n_in_t, n_lt_t, n_lt_f, n_eq_t, n_eq_f, n_sub, nI_add, n_mul, n_01, ↓reduceIte, if_true, if_false, eq_self, true_or, or_true, and_self, and_true, true_and, Nat.reduceAdd, Nat.reduceMul, Nat.reduceLeDiff, Nat.zero_le, not_true_eq_false, not_false_eq_true, cat2_n, cat2_i, cat2_r, ws_0, ws_i, ws_r, ws_l, ws_d, aftr_n, aftr_s, bI_ok, bI_t, bI_f, up_s, up_n, n_bit, decide_true, decide_false, Bool.not_true, Bool.not_false, Bool.and_true, Bool.true_and, Bool.false_and, Bool.and_false, n_nlt0, n_neg_t, n_neg_f, k_0, k_566, k_567, k_568, k_569, k_570, k_571, k_572, k_573, k_574, k_575, k_576, hk, o26, m12]
      exact k85
end LN
