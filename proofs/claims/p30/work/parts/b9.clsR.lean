/-! THE CLASS: sending -/
theorem raw_0 {A : Row} : (raw A).length = 0 ↔ A 12 = 0 := by
  unfold raw toks
  constructor
  · intro h
    cases e : A 12 with
    | zero => rfl
    | succ d =>
      rw [e] at h
      unfold segF at h
      rw [List.flatMap_cons, List.length_append] at h
      have : (exT (A (413 + 0))).length ≠ 0 := by unfold exT; split <;> simp
      omega
  · intro h; rw [h]; rfl
theorem rsn_le {A : Row} {p : Nat} : rsn A p ≤ 4 := by
  unfold rsn reas
  repeat' split
  all_goals omega
theorem rsn_0 {A : Row} {p : Nat} : rsn A p = 0 ↔ snt A p = true := by
  unfold rsn snt
  by_cases e : reas A p (A 8) = 0
  · rw [if_pos e, decide_eq_true e, Bool.true_and]
    by_cases e2 : sentB A ((grps A).2 (lof A p)) = true
    · rw [if_pos e2]; exact ⟨fun _ => e2, fun _ => rfl⟩
    · rw [if_neg e2]; exact ⟨fun x => absurd x (by omega), fun x => absurd x e2⟩
  · rw [if_neg e, decide_eq_false e, Bool.false_and]; exact ⟨fun x => absurd x e, fun x => absurd x (by decide)⟩
def sndQ (A : Row) (p : Nat) : Row := fun k => if 9 ≤ k ∧ k ≤ 11 then A k else sendP A p k
theorem sndQ_0 {A : Row} : sndQ A 0 = A := by
  funext k
  unfold sndQ
  by_cases e : 9 ≤ k ∧ k ≤ 11
  · rw [if_pos e]
  · rw [if_neg e, sendP_k (by omega) (by omega)]
theorem sndQ_t {A : Row} {p : Nat} (hp : p < 20) (h : snt A p = true) : sndQ A (p + 1) = upr (upr (sndQ A p) (93 + p) (A 8)) (113 + p) ((A (113 + p) + 1) % 4294967296) := by
  funext k
  unfold sndQ
  by_cases e : 9 ≤ k ∧ k ≤ 11
  · rw [if_pos e, upr_n (by omega), upr_n (by omega), if_pos e]
  · rw [if_neg e, sendP_t hp h]
    unfold upr
    dsimp only
    rw [if_neg e]
theorem sndQ_f {A : Row} {p : Nat} (h : snt A p = false) : sndQ A (p + 1) = sndQ A p := by unfold sndQ; rw [sendP_f h]
theorem sndQ_k {A : Row} {p k : Nat} (hp : p ≤ 20) (h : ¬ ((93 ≤ k ∧ k < 93 + p) ∨ (113 ≤ k ∧ k < 113 + p))) : sndQ A p k = A k := by
  unfold sndQ
  by_cases e : 9 ≤ k ∧ k ≤ 11
  · rw [if_pos e]
  · rw [if_neg e, sendP_k hp (by omega)]
theorem sndQ_all {A : Row} {p : Nat} : upr (upr (upr (sndQ A p) 9 ((A 9 + totS A 0) % 4294967296)) 10 ((A 10 + totS A 2) % 4294967296)) 11 ((A 11 + totS A 3) % 4294967296) = sendP A p := by
  funext k
  by_cases e : 9 ≤ k ∧ k ≤ 11
  · rcases (show k = 9 ∨ k = 10 ∨ k = 11 by omega) with rfl | rfl | rfl
    · rw [upr_n (by omega), upr_n (by omega), upr_s]; rfl
    · rw [upr_n (by omega), upr_s]; rfl
    · rw [upr_s]; rfl
  · rw [upr_n (by omega), upr_n (by omega), upr_n (by omega)]
    unfold sndQ
    rw [if_neg e]
theorem good_sndQ {A : Row} (hg : Good A) : ∀ p, p ≤ 20 → Good (sndQ A p)
  | 0, _ => by rw [sndQ_0]; exact hg
  | p + 1, hp => by
    have ih := good_sndQ hg p (by omega)
    cases h : snt A p with
    | false => rw [sndQ_f h]; exact ih
    | true =>
      have e8 : sndQ A p 8 = A 8 := sndQ_k (by omega) (by omega)
      rw [sndQ_t (by omega) h]
      exact (ih.up (by omega) (by omega) (by omega) (by omega) (by omega) (fun _ _ => Or.inr (by omega))).up (by omega) (by omega) (by omega) (by omega) (by omega) (by omega)
theorem good_send {A : Row} (hg : Good A) : Good (sendP A (A 6)) := by
  rw [← sndQ_all]
  exact (((good_sndQ hg _ hg.1.1).up (by omega) (by omega) (by omega) (by omega) (by omega) (by omega)).up (by omega) (by omega) (by omega) (by omega) (by omega) (by omega)).up (by omega) (by omega) (by omega) (by omega) (by omega) (by omega)
section CRR
variable {z : P0} {KL : Nat → Nat × Nat} {RL : Nat → Nat → Option Nat} {q : Nat → Nat} {b : Nat} {I : Nat → Nat → Int32} {L : Nat → Nat → Int64} {sz : Nat} {ex : Bool} {Q : Res → Mem → Prop} {A : Row}
variable {n : Nat} {H : Nat → Row} {B : List Nat} {s : Nat}
def pSn (o _j : Nat) : Prop := 1 ≤ o ∧ o < 67
theorem prep (hw : CSt b I q (A, n, H, B)) (hg : GoodW (A, n, H, B)) (hm : Sm A) (hz : SZ KL RL b I z) (hQ : ∀ I', MZ b I' pP A → CSt b I' q (A, n, H, B) → Ag (pMl pP) b I I' → Q (.inl none) (KAt KL b, I', RAt RL b q, L, sz, ex)) :
    X z 38 0 [some (.ref (ad b pP)), some (.ref (ad b sN)), some (.ref (ad b (sN + 5))), none, none] [] (0, 0) (KAt KL b, I, RAt RL b q, L, sz, ex) Q := by
  have sn : sN = 1 := rfl
  have pn : pP = 473 := rfl
  refine c38 isS_N isM_P hg.1 hm (kS5 isS_N) (Or.inl (by omega)) hz hw.1.1 hw.1.2 (fun I1 m1 g1 => hQ I1 m1 (hw.scr hg g1 (fun o j x => by unfold pMl at x; omega)) g1)
theorem pMl_c : ∀ o j, pMl pP o j → pCls o j := fun o j x => by
  have pn : pP = 473 := rfl
  unfold pMl at x; unfold pCls; omega
theorem CSt.sc {f base v : Nat} (hf : (f = 6 ∧ base = 8) ∨ (f = 7 ∧ base = 9) ∨ (f = 8 ∧ base = 10) ∨ (f = 9 ∧ base = 11)) (hg : GoodW (A, n, H, B)) (h : CSt b I q (A, n, H, B)) : CSt b (up2 I (ad b sN) f (nI v)) q (upr A base (v % 4294967296), n, H, B) := by
  have sn : sN = 1 := rfl
  have a : SR b (up2 I (ad b sN) f (nI (v % 4294967296))) sN (upr A base (v % 4294967296)) := h.1.sc hf hg.1.1.1 hg.1.1.2.1
  rw [n_m32] at a
  exact h.blk hg (P := fun o _ => o = sN) (Ag.rf.up rfl) (fun o j x => by omega) a
set_option maxHeartbeats 4000000 in
theorem l65 {t : Nat} (hg : GoodW (A, n, H, B)) (ht : t ≤ 2000000) : ∀ d p I, p + d = A 6 → CSt b I q (sndQ A p, n, H, B) → (∀ i, i < A 6 → I (ad b (pP + 2)) i = nI (rsn A i)) → I (ad b pP) 8 = nI (totS A 0) → I (ad b pP) 10 = nI (totS A 2) → I (ad b pP) 11 = nI (totS A 3) → (∀ I', CSt b I' q (sendP A (A 6), n, H, B) → Ag pSn b I I' → Q (.inl (some (.int (nI (totS A 0))))) (KAt KL b, I', RAt RL b q, L, sz, ex)) → X z 65 74 [some (.ref (ad b 0)), some (.int (nI p))] [] (0, 0) (KAt KL b, I, RAt RL b q, L, sz, ex) Q := by
  have hs := isS_N
  have hp := isM_P
  have sn : sN = 1 := rfl
  have pn : pP = 473 := rfl
  have h6 : A 6 ≤ 20 := hg.1.1.1
  have h7 : A 7 ≤ 10 := hg.1.1.2.1
  intro d
  induction d with
  | zero =>
    intro p I hpd hw hm m8 m10 m11 hQ
    have e : p = A 6 := by omega
    have z6 : I (ad b sN) 1 = nI (A 6) := hw.1.1.1.1.trans (by rw [show ((sndQ A p, n, H, B) : Wd).1 = sndQ A p from rfl, sndQ_k (by omega) (by omega)])
    have z9 : I (ad b sN) 7 = nI (A 9) := hw.1.1.1.2.2.2.1.trans (by rw [show ((sndQ A p, n, H, B) : Wd).1 = sndQ A p from rfl, sndQ_k (by omega) (by omega)])
    have z10 : I (ad b sN) 8 = nI (A 10) := hw.1.1.1.2.2.2.2.1.trans (by rw [show ((sndQ A p, n, H, B) : Wd).1 = sndQ A p from rfl, sndQ_k (by omega) (by omega)])
    have z11 : I (ad b sN) 9 = nI (A 11) := hw.1.1.1.2.2.2.2.2.trans (by rw [show ((sndQ A p, n, H, B) : Wd).1 = sndQ A p from rfl, sndQ_k (by omega) (by omega)])
    rw [v65_74]
    subst e
    simp (disch := omega) only [v65_75, v65_76, v65_79, v65_82, v65_85, v65_86, v65_89, v65_92, v65_93, v65_94, v65_97, v65_98, v65_101, v65_104, v65_105, v65_106, v65_107, v65_110, v65_113, v65_116, v65_117, v65_120, v65_123, v65_124, v65_125, v65_125i, v65_126, v65_129, v65_130, v65_131, v65_134, v65_137, v65_140, v65_141, v65_144, v65_144i, v65_145, v65_148, v65_149, v65_152, v65_155, v65_156, v65_159, v65_160, v65_163, v65_163i, v65_164, v65_167, v65_168, v65_171, v65_174, v65_175, v65_178, v65_179, v65_182, v65_182i, v65_183, v65_186, v65_187, v65_190, v65_193, v65_194, v65_197, v65_198, v65_201, v65_204, n_cl, n_in_t, n_lt_t, n_lt_f, n_eq_t, n_eq_f, n_sub, nI_add, n_mul, n_01, ↓reduceIte, if_true, if_false, eq_self, true_or, or_true, and_self, and_true, true_and, Nat.reduceAdd, Nat.reduceMul, Nat.reduceLeDiff, Nat.zero_le, not_true_eq_false, not_false_eq_true, cat2_n, cat2_i, cat2_r, ws_0, ws_i, ws_r, ws_l, ws_d, aftr_n, aftr_s, bI_ok, bI_t, bI_f, up_s, up_n, n_bit, decide_true, decide_false, Bool.not_true, Bool.not_false, Bool.and_true, Bool.true_and, Bool.false_and, Bool.and_false, va_rf_s, n_nlt0, k_0, k_67, k_68, k_465, k_466, k_467, k_468, k_469, k_470, k_471, k_472, k_565, r_0_0, r_0_1, r_0_2, r_0_3, r_0_4, r_0_5, r_67_0, r_465_0, r_467_0, r_467_2, r_470_0, r_470_1, va_rf_s, n_neg_t, n_neg_f, kS0 hs, kS1 hs, kS2 hs, kS3 hs, kS4 hs, kS5 hs, kSp hs, kSn hs, kSw hs, kSl hs, rS0_0 hs, rS0_2 hs, rS0_4 hs, rS0_5 hs, rS3_0 hs, rS1 hs, rS2 hs, rSp hs, rSw hs, kM0 hp, kM1 hp, kM2 hp, kM3 hp, kM4 hp, kM5 hp, kMd hp, kMa hp, rM0_0 hp, rM0_2 hp, rM0_3 hp, rM0_4 hp, rM0_5 hp, rM0_6 hp, rM0_7 hp, rM1 hp, rMd hp, z6, z9, z10, z11, m8, m10, m11]
    have gq : GoodW (sndQ A (A 6), n, H, B) := ⟨good_sndQ hg.1 (A 6) (by omega), hg.2⟩
    have w1 := hw.sc (f := 7) (base := 9) (v := A 9 + totS A 0) (by omega) gq
    have g1 : GoodW (upr (sndQ A (A 6)) 9 ((A 9 + totS A 0) % 4294967296), n, H, B) := ⟨gq.1.up (by omega) (by omega) (by omega) (by omega) (by omega) (by omega), hg.2⟩
    have w2 := w1.sc (f := 8) (base := 10) (v := A 10 + totS A 2) (by omega) g1
    have g2 : GoodW (upr (upr (sndQ A (A 6)) 9 ((A 9 + totS A 0) % 4294967296)) 10 ((A 10 + totS A 2) % 4294967296), n, H, B) := ⟨g1.1.up (by omega) (by omega) (by omega) (by omega) (by omega) (by omega), hg.2⟩
    have w3 := w2.sc (f := 9) (base := 11) (v := A 11 + totS A 3) (by omega) g2
    rw [sndQ_all] at w3
    exact hQ _ w3 (((Ag.rf.up (by unfold pSn; omega)).up (by unfold pSn; omega)).up (by unfold pSn; omega))
  | succ d ih =>
    intro p I hpd hw hm m8 m10 m11 hQ
    have z6 : I (ad b sN) 1 = nI (A 6) := hw.1.1.1.1.trans (by rw [show ((sndQ A p, n, H, B) : Wd).1 = sndQ A p from rfl, sndQ_k (by omega) (by omega)])
    have z8 : I (ad b sN) 6 = nI (A 8) := hw.1.1.1.2.2.1.trans (by rw [show ((sndQ A p, n, H, B) : Wd).1 = sndQ A p from rfl, sndQ_k (by omega) (by omega)])
    have mp := hm p (by omega)
    have hr := rsn_le (A := A) (p := p)
    have q6 : sndQ A p 6 = A 6 := sndQ_k (by omega) (by omega)
    have q113 : sndQ A p (113 + p) = A (113 + p) := sndQ_k (by omega) (by omega)
    have m7 : I (ad b (sN + 6 + 2 * p)) 7 = nI (A (113 + p)) := (hw.1.1.2.1 p (by rw [show ((sndQ A p, n, H, B) : Wd).1 = sndQ A p from rfl, q6]; omega)).2.2.2.2.2.2.1.trans (congrArg nI q113)
    have gq : GoodW (sndQ A p, n, H, B) := ⟨good_sndQ hg.1 p (by omega), hg.2⟩
    rw [v65_74]
    cases hsn : snt A p with
    | false =>
      have hne : rsn A p ≠ 0 := fun x => by rw [rsn_0.mp x] at hsn; exact absurd hsn (by decide)
      simp (disch := omega) only [v65_75, v65_76, v65_79, v65_82, v65_85, v65_86, v65_89, v65_92, v65_93, v65_94, v65_97, v65_98, v65_101, v65_104, v65_105, v65_106, v65_107, v65_110, v65_113, v65_116, v65_117, v65_120, v65_123, v65_124, v65_125, v65_125i, v65_126, v65_129, v65_130, v65_131, v65_134, v65_137, n_cl, n_in_t, n_lt_t, n_lt_f, n_eq_t, n_eq_f, n_sub, nI_add, n_mul, n_01, ↓reduceIte, if_true, if_false, eq_self, true_or, or_true, and_self, and_true, true_and, Nat.reduceAdd, Nat.reduceMul, Nat.reduceLeDiff, Nat.zero_le, not_true_eq_false, not_false_eq_true, cat2_n, cat2_i, cat2_r, ws_0, ws_i, ws_r, ws_l, ws_d, aftr_n, aftr_s, bI_ok, bI_t, bI_f, up_s, up_n, n_bit, decide_true, decide_false, Bool.not_true, Bool.not_false, Bool.and_true, Bool.true_and, Bool.false_and, Bool.and_false, va_rf_s, n_nlt0, k_0, k_67, k_68, k_465, k_466, k_467, k_468, k_469, k_470, k_471, k_472, k_565, r_0_0, r_0_1, r_0_2, r_0_3, r_0_4, r_0_5, r_67_0, r_465_0, r_467_0, r_467_2, r_470_0, r_470_1, va_rf_s, n_neg_t, n_neg_f, kS0 hs, kS1 hs, kS2 hs, kS3 hs, kS4 hs, kS5 hs, kSp hs, kSn hs, kSw hs, kSl hs, rS0_0 hs, rS0_2 hs, rS0_4 hs, rS0_5 hs, rS3_0 hs, rS1 hs, rS2 hs, rSp hs, rSw hs, kM0 hp, kM1 hp, kM2 hp, kM3 hp, kM4 hp, kM5 hp, kMd hp, kMa hp, rM0_0 hp, rM0_2 hp, rM0_3 hp, rM0_4 hp, rM0_5 hp, rM0_6 hp, rM0_7 hp, rM1 hp, rMd hp, z6, mp]
      exact ih (p + 1) I (by omega) (by rw [sndQ_f hsn]; exact hw) hm m8 m10 m11 hQ
    | true =>
      have hz : rsn A p = 0 := rsn_0.mpr hsn
      rw [hz] at mp
      simp (disch := omega) only [v65_75, v65_76, v65_79, v65_82, v65_85, v65_86, v65_89, v65_92, v65_93, v65_94, v65_97, v65_98, v65_101, v65_104, v65_105, v65_106, v65_107, v65_110, v65_113, v65_116, v65_117, v65_120, v65_123, v65_124, v65_125, v65_125i, v65_126, v65_129, v65_130, v65_131, v65_134, v65_137, n_cl, n_in_t, n_lt_t, n_lt_f, n_eq_t, n_eq_f, n_sub, nI_add, n_mul, n_01, ↓reduceIte, if_true, if_false, eq_self, true_or, or_true, and_self, and_true, true_and, Nat.reduceAdd, Nat.reduceMul, Nat.reduceLeDiff, Nat.zero_le, not_true_eq_false, not_false_eq_true, cat2_n, cat2_i, cat2_r, ws_0, ws_i, ws_r, ws_l, ws_d, aftr_n, aftr_s, bI_ok, bI_t, bI_f, up_s, up_n, n_bit, decide_true, decide_false, Bool.not_true, Bool.not_false, Bool.and_true, Bool.true_and, Bool.false_and, Bool.and_false, va_rf_s, n_nlt0, k_0, k_67, k_68, k_465, k_466, k_467, k_468, k_469, k_470, k_471, k_472, k_565, r_0_0, r_0_1, r_0_2, r_0_3, r_0_4, r_0_5, r_67_0, r_465_0, r_467_0, r_467_2, r_470_0, r_470_1, va_rf_s, n_neg_t, n_neg_f, kS0 hs, kS1 hs, kS2 hs, kS3 hs, kS4 hs, kS5 hs, kSp hs, kSn hs, kSw hs, kSl hs, rS0_0 hs, rS0_2 hs, rS0_4 hs, rS0_5 hs, rS3_0 hs, rS1 hs, rS2 hs, rSp hs, rSw hs, kM0 hp, kM1 hp, kM2 hp, kM3 hp, kM4 hp, kM5 hp, kMd hp, kMa hp, rM0_0 hp, rM0_2 hp, rM0_3 hp, rM0_4 hp, rM0_5 hp, rM0_6 hp, rM0_7 hp, rM1 hp, rMd hp, z6, z8, mp, m7]
      have w1 := hw.fld (f := 6) (base := 93) (p := p) (v := A 8) (by omega) gq (by show p < sndQ A p 6; omega)
      have q8 : upr (sndQ A p) (93 + p) (A 8) 6 = A 6 := (upr_n (by omega)).trans q6
      have e8 : sndQ A p 8 = A 8 := sndQ_k (by omega) (by omega)
      have g1 : GoodW (upr (sndQ A p) (93 + p) (A 8), n, H, B) := ⟨gq.1.up (by omega) (by omega) (by omega) (by omega) (by omega) (fun _ _ => Or.inr (Nat.le_of_eq e8.symm)), hg.2⟩
      have w2 := w1.fld (f := 7) (base := 113) (p := p) (v := (A (113 + p) + 1) % 4294967296) (by omega) g1 (by show p < upr (sndQ A p) (93 + p) (A 8) 6; omega)
      rw [n_m32, ← sndQ_t (by omega) hsn] at w2
      refine ih (p + 1) _ (by omega) w2 (fun i hi => ?_) ?_ ?_ ?_ (fun I' k1 k2 => hQ I' k1 (Ag.tr ((Ag.rf.up (by unfold pSn; omega)).up (by unfold pSn; omega)) k2))
      · rw [up_n (by omega), up_n (by omega)]; exact hm i hi
      · rw [up_n (by omega), up_n (by omega)]; exact m8
      · rw [up_n (by omega), up_n (by omega)]; exact m10
      · rw [up_n (by omega), up_n (by omega)]; exact m11
set_option maxHeartbeats 4000000 in
theorem c65 (hw : CSt b I q (A, n, H, B)) (hg : GoodW (A, n, H, B)) (hm : Sm A) (hz : SZ KL RL b I z) (hQ : CQ b I q (opSend (A, n, H, B)) (fun v I' q' => Q (.inl (some (.int (nI v)))) (KAt KL b, I', RAt RL b q', L, sz, ex)) (fun c I' => Q (.inr (if c = 1 then 1 else 1)) (KAt KL b, I', RAt RL b q, L, sz, false))) : X z 65 0 [some (.ref (ad b 0)), none] [] (0, 0) (KAt KL b, I, RAt RL b q, L, sz, ex) Q := by
  have hs := isS_N
  have hp := isM_P
  have sn : sN = 1 := rfl
  have pn : pP = 473 := rfl
  have t0 := totS_le hg.1 (w := 0)
  dsimp only at t0
  have hl : (raw A).length ≤ 60 := hg.1.2.2.2.2.2
  have mr : I (ad b (sN + 3)) 1 = nI (raw A).length := hw.1.1.2.2.2.1
  unfold opSend at hQ
  dsimp only at hQ
  by_cases e1 : A 12 = 0
  · rw [if_pos (Or.inl e1)] at hQ
    have r0 := raw_0.mpr e1
    rw [r0] at mr
    simp (disch := omega) only [v65_0, v65_1, v65_4, v65_7, v65_10, v65_13, v65_16, v65_16i, v65_23, v65_24, v65_27, v65_28, v65_31, v65_32, v65_35, u65_38, v65_41, v65_42, v65_45, v65_48, v65_51, v65_54, v65_54i, v65_61, v65_62, v65_65, v65_66, u65_69, v65_72, v65_73, v65_74, v65_75, v65_76, v65_79, v65_82, v65_85, v65_86, v65_89, v65_92, v65_93, v65_94, v65_97, v65_98, v65_101, v65_104, v65_105, v65_106, v65_107, v65_110, v65_113, v65_116, v65_117, v65_120, v65_123, v65_124, v65_125, v65_125i, v65_126, v65_129, v65_130, v65_131, v65_134, v65_137, v65_140, v65_141, v65_144, v65_144i, v65_145, v65_148, v65_149, v65_152, v65_155, v65_156, v65_159, v65_160, v65_163, v65_163i, v65_164, v65_167, v65_168, v65_171, v65_174, v65_175, v65_178, v65_179, v65_182, v65_182i, v65_183, v65_186, v65_187, v65_190, v65_193, v65_194, v65_197, v65_198, v65_201, v65_204, n_cl, n_in_t, n_lt_t, n_lt_f, n_eq_t, n_eq_f, n_sub, nI_add, n_mul, n_01, ↓reduceIte, if_true, if_false, eq_self, true_or, or_true, and_self, and_true, true_and, Nat.reduceAdd, Nat.reduceMul, Nat.reduceLeDiff, Nat.zero_le, not_true_eq_false, not_false_eq_true, cat2_n, cat2_i, cat2_r, ws_0, ws_i, ws_r, ws_l, ws_d, aftr_n, aftr_s, bI_ok, bI_t, bI_f, up_s, up_n, n_bit, decide_true, decide_false, Bool.not_true, Bool.not_false, Bool.and_true, Bool.true_and, Bool.false_and, Bool.and_false, va_rf_s, n_nlt0, k_0, k_67, k_68, k_465, k_466, k_467, k_468, k_469, k_470, k_471, k_472, k_565, r_0_0, r_0_1, r_0_2, r_0_3, r_0_4, r_0_5, r_67_0, r_465_0, r_467_0, r_467_2, r_470_0, r_470_1, va_rf_s, n_neg_t, n_neg_f, k_0, k_67, k_68, k_465, k_466, k_467, k_468, k_469, k_470, k_471, k_472, k_565, r_0_0, r_0_1, r_0_2, r_0_3, r_0_4, r_0_5, r_67_0, r_465_0, r_467_0, r_467_2, r_470_0, r_470_1, va_rf_s, kS0 hs, kS1 hs, kS2 hs, kS3 hs, kS4 hs, kS5 hs, kSp hs, kSn hs, kSw hs, kSl hs, rS0_0 hs, rS0_2 hs, rS0_4 hs, rS0_5 hs, rS3_0 hs, rS1 hs, rS2 hs, rSp hs, rSw hs, mr]
    exact hQ.2 (fun x => ne_s x) I hw Ag.rf
  · have r0 : (raw A).length ≠ 0 := fun x => e1 (raw_0.mp x)
    simp (disch := omega) only [v65_0, v65_1, v65_4, v65_7, v65_10, v65_13, v65_16, v65_16i, v65_23, v65_24, v65_27, v65_28, v65_31, v65_32, v65_35, u65_38, n_cl, n_in_t, n_lt_t, n_lt_f, n_eq_t, n_eq_f, n_sub, nI_add, n_mul, n_01, ↓reduceIte, if_true, if_false, eq_self, true_or, or_true, and_self, and_true, true_and, Nat.reduceAdd, Nat.reduceMul, Nat.reduceLeDiff, Nat.zero_le, not_true_eq_false, not_false_eq_true, cat2_n, cat2_i, cat2_r, ws_0, ws_i, ws_r, ws_l, ws_d, aftr_n, aftr_s, bI_ok, bI_t, bI_f, up_s, up_n, n_bit, decide_true, decide_false, Bool.not_true, Bool.not_false, Bool.and_true, Bool.true_and, Bool.false_and, Bool.and_false, va_rf_s, n_nlt0, k_0, k_67, k_68, k_465, k_466, k_467, k_468, k_469, k_470, k_471, k_472, k_565, r_0_0, r_0_1, r_0_2, r_0_3, r_0_4, r_0_5, r_67_0, r_465_0, r_467_0, r_467_2, r_470_0, r_470_1, va_rf_s, n_neg_t, n_neg_f, k_0, k_67, k_68, k_465, k_466, k_467, k_468, k_469, k_470, k_471, k_472, k_565, r_0_0, r_0_1, r_0_2, r_0_3, r_0_4, r_0_5, r_67_0, r_465_0, r_467_0, r_467_2, r_470_0, r_470_1, va_rf_s, kS0 hs, kS1 hs, kS2 hs, kS3 hs, kS4 hs, kS5 hs, kSp hs, kSn hs, kSw hs, kSl hs, rS0_0 hs, rS0_2 hs, rS0_4 hs, rS0_5 hs, rS3_0 hs, rS1 hs, rS2 hs, rSp hs, rSw hs, kM0 hp, kM1 hp, kM2 hp, kM3 hp, kM4 hp, kM5 hp, kMd hp, kMa hp, rM0_0 hp, rM0_2 hp, rM0_3 hp, rM0_4 hp, rM0_5 hp, rM0_6 hp, rM0_7 hp, rM1 hp, rMd hp, mr]
    refine prep hw hg hm hz (fun I1 m1 w1 g1 => ?_)
    obtain ⟨m2, m3, m4, m5, m6, m7, m8⟩ := m1
    by_cases e2 : totS A 0 = 0
    · rw [if_pos (Or.inr e2)] at hQ
      rw [e2] at m5
      simp (disch := omega) only [v65_41, v65_42, v65_45, v65_48, v65_51, v65_54, v65_54i, n_cl, n_in_t, n_lt_t, n_lt_f, n_eq_t, n_eq_f, n_sub, nI_add, n_mul, n_01, ↓reduceIte, if_true, if_false, eq_self, true_or, or_true, and_self, and_true, true_and, Nat.reduceAdd, Nat.reduceMul, Nat.reduceLeDiff, Nat.zero_le, not_true_eq_false, not_false_eq_true, cat2_n, cat2_i, cat2_r, ws_0, ws_i, ws_r, ws_l, ws_d, aftr_n, aftr_s, bI_ok, bI_t, bI_f, up_s, up_n, n_bit, decide_true, decide_false, Bool.not_true, Bool.not_false, Bool.and_true, Bool.true_and, Bool.false_and, Bool.and_false, va_rf_s, n_nlt0, k_0, k_67, k_68, k_465, k_466, k_467, k_468, k_469, k_470, k_471, k_472, k_565, r_0_0, r_0_1, r_0_2, r_0_3, r_0_4, r_0_5, r_67_0, r_465_0, r_467_0, r_467_2, r_470_0, r_470_1, va_rf_s, n_neg_t, n_neg_f, k_0, k_67, k_68, k_465, k_466, k_467, k_468, k_469, k_470, k_471, k_472, k_565, r_0_0, r_0_1, r_0_2, r_0_3, r_0_4, r_0_5, r_67_0, r_465_0, r_467_0, r_467_2, r_470_0, r_470_1, va_rf_s, kS0 hs, kS1 hs, kS2 hs, kS3 hs, kS4 hs, kS5 hs, kSp hs, kSn hs, kSw hs, kSl hs, rS0_0 hs, rS0_2 hs, rS0_4 hs, rS0_5 hs, rS3_0 hs, rS1 hs, rS2 hs, rSp hs, rSw hs, kM0 hp, kM1 hp, kM2 hp, kM3 hp, kM4 hp, kM5 hp, kMd hp, kMa hp, rM0_0 hp, rM0_2 hp, rM0_3 hp, rM0_4 hp, rM0_5 hp, rM0_6 hp, rM0_7 hp, rM1 hp, rMd hp, m5]
      exact hQ.2 (fun x => ne_s x) I1 w1 (g1.mn pMl_c)
    · rw [if_neg (fun x => x.elim e1 e2)] at hQ
      simp (disch := omega) only [v65_41, v65_42, v65_45, v65_48, v65_51, v65_54, v65_54i, v65_61, v65_62, v65_65, v65_66, u65_69, n_cl, n_in_t, n_lt_t, n_lt_f, n_eq_t, n_eq_f, n_sub, nI_add, n_mul, n_01, ↓reduceIte, if_true, if_false, eq_self, true_or, or_true, and_self, and_true, true_and, Nat.reduceAdd, Nat.reduceMul, Nat.reduceLeDiff, Nat.zero_le, not_true_eq_false, not_false_eq_true, cat2_n, cat2_i, cat2_r, ws_0, ws_i, ws_r, ws_l, ws_d, aftr_n, aftr_s, bI_ok, bI_t, bI_f, up_s, up_n, n_bit, decide_true, decide_false, Bool.not_true, Bool.not_false, Bool.and_true, Bool.true_and, Bool.false_and, Bool.and_false, va_rf_s, n_nlt0, k_0, k_67, k_68, k_465, k_466, k_467, k_468, k_469, k_470, k_471, k_472, k_565, r_0_0, r_0_1, r_0_2, r_0_3, r_0_4, r_0_5, r_67_0, r_465_0, r_467_0, r_467_2, r_470_0, r_470_1, va_rf_s, n_neg_t, n_neg_f, k_0, k_67, k_68, k_465, k_466, k_467, k_468, k_469, k_470, k_471, k_472, k_565, r_0_0, r_0_1, r_0_2, r_0_3, r_0_4, r_0_5, r_67_0, r_465_0, r_467_0, r_467_2, r_470_0, r_470_1, va_rf_s, kS0 hs, kS1 hs, kS2 hs, kS3 hs, kS4 hs, kS5 hs, kSp hs, kSn hs, kSw hs, kSl hs, rS0_0 hs, rS0_2 hs, rS0_4 hs, rS0_5 hs, rS3_0 hs, rS1 hs, rS2 hs, rSp hs, rSw hs, kM0 hp, kM1 hp, kM2 hp, kM3 hp, kM4 hp, kM5 hp, kMd hp, kMa hp, rM0_0 hp, rM0_2 hp, rM0_3 hp, rM0_4 hp, rM0_5 hp, rM0_6 hp, rM0_7 hp, rM1 hp, rMd hp, m5]
      refine kp w1 hg (fun I2 q2 w2 g2 => ?_)
      have k : ∀ o j, pP ≤ o → I2 (ad b o) j = I1 (ad b o) j := fun o j ho => g2.at (fun x => by unfold pKp at x; omega)
      simp (disch := omega) only [v65_72, v65_73, n_cl, n_in_t, n_lt_t, n_lt_f, n_eq_t, n_eq_f, n_sub, nI_add, n_mul, n_01, ↓reduceIte, if_true, if_false, eq_self, true_or, or_true, and_self, and_true, true_and, Nat.reduceAdd, Nat.reduceMul, Nat.reduceLeDiff, Nat.zero_le, not_true_eq_false, not_false_eq_true, cat2_n, cat2_i, cat2_r, ws_0, ws_i, ws_r, ws_l, ws_d, aftr_n, aftr_s, bI_ok, bI_t, bI_f, up_s, up_n, n_bit, decide_true, decide_false, Bool.not_true, Bool.not_false, Bool.and_true, Bool.true_and, Bool.false_and, Bool.and_false, va_rf_s, n_nlt0, k_0, k_67, k_68, k_465, k_466, k_467, k_468, k_469, k_470, k_471, k_472, k_565, r_0_0, r_0_1, r_0_2, r_0_3, r_0_4, r_0_5, r_67_0, r_465_0, r_467_0, r_467_2, r_470_0, r_470_1, va_rf_s, n_neg_t, n_neg_f]
      refine l65 (t := 0) hg.sv (by omega) (A 6) 0 I2 (by omega) (by rw [sndQ_0]; exact w2) (fun i hi => ?_) ?_ ?_ ?_ (fun I3 w3 g3 => ?_)
      · rw [k _ _ (by omega)]; exact (m4 i hi).1
      · rw [k _ _ (by omega)]; exact m5
      · rw [k _ _ (by omega)]; exact m7
      · rw [k _ _ (by omega)]; exact m8
      · exact hQ.1 rfl I3 q2 w3 (((g1.mn pMl_c).tr (g2.mn pKp_c)).tr (g3.mn (fun o j x => by unfold pSn at x; unfold pCls; omega)))
end CRR
