/-! THE CONSTRUCTORS: the class, the law's beginning -/
section CN
variable {z : P0} {KL : Nat → Nat × Nat} {RL : Nat → Nat → Option Nat} {q : Nat → Nat} {b : Nat} {I : Nat → Nat → Int32} {L : Nat → Nat → Int64} {Q : Res → Mem → Prop} {A : Nat → Nat → Prop} {o m s p : Nat}
theorem c57 (hR : ∀ a, b ≤ a → ∀ j, RL a j = none) (hz : z.1 0 < b) (hk : KL (z.1 0) = (50, 6)) : X z 57 0 [some (.ref (ad b 0)), none, none] [] (0, 0) (KP KL b 1, I, RP RL b q0 A, L, ad b 1, true) Q = Q (.inl none) (KP KL b 566, I6 (cpI I (z.1 0) 0 (ad b 6) 0 6) (z.1 0) b, RP RL b q0 (fun o j => A o j ∨ o < 566), L, ad b 566, true) := by
  have k0 : kt 0 = (110, 0) := rfl
  have k1 : kt 1 = (108, 0) := rfl
  have k2 : kt 67 = (103, 0) := rfl
  have k3 : kt 465 = (100, 0) := rfl
  have k4 : kt 466 = (20, 60) := rfl
  have k5 : kt 467 = (101, 0) := rfl
  have k6 : kt 470 = (105, 0) := rfl
  have k7 : kt 473 = (106, 0) := rfl
  have k8 : kt 519 = (106, 0) := rfl
  have k9 : kt 565 = (20, 6) := rfl
  have s1 : isS 1 := Or.inl rfl
  have p1 : isM 473 := Or.inl rfl
  have p2 : isM 519 := Or.inr rfl
  simp (disch := omega) only [v57_0, v57_1, v57_4, v57_5, v57_8, v57_8i, u57_9, v57_12, v57_15, v57_16, v57_19, v57_19i, u57_20, v57_23, v57_26, v57_27, v57_30, v57_30i, u57_31, v57_34, v57_37, v57_40, v57_40i, u57_41, v57_44, v57_45, v57_48, v57_48i, u57_49, v57_52, v57_53, v57_54, v57_57, v57_57i, v57_58, v57_59, u57_60, v57_63, v57_66, v57_67, v57_70, v57_70i, v57_71, v57_72, u57_73, v57_76, v57_79, v57_80, v57_82, v57_84, v57_87, n_cl, n_in_t, n_lt_t, n_lt_f, n_eq_t, n_eq_f, nI_add, n_01, ↓reduceIte, if_true, if_false, eq_self, true_or, or_true, and_self, and_true, true_and, Nat.reduceAdd, Nat.reduceMul, Nat.reduceLeDiff, Nat.zero_le, Nat.zero_add, not_true_eq_false, not_false_eq_true, cat2_n, cat2_i, cat2_r, ws_0, ws_i, ws_r, aftr_n, va_rf_s, n_nlt0, ad_1, KP_new k1, KP_new k2, KP_new k3, KP_new k5, KP_new k6, KP_new k7, KP_new k8, KP_new k9, KP_at, k0, k1, k2, k3, k5, k6, k7, k8, c47n (s1 := 2) (s2 := 67) (s3 := 6) s1 rfl rfl rfl hR hz hk, c23 hR hz hk, c0 _ k3 k4 (show rt q0 465 0 = some 466 from rfl), c9, c32, c36n (p1 := 474) (p2 := 519) p1 rfl rfl hR, c36n (p1 := 520) (p2 := 565) p2 rfl rfl hR,
    RP_up (q := q0) (o := 0) (j := 0) (r := 1) rfl, RP_up (q := q0) (o := 0) (j := 1) (r := 67) rfl, RP_up (q := q0) (o := 0) (j := 2) (r := 465) rfl, RP_up (q := q0) (o := 0) (j := 3) (r := 473) rfl, RP_up (q := q0) (o := 0) (j := 4) (r := 519) rfl, RP_up (q := q0) (o := 0) (j := 5) (r := 565) rfl]
  refine congrArg (fun R => Q (.inl none) (KP KL b 566, I6 (cpI I (z.1 0) 0 (ad b 6) 0 6) (z.1 0) b, R, L, ad b 566, true)) (RP_congr hR (fun o j hr => ?_))
  have h1 := r_ne hr
  by_cases e : A o j
  · simp only [e, true_or]
  · simp only [e, false_or]
    obtain ⟨g1, g2, g3, g4, g5, g6, g7, g8, g9, g10, g11, g12, g13⟩ := h1
    constructor
    · clear g1 g2 g3 g4 g5 g6 g7 g8 g9 g10 g11 g12 g13
      intro g
      omega
    · intro g
      have hc : o = 0 ∨ (1 ≤ o ∧ o < 67) ∨ (67 ≤ o ∧ o < 465) ∨ o = 465 ∨ o = 467 ∨ o = 470 ∨ (473 ≤ o ∧ o < 519) ∨ (519 ≤ o ∧ o < 565) := by
        clear g2 g3 g4 g5 g7 g10
        omega
      rcases hc with rfl | hc | hc | rfl | rfl | rfl | hc | hc
      · have := g2 rfl
        clear g1 g2 g3 g4 g5 g6 g7 g8 g9 g10 g11 g12 g13
        omega
      · clear g1 g2 g3 g4 g5 g6 g7 g8 g9 g10 g11 g12 g13
        omega
      · clear g1 g2 g3 g4 g5 g6 g7 g8 g9 g10 g11 g12 g13
        omega
      · have := g5 rfl
        clear g1 g2 g3 g4 g5 g6 g7 g8 g9 g10 g11 g12 g13
        omega
      · have := g7 rfl
        clear g1 g2 g3 g4 g5 g6 g7 g8 g9 g10 g11 g12 g13
        omega
      · have := g10 rfl
        clear g1 g2 g3 g4 g5 g6 g7 g8 g9 g10 g11 g12 g13
        omega
      · clear g1 g2 g3 g4 g5 g6 g7 g8 g9 g10 g11 g12 g13
        omega
      · clear g1 g2 g3 g4 g5 g6 g7 g8 g9 g10 g11 g12 g13
        omega
/-- the law's settings -/
def I7 (I : Nat → Nat → Int32) (b : Nat) : Nat → Nat → Int32 := up2 (up2 (up2 (up2 (up2 (up2 I (ad b 566) 8 (nI 20)) (ad b 566) 9 (nI 5)) (ad b 566) 10 (nI 4)) (ad b 566) 11 (nI 7)) (ad b 566) 12 (nI 3)) (ad b 566) 13 (nI 4)
/-- the memory at the loop's beginning -/
def I8 (I : Nat → Nat → Int32) (f b : Nat) : Nat → Nat → Int32 := I7 (I6 (cpI I f 0 (ad b 6) 0 6) f b) b
set_option maxHeartbeats 4000000 in
theorem s214 (hR : ∀ a, b ≤ a → ∀ j, RL a j = none) (hz : z.1 0 < b) (hk : KL (z.1 0) = (50, 6)) {y : Nat} : X z 214 0 [some (.ref y), none, none, none, none, none, none, none, none, none, none, none, none, none, none, none] [] (0, 0) (KL, I, RL, L, b, true) Q = X z 214 107 [some (.ref y), some (.ref (ad b 0)), some (.ref (ad b 566)), some (.ref (ad b 567)), some (.ref (ad b 568)), some (.ref (ad b 569)), some (.ref (ad b 570)), some (.ref (ad b 571)), some (.ref (ad b 572)), some (.ref (ad b 573)), some (.ref (ad b 574)), some (.ref (ad b 575)), some (.ref (ad b 576)), some (.int (nI 0)), none, none] [] (577, 6761) (KAt KL b, I8 I (z.1 0) b, RAt RL b q0, L, ad b 577, true) Q := by
  have k0 : kt 0 = (110, 0) := rfl
  have k1 : kt 566 = (20, 15) := rfl
  have k2 : kt 567 = (20, 20) := rfl
  have k3 : kt 568 = (20, 20) := rfl
  have k4 : kt 569 = (20, 20) := rfl
  have k5 : kt 570 = (20, 20) := rfl
  have k6 : kt 571 = (20, 20) := rfl
  have k7 : kt 572 = (20, 20) := rfl
  have k8 : kt 573 = (20, 20) := rfl
  have k9 : kt 574 = (20, 10) := rfl
  have k10 : kt 575 = (20, 24) := rfl
  have k11 : kt 576 = (20, 20) := rfl
  have e1 : X z 214 0 [some (.ref y), none, none, none, none, none, none, none, none, none, none, none, none, none, none, none] [] (0, 0) (KL, I, RL, L, b, true) Q = X z 214 0 [some (.ref y), none, none, none, none, none, none, none, none, none, none, none, none, none, none, none] [] (0, 0) (KP KL b 0, I, RP RL b q0 (fun _ _ => False), L, ad b 0, true) Q := by
    rw [KP_0, RP_0]
    rfl
  rw [e1]
  simp (disch := omega) only [v214_0, v214_3, v214_3i, u214_4, v214_7, v214_8, v214_10, v214_12, v214_13, v214_15, v214_17, v214_18, v214_20, v214_22, v214_24, v214_26, v214_28, v214_30, v214_32, v214_34, v214_36, v214_38, v214_40, v214_42, v214_44, v214_46, v214_48, v214_50, v214_52, v214_54, v214_56, v214_58, v214_60, v214_62, v214_64, v214_66, v214_68, v214_70, v214_72, v214_73, v214_75, v214_77, v214_78, v214_79, v214_81, v214_82, v214_83, v214_84, v214_86, v214_87, v214_88, v214_89, v214_91, v214_93, v214_94, v214_95, v214_97, v214_98, v214_99, v214_100, v214_102, v214_103, v214_104, v214_105, n_cl, n_in_t, n_lt_t, n_lt_f, n_eq_t, n_eq_f, nI_add, n_01, ↓reduceIte, if_true, if_false, eq_self, true_or, or_true, and_self, and_true, true_and, Nat.reduceAdd, Nat.reduceMul, Nat.reduceLeDiff, Nat.zero_le, Nat.zero_add, not_true_eq_false, not_false_eq_true, cat2_n, cat2_i, cat2_r, ws_0, ws_i, ws_r, aftr_n, va_rf_s, n_nlt0, ad_1, leT, KP_new k0, KP_new k1, KP_new k2, KP_new k3, KP_new k4, KP_new k5, KP_new k6, KP_new k7, KP_new k8, KP_new k9, KP_new k10, KP_new k11, KP_at, k0, k1, c57 hR hz hk]
  rw [KP_all, RP_all hR (fun o j hr => by have := r_ne hr; omega)]
  rfl
end CN
