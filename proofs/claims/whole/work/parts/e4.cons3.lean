/-! THE CONSTRUCTORS: the class, the reference, the law's beginning -/
section CN
variable {z : P0} {KL : Nat → Nat × Nat} {RL : Nat → Nat → Option Nat} {q : Nat → Nat} {b : Nat} {I : Nat → Nat → Int32} {L : Nat → Nat → Int64} {Q : Res → Mem → Prop} {A : Nat → Nat → Prop} {o m s p : Nat}
theorem c57 (hR : ∀ a, b ≤ a → ∀ j, RL a j = none) (hz : z.1 0 < b) (hk : KL (z.1 0) = (50, 6)) : X z 57 0 [some (.ref (ad b 0)), none, none] [] (0, 0) (KP KL b 1, I, RP RL b q0 A, L, ad b 1, true) Q = Q (.inl none) (KP KL b 566, I6 (cpI I (z.1 0) 0 (ad b 6) 0 6) (z.1 0) b, RP RL b q0 (fun o j => A o j ∨ o < 566), L, ad b 566, true) := by
  have k0 : kt 0 = (110, 0) := rfl
  have k1 : kt 1 = (108, 0) := rfl
  have k2 : kt 67 = (103, 0) := rfl
  have k3 : kt 465 = (100, 0) := rfl
  have k4 : kt 466 = (20, 60) := rfl
  have k5 : kt 467 = (101, 0) := rfl
  have k6 : kt 470 = (105, 0) := rfl
  have k7 : kt 473 = (106, 0) := rfl
  have k8 : kt 519 = (106, 0) := rfl
  have k9 : kt 565 = (20, 6) := rfl
  have s1 : isS 1 := Or.inl rfl
  have p1 : isM 473 := Or.inl rfl
  have p2 : isM 519 := Or.inr rfl
  simp (disch := omega) only [v57_0, v57_1, v57_4, v57_5, v57_8, v57_8i, u57_9, v57_12, v57_15, v57_16, v57_19, v57_19i, u57_20, v57_23, v57_26, v57_27, v57_30, v57_30i, u57_31, v57_34, v57_37, v57_40, v57_40i, u57_41, v57_44, v57_45, v57_48, v57_48i, u57_49, v57_52, v57_53, v57_54, v57_57, v57_57i, v57_58, v57_59, u57_60, v57_63, v57_66, v57_67, v57_70, v57_70i, v57_71, v57_72, u57_73, v57_76, v57_79, v57_80, v57_82, v57_84, v57_87, n_cl, n_in_t, n_lt_t, n_lt_f, n_eq_t, n_eq_f, nI_add, n_01, ↓reduceIte, if_true, if_false, eq_self, true_or, or_true, and_self, and_true, true_and, Nat.reduceAdd, Nat.reduceMul, Nat.reduceLeDiff, Nat.zero_le, Nat.zero_add, not_true_eq_false, not_false_eq_true, cat2_n, cat2_i, cat2_r, ws_0, ws_i, ws_r, aftr_n, va_rf_s, n_nlt0, ad_1, KP_new k1, KP_new k2, KP_new k3, KP_new k5, KP_new k6, KP_new k7, KP_new k8, KP_new k9, KP_at, k0, k1, k2, k3, k5, k6, k7, k8, c47n (s1 := 2) (s2 := 67) (s3 := 6) s1 rfl rfl rfl hR hz hk, c23 hR hz hk, c0 _ k3 k4 (show rt q0 465 0 = some 466 from rfl), c9, c32, c36n (p1 := 474) (p2 := 519) p1 rfl rfl hR, c36n (p1 := 520) (p2 := 565) p2 rfl rfl hR,
    RP_up (q := q0) (o := 0) (j := 0) (r := 1) rfl, RP_up (q := q0) (o := 0) (j := 1) (r := 67) rfl, RP_up (q := q0) (o := 0) (j := 2) (r := 465) rfl, RP_up (q := q0) (o := 0) (j := 3) (r := 473) rfl, RP_up (q := q0) (o := 0) (j := 4) (r := 519) rfl, RP_up (q := q0) (o := 0) (j := 5) (r := 565) rfl]
  refine congrArg (fun R => Q (.inl none) (KP KL b 566, I6 (cpI I (z.1 0) 0 (ad b 6) 0 6) (z.1 0) b, R, L, ad b 566, true)) (RP_congr hR (fun o j hr => ?_))
  have h1 := r_ne hr
  by_cases e : A o j
  · simp only [e, true_or]
  · simp only [e, false_or]
    obtain ⟨g1, g2, g3, g4, g5, g6, g7, g8, g9, g10, g11, g12, g13, -⟩ := h1
    constructor
    · clear g1 g2 g3 g4 g5 g6 g7 g8 g9 g10 g11 g12 g13
      intro g
      omega
    · intro g
      have hc : o = 0 ∨ (1 ≤ o ∧ o < 67) ∨ (67 ≤ o ∧ o < 465) ∨ o = 465 ∨ o = 467 ∨ o = 470 ∨ (473 ≤ o ∧ o < 519) ∨ (519 ≤ o ∧ o < 565) := by
        clear g2 g3 g4 g5 g7 g10
        omega
      rcases hc with rfl | hc | hc | rfl | rfl | rfl | hc | hc
      · have := g2 rfl
        clear g1 g2 g3 g4 g5 g6 g7 g8 g9 g10 g11 g12 g13
        omega
      · clear g1 g2 g3 g4 g5 g6 g7 g8 g9 g10 g11 g12 g13
        omega
      · clear g1 g2 g3 g4 g5 g6 g7 g8 g9 g10 g11 g12 g13
        omega
      · have := g5 rfl
        clear g1 g2 g3 g4 g5 g6 g7 g8 g9 g10 g11 g12 g13
        omega
      · have := g7 rfl
        clear g1 g2 g3 g4 g5 g6 g7 g8 g9 g10 g11 g12 g13
        omega
      · have := g10 rfl
        clear g1 g2 g3 g4 g5 g6 g7 g8 g9 g10 g11 g12 g13
        omega
      · clear g1 g2 g3 g4 g5 g6 g7 g8 g9 g10 g11 g12 g13
        omega
      · clear g1 g2 g3 g4 g5 g6 g7 g8 g9 g10 g11 g12 g13
        omega
/-- the reference's settings -/
def I7 (I : Nat → Nat → Int32) (b : Nat) : Nat → Nat → Int32 := up2 (up2 (up2 (up2 (up2 (up2 I (ad b 567) 0 (nI 20)) (ad b 567) 1 (nI 5)) (ad b 567) 2 (nI 4)) (ad b 567) 3 (nI 7)) (ad b 567) 4 (nI 3)) (ad b 567) 5 (nI 4)
theorem c104 (hR : ∀ a, b ≤ a → ∀ j, RL a j = none) : X z 104 0 [some (.ref (ad b 566))] [] (0, 0) (KP KL b 567, I, RP RL b q A, L, ad b 567, true) Q = Q (.inl none) (KP KL b 577, I7 I b, RP RL b q (fun o j => A o j ∨ (566 ≤ o ∧ o < 577)), L, ad b 577, true) := by
  have k0 : kt 566 = (111, 0) := rfl
  have k1 : kt 567 = (20, 473) := rfl
  have k2 : kt 568 = (20, 2838) := rfl
  have k3 : kt 569 = (20, 60) := rfl
  have k4 : kt 570 = (20, 20) := rfl
  have k5 : kt 571 = (20, 20) := rfl
  have k6 : kt 572 = (20, 20) := rfl
  have k7 : kt 573 = (20, 20) := rfl
  have k8 : kt 574 = (20, 20) := rfl
  have k9 : kt 575 = (20, 20) := rfl
  have k10 : kt 576 = (20, 2400) := rfl
  have r0 : rt q 566 0 = some 567 := rfl
  have a0 : ∀ C : Nat → Nat → Prop, C 566 0 → RP RL b q C (ad b 566) 0 = some (ad b 567) := fun C h => RP_at r0 h
  simp (disch := omega) only [v104_0, v104_1, v104_4, v104_5, v104_8, v104_10, v104_13, v104_14, v104_17, v104_19, v104_22, v104_23, v104_25, v104_27, v104_30, v104_31, v104_33, v104_35, v104_38, v104_39, v104_41, v104_43, v104_46, v104_47, v104_49, v104_51, v104_54, v104_55, v104_57, v104_59, v104_62, v104_63, v104_65, v104_67, v104_70, v104_71, v104_73, v104_75, v104_78, v104_79, v104_82, v104_84, v104_87, v104_88, v104_91, v104_92, v104_94, v104_95, v104_96, v104_99, v104_100, v104_101, v104_102, v104_103, v104_106, v104_107, v104_108, v104_109, v104_110, v104_113, v104_114, v104_116, v104_117, v104_118, v104_121, v104_122, v104_123, v104_124, v104_125, v104_128, v104_129, v104_130, v104_131, n_cl, n_in_t, n_lt_t, n_lt_f, n_eq_t, n_eq_f, nI_add, n_01, ↓reduceIte, if_true, if_false, eq_self, true_or, or_true, and_self, and_true, true_and, Nat.reduceAdd, Nat.reduceMul, Nat.reduceLeDiff, Nat.zero_le, Nat.zero_add, not_true_eq_false, not_false_eq_true, cat2_n, cat2_i, cat2_r, ws_0, ws_i, ws_r, aftr_n, va_rf_s, n_nlt0, ad_1, KP_new k1, KP_new k2, KP_new k3, KP_new k4, KP_new k5, KP_new k6, KP_new k7, KP_new k8, KP_new k9, KP_new k10, KP_at, k0, k1, RP_up r0, a0,
    RP_up (q := q) (o := 566) (j := 2) (r := 568) rfl, RP_up (q := q) (o := 566) (j := 4) (r := 569) rfl, RP_up (q := q) (o := 566) (j := 6) (r := 570) rfl, RP_up (q := q) (o := 566) (j := 7) (r := 571) rfl, RP_up (q := q) (o := 566) (j := 8) (r := 572) rfl, RP_up (q := q) (o := 566) (j := 9) (r := 573) rfl, RP_up (q := q) (o := 566) (j := 10) (r := 574) rfl, RP_up (q := q) (o := 566) (j := 11) (r := 575) rfl, RP_up (q := q) (o := 566) (j := 13) (r := 576) rfl]
  refine congrArg (fun R => Q (.inl none) (KP KL b 577, I7 I b, R, L, ad b 577, true)) (RP_congr hR (fun o j hr => ?_))
  have h1 := r_ne hr
  by_cases e : A o j
  · simp only [e, true_or]
  · simp only [e, false_or]
    omega
/-- the memory at the loop's beginning -/
def I8 (I : Nat → Nat → Int32) (f b : Nat) : Nat → Nat → Int32 := I7 (I6 (cpI I f 0 (ad b 6) 0 6) f b) b
theorem s214 (hR : ∀ a, b ≤ a → ∀ j, RL a j = none) (hK : ∀ a, b ≤ a → KL a = (0, 0)) (hz : z.1 0 < b) (hk : KL (z.1 0) = (50, 6)) {y : Nat} : X z 214 0 [some (.ref y), none, none, none, none, none, none, none, none] [] (0, 0) (KL, I, RL, L, b, true) Q = X z 214 23 [some (.ref y), some (.ref (ad b 0)), some (.ref (ad b 566)), some (.ref (ad b 577)), some (.int (nI 0)), none, none, none, none] [] (578, 12467) (KAt KL b, I8 I (z.1 0) b, RAt RL b q0, L, ad b 578, true) Q := by
  have k0 : kt 0 = (110, 0) := rfl
  have k1 : kt 566 = (111, 0) := rfl
  have k2 : kt 577 = (21, 1) := rfl
  have e1 : X z 214 0 [some (.ref y), none, none, none, none, none, none, none, none] [] (0, 0) (KL, I, RL, L, b, true) Q = X z 214 0 [some (.ref y), none, none, none, none, none, none, none, none] [] (0, 0) (KP KL b 0, I, RP RL b q0 (fun _ _ => False), L, ad b 0, true) Q := by
    rw [KP_0, RP_0]
    rfl
  rw [e1]
  simp (disch := omega) only [v214_0, v214_3, v214_3i, u214_4, v214_7, v214_8, v214_11, v214_11i, u214_12, v214_15, v214_16, v214_17, v214_19, v214_20, v214_21, n_cl, n_in_t, n_lt_t, n_lt_f, n_eq_t, n_eq_f, nI_add, n_01, ↓reduceIte, if_true, if_false, eq_self, true_or, or_true, and_self, and_true, true_and, Nat.reduceAdd, Nat.reduceMul, Nat.reduceLeDiff, Nat.zero_le, Nat.zero_add, not_true_eq_false, not_false_eq_true, cat2_n, cat2_i, cat2_r, ws_0, ws_i, ws_r, aftr_n, va_rf_s, n_nlt0, ad_1, KP_new k0, KP_new k1, KP_new k2, KP_at, k0, k1, k2, c57 hR hz hk, c104 hR]
  rw [KP_all (fun a h => by rw [hK a (by omega)]; unfold kt; repeat' rw [if_neg (by omega)]), RP_all hR (fun o j hr => by have := r_ne hr; omega)]
  rfl
end CN
