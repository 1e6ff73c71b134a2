/-! THE LAW, from its beginning, on the clean machine -/
def A0 : Row := fun k => if k = 0 then 20 else if k = 1 then 5 else if k = 2 then 4 else if k = 3 then 7 else if k = 4 then 3 else if k = 5 then 4 else 0
section BG
variable {z : P0} {KL : Nat → Nat × Nat} {RL : Nat → Nat → Option Nat} {b : Nat} {I : Nat → Nat → Int32} {L : Nat → Nat → Int64} {Q : Res → Mem → Prop} {o f j : Nat}
theorem cp_lo {I : Nat → Nat → Int32} {so sp dp n a k' : Nat} (h : a < b) : cpI I so sp (ad b o) dp n a k' = I a k' := if_neg (fun x => by unfold ad at x; omega)
theorem I8_n (h : o ≠ 6 ∧ o ≠ 74 ∧ o ≠ 140 ∧ o ≠ 206 ∧ o ≠ 272 ∧ o ≠ 338 ∧ o ≠ 404 ∧ o ≠ 566) : I8 I f b (ad b o) j = I (ad b o) j := by
  unfold I8 I7 I6
  simp (disch := omega) only [up_n, cp_n]
theorem I8_lo {a : Nat} (h : a < b) : I8 I f b a j = I a j := by
  unfold I8 I7 I6
  simp (disch := omega) only [up_lo, cp_lo]
theorem I8_6 {k : Nat} (hk : k < 6) : I8 I f b (ad b 6) k = I f k := by
  unfold I8 I7 I6
  simp (disch := omega) only [up_n, cp_n]
  rw [cp_s (by omega) (by omega), Nat.zero_add, Nat.sub_zero]
theorem I8_r (h0 : ∀ j, I (ad b 566) j = 0) {k : Nat} (hk : k < 6) : I8 I f b (ad b 566) (8 + k) = nI (A0 k) := by
  unfold I8 I7 I6 A0
  rcases (show k = 0 ∨ k = 1 ∨ k = 2 ∨ k = 3 ∨ k = 4 ∨ k = 5 by omega) with rfl | rfl | rfl | rfl | rfl | rfl
  · simp (disch := omega) only [up_n, Nat.add_zero, up_s]; rfl
  · simp (disch := omega) only [up_n, Nat.reduceAdd, up_s]; rfl
  · simp (disch := omega) only [up_n, Nat.reduceAdd, up_s]; rfl
  · simp (disch := omega) only [up_n, Nat.reduceAdd, up_s]; rfl
  · simp (disch := omega) only [up_n, Nat.reduceAdd, up_s]; rfl
  · simp (disch := omega) only [Nat.reduceAdd, up_s]; rfl
theorem I8_k (h0 : ∀ j, I (ad b 566) j = 0) {k : Nat} (hk : k < 8) : I8 I f b (ad b 566) k = nI 0 := by
  unfold I8 I7 I6
  simp (disch := omega) only [up_n, cp_n, h0]
  rfl
theorem A0_z {k : Nat} (h : 6 ≤ k) : A0 k = 0 := by
  unfold A0
  rw [if_neg (by omega), if_neg (by omega), if_neg (by omega), if_neg (by omega), if_neg (by omega), if_neg (by omega)]
theorem A0_lt (k : Nat) : A0 k < 4294967296 := by
  unfold A0
  repeat' split
  all_goals omega
theorem raw0 : (raw A0).length = 0 := raw_0.mpr (A0_z (by omega))
theorem good0 : Good A0 := by
  refine ⟨⟨by rw [A0_z (by omega)]; omega, by rw [A0_z (by omega)]; omega, by rw [A0_z (by omega)]; omega, by rw [A0_z (by omega)]; omega⟩, by decide, fun i hi => ?_, fun i hi => ?_, fun i hi => ?_, by rw [raw0]; omega⟩
  · rw [A0_z (by omega)] at hi; omega
  · rw [A0_z (by omega)] at hi; omega
  · rw [A0_z (by omega)] at hi; omega
theorem wd0 (hI : ∀ a, b ≤ a → ∀ j, I a j = 0) (hF : ∀ k, k < 6 → I (z.1 0) k = nI (A0 k)) (h1 : SZ KL RL b I z) (h2 : SV KL b I z) : WL KL RL z b (I8 I (z.1 0) b) q0 (A0, 0, fun _ => A0, []) 0 0 := by
  have hA : ∀ o j, I (ad b o) j = 0 := fun o j => hI _ (Nat.le_add_right b o) j
  have hn : ∀ {o j}, (o ≠ 6 ∧ o ≠ 74 ∧ o ≠ 140 ∧ o ≠ 206 ∧ o ≠ 272 ∧ o ≠ 338 ∧ o ≠ 404 ∧ o ≠ 566) → I8 I (z.1 0) b (ad b o) j = nI 0 := fun h => (I8_n h).trans (hA _ _)
  have ag : Ag (fun _ _ => True) b I (I8 I (z.1 0) b) := ⟨fun a ha => funext fun j => I8_lo ha, fun o j g => absurd trivial g⟩
  have q6 : ∀ k, 6 ≤ k → nI (A0 k) = nI 0 := fun k hk => by rw [A0_z hk]
  refine ⟨⟨⟨⟨⟨?_, ?_, ?_, ?_, ?_, ?_⟩, ?_, ?_, ?_, ?_⟩, ?_⟩, ?_, ⟨⟨?_, ?_⟩, ?_⟩, ?_, ?_, ?_, ?_⟩, ⟨good0, ?_⟩, fun k hk => A0_lt k, ?_, h2.ag ag, ⟨⟨⟨?_, ?_, ?_, ?_, ?_, ?_, ?_, ?_⟩, ?_⟩, ?_, ?_, ?_⟩, ⟨?_, ?_, ?_, ?_, ?_⟩, ?_⟩
  · rw [q6 6 (by omega)]; exact hn (by unfold sN; omega)
  · rw [q6 7 (by omega)]; exact hn (by unfold sN; omega)
  · rw [q6 8 (by omega)]; exact hn (by unfold sN; omega)
  · rw [q6 9 (by omega)]; exact hn (by unfold sN; omega)
  · rw [q6 10 (by omega)]; exact hn (by unfold sN; omega)
  · rw [q6 11 (by omega)]; exact hn (by unfold sN; omega)
  · intro i hi
    dsimp only at hi
    rw [A0_z (by omega)] at hi; omega
  · intro i hi
    dsimp only at hi
    rw [A0_z (by omega)] at hi; omega
  · dsimp only
    rw [raw0]; exact hn (by unfold sN; omega)
  · intro k hk
    dsimp only at hk
    rw [raw0] at hk; omega
  · intro k hk
    exact (I8_6 hk).trans (hF k hk)
  · refine ⟨fun j hj => ⟨isS_i hj, ?_⟩, fun j k hj hk h => ?_⟩
    · unfold q0; omega
    · unfold q0 at h; omega
  · exact hn (by omega)
  · exact Nat.zero_le _
  · intro j hj
    exact absurd hj (Nat.not_lt_zero _)
  · exact hn (by omega)
  · exact Nat.zero_le _
  · intro k hk
    exact absurd hk (Nat.not_lt_zero _)
  · intro c hc
    cases hc
  · intro j hj
    exact absurd hj (Nat.not_lt_zero _)
  · exact h1.ag ag
  · rw [q6 6 (by omega)]; exact I8_k (hA 566) (by omega)
  · rw [q6 7 (by omega)]; exact I8_k (hA 566) (by omega)
  · rw [q6 12 (by omega)]; exact I8_k (hA 566) (by omega)
  · rw [q6 8 (by omega)]; exact I8_k (hA 566) (by omega)
  · rw [q6 9 (by omega)]; exact I8_k (hA 566) (by omega)
  · rw [q6 10 (by omega)]; exact I8_k (hA 566) (by omega)
  · rw [q6 11 (by omega)]; exact I8_k (hA 566) (by omega)
  · exact I8_k (hA 566) (by omega)
  · intro k hk
    exact I8_r (hA 566) hk
  · intro i hi
    dsimp only at hi
    rw [A0_z (by omega)] at hi; omega
  · intro i hi
    dsimp only at hi
    rw [A0_z (by omega)] at hi; omega
  · intro i hi
    dsimp only at hi
    rw [A0_z (by omega)] at hi; omega
  · intro i hi
    dsimp only at hi
    rw [A0_z (by omega)] at hi; omega
  · intro i hi
    dsimp only at hi
    rw [A0_z (by omega)] at hi; omega
  · dsimp only
    rw [A0_z (by omega)]; omega
  · dsimp only
    rw [A0_z (by omega)]; omega
  · dsimp only
    rw [A0_z (by omega)]; omega
  · dsimp only
    rw [A0_z (by omega)]; omega
/-- the law on every script: its end is 1 -/
theorem xlaw {y len : Nat} (y1 : y < b) (y2 : KL y = (50, len)) (hl : len ≤ 2400000) (hQ : ∀ σ, Q (.inl (some (.int (nI 1)))) σ) (hR : ∀ a, b ≤ a → ∀ j, RL a j = none) (hz : z.1 0 < b) (hk : KL (z.1 0) = (50, 6)) (hI : ∀ a, b ≤ a → ∀ j, I a j = 0) (hF : ∀ k, k < 6 → I (z.1 0) k = nI (A0 k)) (h1 : SZ KL RL b I z) (h2 : SV KL b I z) : X z 214 0 [some (.ref y), none, none, none, none, none, none, none, none, none, none, none, none, none, none, none] [] (0, 0) (KL, I, RL, L, b, true) Q := by
  rw [s214 hR hz hk]
  exact l214 y1 hl hQ 30 0 577 KL (I8 I (z.1 0) b) q0 577 6761 (A0, 0, fun _ => A0, []) none none (by omega) (by omega) y2 (by omega) (by omega) (wd0 hI hF h1 h2)
end BG
