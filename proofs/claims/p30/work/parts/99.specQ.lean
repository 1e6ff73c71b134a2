/-! THE REFERENCE: sending -/
def snt (A : Row) (p : Nat) : Bool := decide (reas A p (A 8) = 0) && sentB A ((grps A).2 (lof A p))
def sendP (A : Row) (p : Nat) : Row := fun k => if k = 9 then (A 9 + totS A 0) % 4294967296 else if k = 10 then (A 10 + totS A 2) % 4294967296 else if k = 11 then (A 11 + totS A 3) % 4294967296 else if 93 ≤ k ∧ k < 93 + p ∧ snt A (k - 93) = true then A 8 else if 113 ≤ k ∧ k < 113 + p ∧ snt A (k - 113) = true then (A k + 1) % 4294967296 else A k
def opSend (w : Wd) : Ans := if w.1 12 = 0 ∨ totS w.1 0 = 0 then (1, 0, w) else (0, totS w.1 0, sv w (sendP w.1 (w.1 6)))
theorem sendP_0 {A : Row} : sendP A 0 = upr (upr (upr A 9 ((A 9 + totS A 0) % 4294967296)) 10 ((A 10 + totS A 2) % 4294967296)) 11 ((A 11 + totS A 3) % 4294967296) := by
  funext k
  unfold sendP upr
  by_cases h9 : k = 9
  · rw [if_pos h9, if_neg (by omega), if_neg (by omega), if_pos h9]
  · rw [if_neg h9]
    by_cases h10 : k = 10
    · rw [if_pos h10, if_neg (by omega), if_pos h10]
    · rw [if_neg h10]
      by_cases h11 : k = 11
      · rw [if_pos h11, if_pos h11]
      · rw [if_neg h11, if_neg h11, if_neg h10, if_neg h9, if_neg (fun x => by omega), if_neg (fun x => by omega)]
theorem sendP_t {A : Row} {p : Nat} (hp : p < 20) (h : snt A p = true) : sendP A (p + 1) = upr (upr (sendP A p) (93 + p) (A 8)) (113 + p) ((A (113 + p) + 1) % 4294967296) := by
  funext k
  unfold upr
  by_cases h1 : k = 113 + p
  · rw [if_pos h1, h1]
    unfold sendP
    rw [if_neg (by omega), if_neg (by omega), if_neg (by omega), if_neg (fun x => by omega), if_pos ⟨by omega, by omega, by rw [show 113 + p - 113 = p by omega]; exact h⟩]
  · rw [if_neg h1]
    by_cases h2 : k = 93 + p
    · rw [if_pos h2, h2]
      unfold sendP
      rw [if_neg (by omega), if_neg (by omega), if_neg (by omega), if_pos ⟨by omega, by omega, by rw [show 93 + p - 93 = p by omega]; exact h⟩]
    · rw [if_neg h2]
      unfold sendP
      have e1 : (93 ≤ k ∧ k < 93 + (p + 1) ∧ snt A (k - 93) = true) = (93 ≤ k ∧ k < 93 + p ∧ snt A (k - 93) = true) := propext ⟨fun x => ⟨x.1, by omega, x.2.2⟩, fun x => ⟨x.1, by omega, x.2.2⟩⟩
      have e2 : (113 ≤ k ∧ k < 113 + (p + 1) ∧ snt A (k - 113) = true) = (113 ≤ k ∧ k < 113 + p ∧ snt A (k - 113) = true) := propext ⟨fun x => ⟨x.1, by omega, x.2.2⟩, fun x => ⟨x.1, by omega, x.2.2⟩⟩
      simp only [e1, e2]
theorem sendP_f {A : Row} {p : Nat} (h : snt A p = false) : sendP A (p + 1) = sendP A p := by
  funext k
  unfold sendP
  have e1 : (93 ≤ k ∧ k < 93 + (p + 1) ∧ snt A (k - 93) = true) = (93 ≤ k ∧ k < 93 + p ∧ snt A (k - 93) = true) := propext ⟨fun x => ⟨x.1, (show k < 93 + p ∨ k - 93 = p by omega).elim id (fun e => by rw [e, h] at x; exact absurd x.2.2 (by decide)), x.2.2⟩, fun x => ⟨x.1, by omega, x.2.2⟩⟩
  have e2 : (113 ≤ k ∧ k < 113 + (p + 1) ∧ snt A (k - 113) = true) = (113 ≤ k ∧ k < 113 + p ∧ snt A (k - 113) = true) := propext ⟨fun x => ⟨x.1, (show k < 113 + p ∨ k - 113 = p by omega).elim id (fun e => by rw [e, h] at x; exact absurd x.2.2 (by decide)), x.2.2⟩, fun x => ⟨x.1, by omega, x.2.2⟩⟩
  simp only [e1, e2]
theorem sendP_k {A : Row} {p k : Nat} (hp : p ≤ 20) (h : ¬ (k = 9 ∨ k = 10 ∨ k = 11 ∨ (93 ≤ k ∧ k < 93 + p) ∨ (113 ≤ k ∧ k < 113 + p))) : sendP A p k = A k := by
  unfold sendP
  rw [if_neg (by omega), if_neg (by omega), if_neg (by omega), if_neg (fun x => by omega), if_neg (fun x => by omega)]
section OT
variable {z : P0} {KL : Nat → Nat × Nat} {RL : Nat → Nat → Option Nat} {q : Nat → Nat} {b : Nat} {I : Nat → Nat → Int32} {L : Nat → Nat → Int64} {sz : Nat} {ex : Bool} {Q : Res → Mem → Prop} {A : Row}
variable {n : Nat} {H : Nat → Row} {B : List Nat}
theorem RS.setm {k v : Nat} (h : RS b I (A, n, H, B)) (hk : k < 473) : RS b (up2 I (ad b 567) k (nI v)) (upr A k (v % 4294967296), n, H, B) := by
  have := h.setz (v := v % 4294967296) hk (by omega)
  rwa [n_m32] at this
def pRz (o _j : Nat) : Prop := o = 567
theorem lof_0 {p : Nat} (h : reas A p (A 8) ≠ 0) : lof A p = 4294967295 := by unfold lof; rw [if_neg h]
theorem sumF_le {f : Nat → Nat} {M : Nat} : ∀ d i, (∀ k, k < i + d → f k ≤ M) → sumF f i d ≤ d * M
  | 0, i, _ => by unfold sumF; omega
  | d + 1, i, h => by
    have h1 := sumF_le (f := f) (M := M) d (i + 1) (fun k hk => h k (by omega))
    have h2 := h i (by omega)
    unfold sumF
    rw [Nat.succ_mul]
    omega
theorem totS_le (hg : Good A) {w : Nat} : totS A w ≤ 2000000 := by
  have h6 := hg.1.1
  have hn := grps_le hg
  have h5 := hg.2.1
  have : totS A w ≤ (grps A).1 * 80000 := by
    unfold totS
    refine sumF_le _ _ (fun k hk => ?_)
    rw [Nat.zero_add] at hk
    have ok := grps_ok hg hk
    have bd := lay_bd hg ok
    have := ok.2.2.2.1
    have h7 : pagesT A ((grps A).2 k) * A 5 ≤ 4000 * 20 := Nat.mul_le_mul (by omega) (by omega)
    cases sentB A ((grps A).2 k)
    · simp only [cond_false]; omega
    · simp only [cond_true]; split
      · omega
      · split
        · omega
        · split <;> omega
  have h8 : (grps A).1 * 80000 ≤ 20 * 80000 := Nat.mul_le_mul (by omega) (by omega)
  omega
end OT
