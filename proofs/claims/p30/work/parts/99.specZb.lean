/-! THE REFERENCE: the share, the digest -/
def mx (h v : Int64) : Int64 := lN 31 * h + v
def mxN (h : Int64) (l : List Nat) : Int64 := l.foldl (fun h v => mx h (nI v).toInt64) h
theorem mxN_nil {h : Int64} : mxN h [] = h := rfl
theorem mxN_c {h : Int64} {v : Nat} {l : List Nat} : mxN h (v :: l) = mxN (mx h (nI v).toInt64) l := rfl
theorem mxN_a {h : Int64} {l l' : List Nat} : mxN h (l ++ l') = mxN (mxN h l) l' := by unfold mxN; rw [List.foldl_append]
def flatF (f : Nat → List Nat) : Nat → Nat → List Nat
  | _, 0 => []
  | i, d + 1 => f i ++ flatF f (i + 1) d
def perL (A : Row) (p : Nat) : List Nat := segF (perV A p) 0 9 ++ (nameL A p ++ [rdyV A p])
def worL (A : Row) (w : Nat) : List Nat := segF (fun k => worV A w (if k < 4 then k else 6 + k)) 0 12
def letL (A : Row) (l : Nat) : List Nat := segF (letV A l) 0 8 ++ (maskL ((grps A).2 l) :: textT A ((grps A).2 l))
def shrV (A : Row) : UInt64 := if A 6 = 0 then UInt64.ofNat 0 else FP.ddiv (FP.i2d (nI (totS A 1))) (FP.i2d (nI (A 6)))
/-- the digest -/
def digV (w : Wd) : Int64 := mxN (mx (mxN (lN 2377) (segF (cntV w.1 w.2.1) 0 15 ++ (segF w.1 0 6 ++ (flatF (perL w.1) 0 (w.1 6) ++ (flatF (worL w.1) 0 (w.1 7) ++ (flatF (letL w.1) 0 (grps w.1).1 ++ [joinV w.1, widV w.1])))))) (shrV w.1).toInt64) (w.2.2.2.length :: w.2.2.2)
theorem up_up {α : Type} {f : Nat → Nat → α} {a k : Nat} {v v' : α} : up2 (up2 f a k v) a k v' = up2 f a k v' := by
  funext x j
  unfold up2
  by_cases h : x = a ∧ j = k
  · rw [if_pos h, if_pos h]
  · rw [if_neg h, if_neg h, if_neg h]
def okD (d : UInt64) : Bool := decide (d &&& 0x7fffffffffffffff ≤ 0x7ff0000000000000) && decide (Op.cmpValue (FP.dcmp d d) .l = nI 0)
theorem okD_all : ∀ a, a < 21 → ∀ c, c < 20 → okD (FP.ddiv (FP.i2d (nI a)) (FP.i2d (nI (c + 1)))) = true := by decide +kernel
theorem okD_0 : okD (UInt64.ofNat 0) = true := by decide +kernel
theorem sumF_add {f g : Nat → Nat} : ∀ d i, sumF (fun k => f k + g k) i d = sumF f i d + sumF g i d
  | 0, _ => rfl
  | d + 1, i => by unfold sumF; rw [sumF_add d (i + 1)]; omega
theorem sumF_snoc {f : Nat → Nat} : ∀ d i, sumF f i (d + 1) = sumF f i d + f (i + d)
  | 0, i => by
    show f i + 0 = 0 + f (i + 0)
    rw [Nat.add_zero, Nat.zero_add, Nat.add_zero]
  | d + 1, i => by
    have := sumF_snoc (f := f) d (i + 1)
    show f i + sumF f (i + 1) (d + 1) = (f i + sumF f (i + 1) d) + f (i + (d + 1))
    rw [this, show i + 1 + d = i + (d + 1) by omega]
    omega
theorem sumF_upd {f g : Nat → Nat} {j : Nat} (h : ∀ k, k ≠ j → g k = f k) (hj : g j = f j + 1) : ∀ d i, i ≤ j → j < i + d → sumF g i d = sumF f i d + 1
  | 0, i, h1, h2 => by omega
  | d + 1, i, h1, h2 => by
    unfold sumF
    by_cases e : i = j
    · subst e
      have : ∀ d k, i < k → sumF g k d = sumF f k d := by
        intro d
        induction d with
        | zero => intro k _; rfl
        | succ d ih => intro k hk; unfold sumF; rw [ih (k + 1) (by omega), h k (by omega)]
      rw [this d (i + 1) (by omega), hj]
      omega
    · rw [sumF_upd h hj d (i + 1) (by omega) (by omega), h i e]
      omega
/-- the persons of all letters are no more than the persons -/
theorem grp_len {A : Row} (h2 : 1 ≤ A 2) : ∀ n, sumF (fun k => ((grp A n).2 k).length) 0 (grp A n).1 ≤ n
  | 0 => Nat.le_refl _
  | n + 1 => by
    have ih := grp_len h2 n
    unfold grp
    split
    · have gl := gix_le (A := A) (G := grp A n) (p := n)
      have e0 := (okg h2 n).2.1
      unfold insG
      by_cases e : gix A (grp A n) n < (grp A n).1
      · rw [if_pos e]
        have := sumF_upd (f := fun k => ((grp A n).2 k).length) (g := fun k => (if k = gix A (grp A n) n then (grp A n).2 k ++ [n] else (grp A n).2 k).length) (j := gix A (grp A n) n) (fun k hk => by rw [if_neg hk]) (by rw [if_pos rfl, List.length_append, List.length_singleton]) (grp A n).1 0 (Nat.zero_le _) (by omega)
        try dsimp only at this ⊢
        omega
      · rw [if_neg e]
        have eg : gix A (grp A n) n = (grp A n).1 := by omega
        dsimp only
        have := sumF_upd (f := fun k => ((grp A n).2 k).length) (g := fun k => (if k = gix A (grp A n) n then (grp A n).2 k ++ [n] else (grp A n).2 k).length) (j := gix A (grp A n) n) (fun k hk => by rw [if_neg hk]) (by rw [if_pos rfl, List.length_append, List.length_singleton]) ((grp A n).1 + 1) 0 (Nat.zero_le _) (by omega)
        have h3 := sumF_snoc (f := fun k => ((grp A n).2 k).length) (grp A n).1 0
        rw [Nat.zero_add, e0 _ (Nat.le_refl _), List.length_nil] at h3
        try dsimp only at this ⊢
        omega
    · omega
theorem sumF_mono {f g : Nat → Nat} : ∀ d i, (∀ k, f k ≤ g k) → sumF f i d ≤ sumF g i d
  | 0, _, _ => Nat.le_refl _
  | d + 1, i, h => by
    have h1 := sumF_mono d (i + 1) h
    have h2 := h i
    unfold sumF
    omega
theorem tot1_le {A : Row} (hg : Good A) : totS A 1 ≤ A 6 := by
  refine Nat.le_trans (sumF_mono _ _ (fun k => ?_)) (grp_len (A := A) (by have := hg.2.1; omega) (A 6))
  cases sentB A ((grps A).2 k)
  · exact Nat.zero_le _
  · exact Nat.le_refl _
theorem shr_ok {A : Row} (hg : Good A) : okD (shrV A) = true := by
  have h1 := tot1_le hg
  have h6 := hg.1.1
  unfold shrV
  by_cases e : A 6 = 0
  · rw [if_pos e]; exact okD_0
  · rw [if_neg e]
    have := okD_all (totS A 1) (by omega) (A 6 - 1) (by omega)
    rwa [show A 6 - 1 + 1 = A 6 by omega] at this
theorem okD_n {d : UInt64} (h : okD d = true) : vf_n64 d ∧ Op.cmpValue (FP.dcmp d d) .l = nI 0 := by
  unfold okD at h
  rw [Bool.and_eq_true, decide_eq_true_eq, decide_eq_true_eq] at h
  exact h
section PB
variable {z : P0} {KL : Nat → Nat × Nat} {RL : Nat → Nat → Option Nat} {q : Nat → Nat} {b : Nat} {I : Nat → Nat → Int32} {L : Nat → Nat → Int64} {sz : Nat} {ex : Bool} {Q : Res → Mem → Prop} {A : Row}
variable {n : Nat} {H : Nat → Row} {B : List Nat} {h : Int64}
end PB
