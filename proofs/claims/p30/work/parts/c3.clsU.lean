/-! THE CLASS: the share, its bits, the mixing -/
def nf (d : UInt64) : Bool := decide (d &&& 0x7fffffffffffffff ≤ 0x7ff0000000000000)
theorem nf_n {d : UInt64} (h : nf d = true) : vf_n64 d := by
  unfold nf at h
  rw [decide_eq_true_eq] at h
  exact h
def bitF : Nat → UInt64 → Int64 → Option Int64
  | 0, _, _ => none
  | d + 1, u, e => if Op.cmpValue (FP.dcmp u (UInt64.ofNat 4607182418800017408)) .g < nI 0 then (if nf (FP.dmul u (UInt64.ofNat 4611686018427387904)) = true then bitF d (FP.dmul u (UInt64.ofNat 4611686018427387904)) (e - lN 1) else none)
    else if nf (FP.dmul u (UInt64.ofNat 4841369599423283200)) = true then some ((e <<< ((nI 52).toInt64 &&& 63)) + (FP.d2l (FP.dmul u (UInt64.ofNat 4841369599423283200)) - lN 4503599627370496)) else none
def bitsF (u : UInt64) : Option Int64 := if nI 0 < Op.cmpValue (FP.dcmp u (UInt64.ofNat 0)) .g then bitF 8 u (lN 1023) else some (lN 0)
theorem bits_all : ∀ c, c < 20 → ∀ a, a < c + 2 → bitsF (FP.ddiv (FP.i2d (nI a)) (FP.i2d (nI (c + 1)))) = some (FP.ddiv (FP.i2d (nI a)) (FP.i2d (nI (c + 1)))).toInt64 := by decide +kernel
theorem bits_0 : bitsF (UInt64.ofNat 0) = some (UInt64.ofNat 0).toInt64 := by decide +kernel
theorem bits_shr {A : Row} (hg : Good A) : bitsF (shrV A) = some (shrV A).toInt64 := by
  have h1 := tot1_le hg
  have h6 := hg.1.1
  unfold shrV
  by_cases e : A 6 = 0
  · rw [if_pos e]; exact bits_0
  · rw [if_neg e]
    have := bits_all (A 6 - 1) (by omega) (totS A 1) (by omega)
    rwa [show A 6 - 1 + 1 = A 6 by omega] at this
section CU
variable {z : P0} {KL : Nat → Nat × Nat} {RL : Nat → Nat → Option Nat} {q : Nat → Nat} {b : Nat} {I : Nat → Nat → Int32} {L : Nat → Nat → Int64} {sz : Nat} {ex : Bool} {Q : Res → Mem → Prop} {A : Row}
variable {n : Nat} {H : Nat → Row} {B : List Nat} {h : Int64}
end CU
