/-! numbers: every int is nI of a natural number; addresses: ad b o; what lies where -/
theorem nI_bv (a : Nat) : (nI a).toBitVec = BitVec.ofNat 32 a := rfl
theorem n_cl {a : Nat} (h : a < 2147483648) : (nI a).toNatClampNeg = a := nI_clamp h
theorem n_lt {a b : Nat} (ha : a < 2147483648) (hb : b < 2147483648) : (nI a < nI b) = (a < b) := propext (nI_ltI ha hb)
theorem n_le {a b : Nat} (ha : a < 2147483648) (hb : b < 2147483648) : (nI a ≤ nI b) = (a ≤ b) := propext (nI_leI ha hb)
theorem n_inj {a b : Nat} (ha : a < 4294967296) (hb : b < 4294967296) (h : nI a = nI b) : a = b := by
  have h1 := congrArg (fun x : Int32 => x.toBitVec.toNat) h
  rw [nI_bv, nI_bv, BitVec.toNat_ofNat, BitVec.toNat_ofNat] at h1
  omega
theorem n_eq {a b : Nat} (ha : a < 4294967296) (hb : b < 4294967296) : (nI a = nI b) = (a = b) := propext ⟨n_inj ha hb, fun h => h ▸ rfl⟩
theorem n_ti {a : Nat} (h : a < 4294967296) : (nI a).toInt = if a < 2147483648 then (a : Int) else (a : Int) - 4294967296 := by
  show (BitVec.ofNat 32 a).toInt = _
  rw [BitVec.toInt_eq_toNat_cond, BitVec.toNat_ofNat, Nat.mod_eq_of_lt (by omega)]
  by_cases h1 : a < 2147483648
  · rw [if_pos h1, if_pos (by omega)]
  · rw [if_neg h1, if_neg (by omega)]; rfl
theorem g_lt {a b : Nat} (ha : a < 4294967296) (hb : b < 4294967296) : (nI a < nI b) = ((a + 2147483648) % 4294967296 < (b + 2147483648) % 4294967296) := by
  rw [Int32.lt_iff_toInt_lt, n_ti ha, n_ti hb]
  refine propext ?_
  split <;> split <;> omega
theorem g_le {a b : Nat} (ha : a < 4294967296) (hb : b < 4294967296) : (nI a ≤ nI b) = ((a + 2147483648) % 4294967296 ≤ (b + 2147483648) % 4294967296) := by
  rw [Int32.le_iff_toInt_le, n_ti ha, n_ti hb]
  refine propext ?_
  split <;> split <;> omega
theorem n_of (x : Int32) : ∃ n, n < 4294967296 ∧ x = nI n := by
  refine ⟨x.toBitVec.toNat, x.toBitVec.isLt, Int32.toBitVec_inj.mp ?_⟩
  rw [nI_bv, BitVec.ofNat_toNat, BitVec.setWidth_eq]
theorem n_mod (a : Nat) : nI (a + 4294967296) = nI a := Int32.toBitVec_inj.mp (by rw [nI_bv, nI_bv]; apply BitVec.eq_of_toNat_eq; rw [BitVec.toNat_ofNat, BitVec.toNat_ofNat]; omega)
theorem n_sub {a b : Nat} (h : b ≤ a) : nI a - nI b = nI (a - b) := by
  have h1 : nI a = nI (a - b) + nI b := by rw [nI_add, Nat.sub_add_cancel h]
  rw [h1, Int32.add_sub_cancel]
theorem n_mul (a b : Nat) : nI a * nI b = nI (a * b) := (Int32.ofNat_mul a b).symm
theorem n_in {a n : Nat} (h : a < 2147483648) : vp_in (nI a) n = (a < n) := by
  refine propext ⟨fun g => ?_, fun g => ?_⟩
  · unfold vp_in at g
    rw [n_cl h] at g
    omega
  · unfold vp_in
    rw [n_cl h]
    intro x
    rcases x with x | x
    · exact nI_pos h x
    · omega
theorem n_div {a b : Nat} (ha : a < 2147483648) (hb : b < 2147483648) : nI a / nI b = nI (a / b) := by
  refine Int32.toInt_inj.mp ?_
  rw [Int32.toInt_div, n_ti (by omega), n_ti (by omega), n_ti (by have := Nat.div_le_self a b; omega), if_pos ha, if_pos hb, if_pos (by have := Nat.div_le_self a b; omega)]
  rw [← Int.ofNat_tdiv]
  have h1 := Nat.div_le_self a b
  generalize a / b = k at h1 ⊢
  exact Int.bmod_eq_of_le (by omega) (by omega)
theorem n_rem {a b : Nat} (ha : a < 2147483648) (hb : b < 2147483648) : nI a - nI a / nI b * nI b = nI (a % b) := by
  rw [n_div ha hb, n_mul, n_sub (Nat.div_mul_le_self a b)]
  congr 1
  have := Nat.div_add_mod a b
  rw [Nat.mul_comm] at this
  omega
theorem n_in_t {a n : Nat} (h : a < n) (hn : n < 2147483648) : vp_in (nI a) n = True := (n_in (by omega)).trans (eq_true h)
theorem n_lt_t {a b : Nat} (h : a < b) (hb : b < 2147483648) : (nI a < nI b) = True := (n_lt (by omega) hb).trans (eq_true h)
theorem n_lt_f {a b : Nat} (h : b ≤ a) (ha : a < 2147483648) : (nI a < nI b) = False := (n_lt ha (by omega)).trans (eq_false (Nat.not_lt.mpr h))
theorem n_eq_t {a b : Nat} (h : a = b) : (nI a = nI b) = True := eq_true (h ▸ rfl)
theorem n_eq_f {a b : Nat} (h : ¬ a = b) (ha : a < 4294967296) (hb : b < 4294967296) : (nI a = nI b) = False := (n_eq ha hb).trans (eq_false h)
/-- a truth value as an int -/
def bI (c : Bool) : Int32 := bif c then nI 1 else nI 0
theorem bI_t : bI true = nI 1 := rfl
theorem bI_f : bI false = nI 0 := rfl
theorem bI_ok (c : Bool) : (bI c = nI 0 ∨ bI c = nI 1) = True := by cases c <;> simp [bI]
theorem bI_0 (c : Bool) : (bI c = nI 0) = (c = false) := by cases c <;> simp [bI, n_eq]
theorem bI_1 (c : Bool) : (bI c = nI 1) = (c = true) := by cases c <;> simp [bI, n_eq]
theorem n_or (a b : Nat) : nI a ||| nI b = nI (a ||| b) := Int32.toBitVec_inj.mp (by rw [Int32.toBitVec_or, nI_bv, nI_bv, nI_bv]; apply BitVec.eq_of_toNat_eq; rw [BitVec.toNat_or, BitVec.toNat_ofNat, BitVec.toNat_ofNat, BitVec.toNat_ofNat, Nat.or_mod_two_pow])
theorem n_and (a b : Nat) : nI a &&& nI b = nI (a &&& b) := Int32.toBitVec_inj.mp (by rw [Int32.toBitVec_and, nI_bv, nI_bv, nI_bv]; apply BitVec.eq_of_toNat_eq; rw [BitVec.toNat_and, BitVec.toNat_ofNat, BitVec.toNat_ofNat, BitVec.toNat_ofNat, Nat.and_mod_two_pow])
theorem n_xor (a b : Nat) : nI a ^^^ nI b = nI (a ^^^ b) := Int32.toBitVec_inj.mp (by rw [Int32.toBitVec_xor, nI_bv, nI_bv, nI_bv]; apply BitVec.eq_of_toNat_eq; rw [BitVec.toNat_xor, BitVec.toNat_ofNat, BitVec.toNat_ofNat, BitVec.toNat_ofNat, Nat.xor_mod_two_pow])
theorem n_sm : ∀ n, n < 32 → ((nI n &&& 31).toBitVec.smod 32).toNat = n := by decide +kernel
theorem n_shl1 {p : Nat} (h : p < 32) : nI 1 <<< (nI p &&& 31) = nI (2 ^ p) := by
  rw [pk_shlN _ p (n_sm p h) (by rw [Nat.one_mul]; exact Nat.pow_lt_pow_right (by omega) h), Nat.one_mul]
theorem bI_bit (m p : Nat) : nI (m / 2 ^ p % 2) = bI (m.testBit p) := by
  rw [Nat.testBit_eq_decide_div_mod_eq]
  rcases Nat.mod_two_eq_zero_or_one (m / 2 ^ p) with h | h <;> rw [h] <;> rfl
theorem n_bit {m p : Nat} (hm : m < 2147483648) (hp : p < 32) : (nI m >>> (nI p &&& 31)) &&& nI 1 = bI (m.testBit p) := by
  rw [pk_shrN hm _ p (n_sm p hp), pk_andN (by have := Nat.div_le_self m (2 ^ p); omega) 1 (by decide), bI_bit]
/-- low ≤ p ≤ high, as the machine asks it -/
theorem n_wi {lo hi p : Nat} (hl : lo < 2147483648) (hh : hi < 2147483648) (hp : p < 4294967296) : (!decide (nI p < nI lo) && !decide (nI hi < nI p)) = decide (lo ≤ p ∧ p ≤ hi) := by
  rw [Bool.eq_iff_iff]
  simp only [Bool.and_eq_true, Bool.not_eq_true', decide_eq_false_iff_not, decide_eq_true_eq]
  rw [g_lt hp (by omega), g_lt (by omega) hp]
  omega
theorem n_wp {n p : Nat} (hn : n < 2147483648) (hp : p < 4294967296) : (!decide (nI p < nI 0) && !decide (nI n - nI 1 < nI p)) = decide (p < n) := by
  rcases n with _ | n
  · rw [show nI 0 - nI 1 = nI 4294967295 by decide +kernel, Bool.eq_iff_iff]
    simp only [Bool.and_eq_true, Bool.not_eq_true', decide_eq_false_iff_not, decide_eq_true_eq]
    rw [g_lt hp (by omega), g_lt (by omega) hp]
    omega
  · rw [n_sub (by omega), n_wi (by omega) (by omega) hp, Bool.eq_iff_iff]
    simp only [decide_eq_true_eq]
    omega
def ad (b o : Nat) : Nat := b + o
theorem ad_eq {b o p : Nat} : (ad b o = ad b p) = (o = p) := propext (by unfold ad; omega)
def sN : Nat := 1
def pP : Nat := 473
def pT : Nat := 519
def ktS (o : Nat) : Nat × Nat := if o = 0 then (108, 0) else if o = 1 then (23, 20) else if o = 2 then (25, 10) else if o = 3 then (104, 0) else if o = 4 then (20, 60) else if o = 5 then (20, 6) else if o < 46 then (if o % 2 = 0 then (107, 0) else (20, 8)) else (if o % 2 = 0 then (109, 0) else (20, 8))
def ktM (o : Nat) : Nat × Nat := if o = 0 then (106, 0) else if o = 1 then (22, 20) else if o = 2 then (20, 20) else if o = 3 then (20, 20) else if o = 4 then (20, 41) else if o = 5 then (20, 41) else if o % 2 = 0 then (102, 0) else (20, 6)
def kt (o : Nat) : Nat × Nat := if o = 0 then (110, 0) else if o < 67 then ktS (o - 1) else if o = 67 then (103, 0) else if o = 68 then (24, 6) else if o < 465 then ktS ((o - 69) % 66) else if o = 465 then (100, 0) else if o = 466 then (20, 60) else if o = 467 then (101, 0) else if o = 468 then (20, 1660) else if o = 469 then (20, 6) else if o = 470 then (105, 0) else if o = 471 then (20, 121) else if o = 472 then (20, 121) else if o < 519 then ktM (o - 473) else if o < 565 then ktM (o - 519) else if o = 565 then (20, 6) else if o = 566 then (20, 15) else if o < 574 then (20, 20) else if o = 574 then (20, 10) else if o = 575 then (20, 24) else if o = 576 then (20, 20) else (0, 0)
def rtS (s o j : Nat) : Option Nat := if o = 0 then (if j = 0 then some (s + 1) else if j = 2 then some (s + 2) else if j = 4 then some (s + 3) else if j = 5 then some (s + 5) else none) else if o = 1 then (if j < 20 then some (s + 6 + 2 * j) else none) else if o = 2 then (if j < 10 then some (s + 46 + 2 * j) else none) else if o = 3 then (if j = 0 then some (s + 4) else none) else if o < 6 then none else if o % 2 = 0 then (if j = 0 then some (s + o + 1) else none) else none
def rtM (p o j : Nat) : Option Nat := if o = 0 then (if j = 0 then some (p + 1) else if j = 2 then some (p + 2) else if j = 3 then some (p + 3) else if j = 4 then some 467 else if j = 5 then some 470 else if j = 6 then some (p + 4) else if j = 7 then some (p + 5) else none) else if o = 1 then (if j < 20 then some (p + 6 + 2 * j) else none) else if o < 6 then none else if o % 2 = 0 then (if j = 0 then some (p + o + 1) else none) else none
def rt (q : Nat → Nat) (o j : Nat) : Option Nat := if o = 0 then (if j = 0 then some sN else if j = 1 then some 67 else if j = 2 then some 465 else if j = 3 then some pP else if j = 4 then some pT else if j = 5 then some 565 else none) else if o < 67 then rtS 1 (o - 1) j else if o = 67 then (if j = 0 then some 68 else none) else if o = 68 then (if j < 6 then some (q j) else none) else if o < 465 then rtS (69 + 66 * ((o - 69) / 66)) ((o - 69) % 66) j else if o = 465 then (if j = 0 then some 466 else none) else if o = 467 then (if j = 0 then some 468 else if j = 2 then some 469 else none) else if o = 470 then (if j = 0 then some 471 else if j = 1 then some 472 else none) else if o < 473 then none else if o < 519 then rtM 473 (o - 473) j else if o < 565 then rtM 519 (o - 519) j else none
/-- the world lies at b to b + 576; what lies below and above, KL tells -/
def KAt (KL : Nat → Nat × Nat) (b : Nat) : Nat → Nat × Nat := fun a => if a < b ∨ b + 577 ≤ a then KL a else kt (a - b)
def RAt (RL : Nat → Nat → Option Nat) (b : Nat) (q : Nat → Nat) : Nat → Nat → Option Nat := fun a j => if a < b then RL a j else (rt q (a - b) j).map (ad b)
section WD
variable {KL : Nat → Nat × Nat} {RL : Nat → Nat → Option Nat} {q : Nat → Nat} {b s p : Nat}
theorem kw {o : Nat} (h : o < 577) : KAt KL b (ad b o) = kt o := by unfold KAt ad; rw [if_neg (by omega), Nat.add_sub_cancel_left]
theorem kw_lo {a : Nat} (h : a < b) : KAt KL b a = KL a := if_pos (Or.inl h)
theorem kw_hi {o : Nat} (h : 577 ≤ o) : KAt KL b (ad b o) = KL (ad b o) := if_pos (Or.inr (by unfold ad; omega))
theorem KAt_up {o : Nat} {v : Nat × Nat} (h : 577 ≤ o) : upK (KAt KL b) (ad b o) v = KAt (upK KL (ad b o) v) b := by
  funext a
  unfold upK KAt
  by_cases e : a = ad b o
  · rw [if_pos e, if_pos (Or.inr (by rw [e]; unfold ad; omega))]
    exact (if_pos e).symm
  · rw [if_neg e]
    by_cases e2 : a < b ∨ b + 577 ≤ a
    · rw [if_pos e2, if_pos e2]
      exact (if_neg e).symm
    · rw [if_neg e2, if_neg e2]
theorem rw_lo {a j : Nat} (h : a < b) : RAt RL b q a j = RL a j := if_pos h
theorem rwa_ {o j r : Nat} (h : rt q o j = some r) : RAt RL b q (ad b o) j = some (ad b r) := by unfold RAt; rw [if_neg (by unfold ad; omega), show ad b o - b = o from Nat.add_sub_cancel_left .., h]; rfl
def isS (s : Nat) : Prop := s = 1 ∨ ∃ i, i < 6 ∧ s = 69 + 66 * i
def isM (p : Nat) : Prop := p = 473 ∨ p = 519
theorem isS_N : isS sN := Or.inl rfl
theorem isM_P : isM pP := Or.inl rfl
theorem isM_T : isM pT := Or.inr rfl
theorem kS {o : Nat} (h : isS s) (ho : o < 66) : KAt KL b (ad b (s + o)) = ktS o := by
  rw [kw (by unfold isS at h; omega)]
  unfold kt
  rcases h with rfl | ⟨i, hi, rfl⟩
  · rw [if_neg (by omega), if_pos (by omega), show 1 + o - 1 = o by omega]
  · rw [if_neg (by omega), if_neg (by omega), if_neg (by omega), if_neg (by omega), if_pos (by omega), show (69 + 66 * i + o - 69) % 66 = o by omega]
theorem kS0 (h : isS s) : KAt KL b (ad b s) = (108, 0) := kS (o := 0) h (by omega)
theorem kS1 (h : isS s) : KAt KL b (ad b (s + 1)) = (23, 20) := kS h (by omega)
theorem kS2 (h : isS s) : KAt KL b (ad b (s + 2)) = (25, 10) := kS h (by omega)
theorem kS3 (h : isS s) : KAt KL b (ad b (s + 3)) = (104, 0) := kS h (by omega)
theorem kS4 (h : isS s) : KAt KL b (ad b (s + 4)) = (20, 60) := kS h (by omega)
theorem kS5 (h : isS s) : KAt KL b (ad b (s + 5)) = (20, 6) := kS h (by omega)
theorem kSp {i : Nat} (h : isS s) (hi : i < 20) : KAt KL b (ad b (s + 6 + 2 * i)) = (107, 0) := by
  rw [Nat.add_assoc, kS h (by omega)]; unfold ktS
  rw [if_neg (by omega), if_neg (by omega), if_neg (by omega), if_neg (by omega), if_neg (by omega), if_neg (by omega), if_pos (by omega), if_pos (by omega)]
theorem kSn {i : Nat} (h : isS s) (hi : i < 20) : KAt KL b (ad b (s + 7 + 2 * i)) = (20, 8) := by
  rw [Nat.add_assoc, kS h (by omega)]; unfold ktS
  rw [if_neg (by omega), if_neg (by omega), if_neg (by omega), if_neg (by omega), if_neg (by omega), if_neg (by omega), if_pos (by omega), if_neg (by omega)]
theorem kSw {i : Nat} (h : isS s) (hi : i < 10) : KAt KL b (ad b (s + 46 + 2 * i)) = (109, 0) := by
  rw [Nat.add_assoc, kS h (by omega)]; unfold ktS
  rw [if_neg (by omega), if_neg (by omega), if_neg (by omega), if_neg (by omega), if_neg (by omega), if_neg (by omega), if_neg (by omega), if_pos (by omega)]
theorem kSl {i : Nat} (h : isS s) (hi : i < 10) : KAt KL b (ad b (s + 47 + 2 * i)) = (20, 8) := by
  rw [Nat.add_assoc, kS h (by omega)]; unfold ktS
  rw [if_neg (by omega), if_neg (by omega), if_neg (by omega), if_neg (by omega), if_neg (by omega), if_neg (by omega), if_neg (by omega), if_neg (by omega)]
theorem rS {o j : Nat} (h : isS s) (ho : o < 66) : rt q (s + o) j = rtS s o j := by
  unfold rt
  rcases h with rfl | ⟨i, hi, rfl⟩
  · rw [if_neg (by omega), if_pos (by omega), show 1 + o - 1 = o by omega]
  · rw [if_neg (by omega), if_neg (by omega), if_neg (by omega), if_neg (by omega), if_pos (by omega), show (69 + 66 * i + o - 69) % 66 = o by omega, show (69 + 66 * i + o - 69) / 66 = i by omega]
theorem rS0_0 (h : isS s) : RAt RL b q (ad b s) 0 = some (ad b (s + 1)) := rwa_ (rS (o := 0) h (by omega))
theorem rS0_2 (h : isS s) : RAt RL b q (ad b s) 2 = some (ad b (s + 2)) := rwa_ (rS (o := 0) h (by omega))
theorem rS0_4 (h : isS s) : RAt RL b q (ad b s) 4 = some (ad b (s + 3)) := rwa_ (rS (o := 0) h (by omega))
theorem rS0_5 (h : isS s) : RAt RL b q (ad b s) 5 = some (ad b (s + 5)) := rwa_ (rS (o := 0) h (by omega))
theorem rS3_0 (h : isS s) : RAt RL b q (ad b (s + 3)) 0 = some (ad b (s + 4)) := rwa_ (rS h (by omega))
theorem rS1 {i : Nat} (h : isS s) (hi : i < 20) : RAt RL b q (ad b (s + 1)) i = some (ad b (s + 6 + 2 * i)) := rwa_ ((rS h (by omega)).trans (by unfold rtS; rw [if_neg (by omega), if_pos rfl, if_pos hi]))
theorem rS2 {i : Nat} (h : isS s) (hi : i < 10) : RAt RL b q (ad b (s + 2)) i = some (ad b (s + 46 + 2 * i)) := rwa_ ((rS h (by omega)).trans (by unfold rtS; rw [if_neg (by omega), if_neg (by omega), if_pos rfl, if_pos hi]))
theorem rSp {i : Nat} (h : isS s) (hi : i < 20) : RAt RL b q (ad b (s + 6 + 2 * i)) 0 = some (ad b (s + 7 + 2 * i)) := by
  rw [show s + 6 + 2 * i = s + (6 + 2 * i) by omega, show s + 7 + 2 * i = s + (6 + 2 * i) + 1 by omega]
  refine rwa_ ((rS h (by omega)).trans ?_)
  unfold rtS
  rw [if_neg (by omega), if_neg (by omega), if_neg (by omega), if_neg (by omega), if_neg (by omega), if_pos (by omega), if_pos rfl]
theorem rSw {i : Nat} (h : isS s) (hi : i < 10) : RAt RL b q (ad b (s + 46 + 2 * i)) 0 = some (ad b (s + 47 + 2 * i)) := by
  rw [show s + 46 + 2 * i = s + (46 + 2 * i) by omega, show s + 47 + 2 * i = s + (46 + 2 * i) + 1 by omega]
  refine rwa_ ((rS h (by omega)).trans ?_)
  unfold rtS
  rw [if_neg (by omega), if_neg (by omega), if_neg (by omega), if_neg (by omega), if_neg (by omega), if_pos (by omega), if_pos rfl]
theorem kM {o : Nat} (h : isM p) (ho : o < 46) : KAt KL b (ad b (p + o)) = ktM o := by
  rw [kw (by unfold isM at h; omega)]
  unfold kt
  rcases h with rfl | rfl
  · rw [if_neg (by omega), if_neg (by omega), if_neg (by omega), if_neg (by omega), if_neg (by omega), if_neg (by omega), if_neg (by omega), if_neg (by omega), if_neg (by omega), if_neg (by omega), if_neg (by omega), if_neg (by omega), if_neg (by omega), if_pos (by omega), show 473 + o - 473 = o by omega]
  · rw [if_neg (by omega), if_neg (by omega), if_neg (by omega), if_neg (by omega), if_neg (by omega), if_neg (by omega), if_neg (by omega), if_neg (by omega), if_neg (by omega), if_neg (by omega), if_neg (by omega), if_neg (by omega), if_neg (by omega), if_neg (by omega), if_pos (by omega), show 519 + o - 519 = o by omega]
theorem kM0 (h : isM p) : KAt KL b (ad b p) = (106, 0) := kM (o := 0) h (by omega)
theorem kM1 (h : isM p) : KAt KL b (ad b (p + 1)) = (22, 20) := kM h (by omega)
theorem kM2 (h : isM p) : KAt KL b (ad b (p + 2)) = (20, 20) := kM h (by omega)
theorem kM3 (h : isM p) : KAt KL b (ad b (p + 3)) = (20, 20) := kM h (by omega)
theorem kM4 (h : isM p) : KAt KL b (ad b (p + 4)) = (20, 41) := kM h (by omega)
theorem kM5 (h : isM p) : KAt KL b (ad b (p + 5)) = (20, 41) := kM h (by omega)
theorem kMd {i : Nat} (h : isM p) (hi : i < 20) : KAt KL b (ad b (p + 6 + 2 * i)) = (102, 0) := by
  rw [Nat.add_assoc, kM h (by omega)]; unfold ktM
  rw [if_neg (by omega), if_neg (by omega), if_neg (by omega), if_neg (by omega), if_neg (by omega), if_neg (by omega), if_pos (by omega)]
theorem kMa {i : Nat} (h : isM p) (hi : i < 20) : KAt KL b (ad b (p + 7 + 2 * i)) = (20, 6) := by
  rw [Nat.add_assoc, kM h (by omega)]; unfold ktM
  rw [if_neg (by omega), if_neg (by omega), if_neg (by omega), if_neg (by omega), if_neg (by omega), if_neg (by omega), if_neg (by omega)]
theorem rM {o j : Nat} (h : isM p) (ho : o < 46) : rt q (p + o) j = rtM p o j := by
  unfold rt
  rcases h with rfl | rfl
  · rw [if_neg (by omega), if_neg (by omega), if_neg (by omega), if_neg (by omega), if_neg (by omega), if_neg (by omega), if_neg (by omega), if_neg (by omega), if_neg (by omega), if_pos (by omega), show 473 + o - 473 = o by omega]
  · rw [if_neg (by omega), if_neg (by omega), if_neg (by omega), if_neg (by omega), if_neg (by omega), if_neg (by omega), if_neg (by omega), if_neg (by omega), if_neg (by omega), if_neg (by omega), if_pos (by omega), show 519 + o - 519 = o by omega]
theorem rM0_0 (h : isM p) : RAt RL b q (ad b p) 0 = some (ad b (p + 1)) := rwa_ (rM (o := 0) h (by omega))
theorem rM0_2 (h : isM p) : RAt RL b q (ad b p) 2 = some (ad b (p + 2)) := rwa_ (rM (o := 0) h (by omega))
theorem rM0_3 (h : isM p) : RAt RL b q (ad b p) 3 = some (ad b (p + 3)) := rwa_ (rM (o := 0) h (by omega))
theorem rM0_4 (h : isM p) : RAt RL b q (ad b p) 4 = some (ad b 467) := rwa_ (rM (o := 0) h (by omega))
theorem rM0_5 (h : isM p) : RAt RL b q (ad b p) 5 = some (ad b 470) := rwa_ (rM (o := 0) h (by omega))
theorem rM0_6 (h : isM p) : RAt RL b q (ad b p) 6 = some (ad b (p + 4)) := rwa_ (rM (o := 0) h (by omega))
theorem rM0_7 (h : isM p) : RAt RL b q (ad b p) 7 = some (ad b (p + 5)) := rwa_ (rM (o := 0) h (by omega))
theorem rM1 {i : Nat} (h : isM p) (hi : i < 20) : RAt RL b q (ad b (p + 1)) i = some (ad b (p + 6 + 2 * i)) := rwa_ ((rM h (by omega)).trans (by unfold rtM; rw [if_neg (by omega), if_pos rfl, if_pos hi]))
theorem rMd {i : Nat} (h : isM p) (hi : i < 20) : RAt RL b q (ad b (p + 6 + 2 * i)) 0 = some (ad b (p + 7 + 2 * i)) := by
  rw [show p + 6 + 2 * i = p + (6 + 2 * i) by omega, show p + 7 + 2 * i = p + (6 + 2 * i) + 1 by omega]
  refine rwa_ ((rM h (by omega)).trans ?_)
  unfold rtM
  rw [if_neg (by omega), if_neg (by omega), if_neg (by omega), if_pos (by omega), if_pos rfl]
theorem r68 {i : Nat} (hi : i < 6) : RAt RL b q (ad b 68) i = some (ad b (q i)) := rwa_ (show (if i < 6 then some (q i) else none) = some (q i) from if_pos hi)
theorem rw_up {i s : Nat} (hi : i < 6) : up2 (RAt RL b q) (ad b 68) i (some (ad b s)) = RAt RL b (fun j => if j = i then s else q j) := by
  funext a j
  unfold up2
  by_cases h1 : a = ad b 68
  · subst h1
    by_cases h2 : j = i
    · subst h2
      rw [if_pos ⟨rfl, rfl⟩, r68 hi, if_pos rfl]
    · rw [if_neg (fun x => h2 x.2)]
      by_cases h3 : j < 6
      · rw [r68 h3, r68 h3, if_neg h2]
      · unfold RAt
        rw [if_neg (by unfold ad; omega), if_neg (by unfold ad; omega), show ad b 68 - b = 68 from Nat.add_sub_cancel_left ..]
        show (if j < 6 then some (q j) else none).map (ad b) = (if j < 6 then some _ else none).map (ad b)
        rw [if_neg h3, if_neg h3]
  · rw [if_neg (fun x => h1 x.1)]
    unfold RAt
    by_cases h2 : a < b
    · rw [if_pos h2, if_pos h2]
    · rw [if_neg h2, if_neg h2]
      have h3 : a - b ≠ 68 := fun e => h1 (by unfold ad; omega)
      unfold rt
      by_cases h4 : a - b = 0
      · rw [if_pos h4, if_pos h4]
      · rw [if_neg h4, if_neg h4]
        by_cases h5 : a - b < 67
        · rw [if_pos h5, if_pos h5]
        · rw [if_neg h5, if_neg h5, if_neg h3, if_neg h3]
end WD
/-! memory: a cell written, read; what is left as it was -/
theorem up_s {α : Type} {f : Nat → Nat → α} {a k : Nat} {v : α} : up2 f a k v a k = v := if_pos ⟨rfl, rfl⟩
theorem up_n {α : Type} {f : Nat → Nat → α} {b o k o' k' : Nat} {v : α} (h : ¬ (o' = o ∧ k' = k)) : up2 f (ad b o) k v (ad b o') k' = f (ad b o') k' := if_neg (fun x => h ⟨(ad_eq ▸ x.1 : o' = o), x.2⟩)
theorem up_lo {α : Type} {f : Nat → Nat → α} {b o k a k' : Nat} {v : α} (h : a < b) : up2 f (ad b o) k v a k' = f a k' := if_neg (fun x => by unfold ad at x; omega)
def Fr (b lo hi : Nat) (I I' : Nat → Nat → Int32) : Prop := ∀ a, ¬ (b + lo ≤ a ∧ a < b + hi) → I' a = I a
theorem Fr.rf {b lo hi : Nat} {I : Nat → Nat → Int32} : Fr b lo hi I I := fun _ _ => rfl
theorem Fr.tr {b lo hi lo1 hi1 lo2 hi2 : Nat} {I I1 I2 : Nat → Nat → Int32} (h1 : Fr b lo1 hi1 I I1) (h2 : Fr b lo2 hi2 I1 I2) (ha : lo ≤ lo1) (hb : hi1 ≤ hi) (hc : lo ≤ lo2) (hd : hi2 ≤ hi) : Fr b lo hi I I2 := fun a h => (h2 a (by omega)).trans (h1 a (by omega))
theorem Fr.up {b lo hi o k : Nat} {I I1 : Nat → Nat → Int32} {v : Int32} (h : Fr b lo hi I I1) (h1 : lo ≤ o) (h2 : o < hi) : Fr b lo hi I (up2 I1 (ad b o) k v) := fun a ha => by
  rw [← h a ha]
  funext j
  exact if_neg (fun x => ha (by rw [x.1]; unfold ad; omega))
theorem Fr.cp {b lo hi o so sp dp n : Nat} {I I1 : Nat → Nat → Int32} (h : Fr b lo hi I I1) (h1 : lo ≤ o) (h2 : o < hi) : Fr b lo hi I (cpI I1 so sp (ad b o) dp n) := fun a ha => by
  rw [← h a ha]
  funext j
  exact if_neg (fun x => ha (by rw [x.1]; unfold ad; omega))
theorem Fr.at {b lo hi o : Nat} {I I' : Nat → Nat → Int32} (h : Fr b lo hi I I') (ho : o < lo ∨ hi ≤ o) {j : Nat} : I' (ad b o) j = I (ad b o) j := congrFun (h _ (by unfold ad; omega)) j
theorem Fr.lo {b lo hi a : Nat} {I I' : Nat → Nat → Int32} (h : Fr b lo hi I I') (ha : a < b) {j : Nat} : I' a j = I a j := congrFun (h _ (by omega)) j
/-- two memories alike but for the cells P (of the world; what lies below is never changed) -/
def Ag (P : Nat → Nat → Prop) (b : Nat) (I I' : Nat → Nat → Int32) : Prop := (∀ a, a < b → I' a = I a) ∧ ∀ o j, ¬ P o j → I' (ad b o) j = I (ad b o) j
section AG
variable {P P' : Nat → Nat → Prop} {b o j : Nat} {I I1 I2 : Nat → Nat → Int32} {v : Int32}
theorem Ag.rf : Ag P b I I := ⟨fun _ _ => rfl, fun _ _ _ => rfl⟩
theorem Ag.tr (h1 : Ag P b I I1) (h2 : Ag P b I1 I2) : Ag P b I I2 := ⟨fun a h => (h2.1 a h).trans (h1.1 a h), fun o j h => (h2.2 o j h).trans (h1.2 o j h)⟩
theorem Ag.mn (h1 : Ag P b I I1) (h : ∀ o j, P o j → P' o j) : Ag P' b I I1 := ⟨h1.1, fun o j g => h1.2 o j (fun x => g (h o j x))⟩
theorem Ag.up (h1 : Ag P b I I1) (h : P o j) : Ag P b I (up2 I1 (ad b o) j v) := by
  refine ⟨fun a ha => ?_, fun o' j' g => ?_⟩
  · rw [← h1.1 a ha]
    funext k
    exact up_lo ha
  · rw [← h1.2 o' j' g]
    exact up_n (fun x => g (by rw [x.1, x.2]; exact h))
theorem Ag.cp {so sp dp n : Nat} (h1 : Ag P b I I1) (h : ∀ j, dp ≤ j → j < dp + n → P o j) : Ag P b I (cpI I1 so sp (ad b o) dp n) := by
  refine ⟨fun a ha => ?_, fun o' j' g => ?_⟩
  · rw [← h1.1 a ha]
    funext k
    exact if_neg (fun x => by have := x.1; unfold ad at this; omega)
  · rw [← h1.2 o' j' g]
    refine if_neg (fun x => g ?_)
    rw [ad_eq] at x
    rw [x.1]
    exact h j' x.2.1 x.2.2
theorem Ag.at (h1 : Ag P b I I1) (h : ¬ P o j) : I1 (ad b o) j = I (ad b o) j := h1.2 o j h
end AG
theorem cp_s {f : Nat → Nat → Int32} {so sp d dp n k : Nat} (h1 : dp ≤ k) (h2 : k < dp + n) : cpI f so sp d dp n d k = f so (sp + (k - dp)) := if_pos ⟨rfl, h1, h2⟩
theorem cp_n {f : Nat → Nat → Int32} {b o o' so sp dp n k : Nat} (h : ¬ (o' = o ∧ dp ≤ k ∧ k < dp + n)) : cpI f so sp (ad b o) dp n (ad b o') k = f (ad b o') k := if_neg (fun x => h ⟨(ad_eq ▸ x.1 : o' = o), x.2⟩)

theorem k_0 {KL : Nat → Nat × Nat} {b : Nat} : KAt KL b (ad b 0) = (110, 0) := (kw (by decide)).trans rfl
theorem k_67 {KL : Nat → Nat × Nat} {b : Nat} : KAt KL b (ad b 67) = (103, 0) := (kw (by decide)).trans rfl
theorem k_68 {KL : Nat → Nat × Nat} {b : Nat} : KAt KL b (ad b 68) = (24, 6) := (kw (by decide)).trans rfl
theorem k_465 {KL : Nat → Nat × Nat} {b : Nat} : KAt KL b (ad b 465) = (100, 0) := (kw (by decide)).trans rfl
theorem k_466 {KL : Nat → Nat × Nat} {b : Nat} : KAt KL b (ad b 466) = (20, 60) := (kw (by decide)).trans rfl
theorem k_467 {KL : Nat → Nat × Nat} {b : Nat} : KAt KL b (ad b 467) = (101, 0) := (kw (by decide)).trans rfl
theorem k_468 {KL : Nat → Nat × Nat} {b : Nat} : KAt KL b (ad b 468) = (20, 1660) := (kw (by decide)).trans rfl
theorem k_469 {KL : Nat → Nat × Nat} {b : Nat} : KAt KL b (ad b 469) = (20, 6) := (kw (by decide)).trans rfl
theorem k_470 {KL : Nat → Nat × Nat} {b : Nat} : KAt KL b (ad b 470) = (105, 0) := (kw (by decide)).trans rfl
theorem k_471 {KL : Nat → Nat × Nat} {b : Nat} : KAt KL b (ad b 471) = (20, 121) := (kw (by decide)).trans rfl
theorem k_472 {KL : Nat → Nat × Nat} {b : Nat} : KAt KL b (ad b 472) = (20, 121) := (kw (by decide)).trans rfl
theorem k_565 {KL : Nat → Nat × Nat} {b : Nat} : KAt KL b (ad b 565) = (20, 6) := (kw (by decide)).trans rfl
theorem k_566 {KL : Nat → Nat × Nat} {b : Nat} : KAt KL b (ad b 566) = (20, 15) := (kw (by decide)).trans rfl
theorem k_567 {KL : Nat → Nat × Nat} {b : Nat} : KAt KL b (ad b 567) = (20, 20) := (kw (by decide)).trans rfl
theorem k_568 {KL : Nat → Nat × Nat} {b : Nat} : KAt KL b (ad b 568) = (20, 20) := (kw (by decide)).trans rfl
theorem k_569 {KL : Nat → Nat × Nat} {b : Nat} : KAt KL b (ad b 569) = (20, 20) := (kw (by decide)).trans rfl
theorem k_570 {KL : Nat → Nat × Nat} {b : Nat} : KAt KL b (ad b 570) = (20, 20) := (kw (by decide)).trans rfl
theorem k_571 {KL : Nat → Nat × Nat} {b : Nat} : KAt KL b (ad b 571) = (20, 20) := (kw (by decide)).trans rfl
theorem k_572 {KL : Nat → Nat × Nat} {b : Nat} : KAt KL b (ad b 572) = (20, 20) := (kw (by decide)).trans rfl
theorem k_573 {KL : Nat → Nat × Nat} {b : Nat} : KAt KL b (ad b 573) = (20, 20) := (kw (by decide)).trans rfl
theorem k_574 {KL : Nat → Nat × Nat} {b : Nat} : KAt KL b (ad b 574) = (20, 10) := (kw (by decide)).trans rfl
theorem k_575 {KL : Nat → Nat × Nat} {b : Nat} : KAt KL b (ad b 575) = (20, 24) := (kw (by decide)).trans rfl
theorem k_576 {KL : Nat → Nat × Nat} {b : Nat} : KAt KL b (ad b 576) = (20, 20) := (kw (by decide)).trans rfl
theorem r_0_0 {RL : Nat → Nat → Option Nat} {b : Nat} {q : Nat → Nat} : RAt RL b q (ad b 0) 0 = some (ad b sN) := rwa_ (r := sN) rfl
theorem r_0_1 {RL : Nat → Nat → Option Nat} {b : Nat} {q : Nat → Nat} : RAt RL b q (ad b 0) 1 = some (ad b 67) := rwa_ (r := 67) rfl
theorem r_0_2 {RL : Nat → Nat → Option Nat} {b : Nat} {q : Nat → Nat} : RAt RL b q (ad b 0) 2 = some (ad b 465) := rwa_ (r := 465) rfl
theorem r_0_3 {RL : Nat → Nat → Option Nat} {b : Nat} {q : Nat → Nat} : RAt RL b q (ad b 0) 3 = some (ad b pP) := rwa_ (r := pP) rfl
theorem r_0_4 {RL : Nat → Nat → Option Nat} {b : Nat} {q : Nat → Nat} : RAt RL b q (ad b 0) 4 = some (ad b pT) := rwa_ (r := pT) rfl
theorem r_0_5 {RL : Nat → Nat → Option Nat} {b : Nat} {q : Nat → Nat} : RAt RL b q (ad b 0) 5 = some (ad b 565) := rwa_ (r := 565) rfl
theorem r_67_0 {RL : Nat → Nat → Option Nat} {b : Nat} {q : Nat → Nat} : RAt RL b q (ad b 67) 0 = some (ad b 68) := rwa_ (r := 68) rfl
theorem r_465_0 {RL : Nat → Nat → Option Nat} {b : Nat} {q : Nat → Nat} : RAt RL b q (ad b 465) 0 = some (ad b 466) := rwa_ (r := 466) rfl
theorem r_467_0 {RL : Nat → Nat → Option Nat} {b : Nat} {q : Nat → Nat} : RAt RL b q (ad b 467) 0 = some (ad b 468) := rwa_ (r := 468) rfl
theorem r_467_2 {RL : Nat → Nat → Option Nat} {b : Nat} {q : Nat → Nat} : RAt RL b q (ad b 467) 2 = some (ad b 469) := rwa_ (r := 469) rfl
theorem r_470_0 {RL : Nat → Nat → Option Nat} {b : Nat} {q : Nat → Nat} : RAt RL b q (ad b 470) 0 = some (ad b 471) := rwa_ (r := 471) rfl
theorem r_470_1 {RL : Nat → Nat → Option Nat} {b : Nat} {q : Nat → Nat} : RAt RL b q (ad b 470) 1 = some (ad b 472) := rwa_ (r := 472) rfl
