/-! THE REFERENCE: what a text begins with -/
def letB (c : Nat) : Bool := decide (97 ≤ c ∧ c ≤ 122)
/-- how many characters of r are right as a name or a word (kind 1) of which k letters stood before -/
def wE (kind : Nat) : Nat → List Nat → Nat
  | _, [] => 0
  | k, c :: r => if kind = 1 ∧ c = 42 then (if 0 < k then 1 else 0) else if letB c = true ∧ k < 8 then 1 + wE kind (k + 1) r else 0
/-- the letters that r begins with, m at most -/
def ldr : Nat → List Nat → Nat
  | 0, _ => 0
  | _ + 1, [] => 0
  | m + 1, c :: r => if letB c = true then 1 + ldr m r else 0
theorem ldr_nil {m : Nat} : ldr m [] = 0 := by cases m <;> rfl
def fldB (c : Nat) : Bool := c == 110 || c == 103 || c == 119 || c == 99
def plnB (c : Nat) : Bool := letB c || c == 95 || c == 44 || c == 46 || c == 47 || c == 124
/-- how a letter is read on: 0 outside, 1 a joint part begun, 2 in one, 3 and 4 (5 and 6) in a field, 7 wrong -/
def nxt (w c : Nat) : Nat := if w = 3 then (if fldB c = true then 4 else 7) else if w = 5 then (if fldB c = true then 6 else 7) else if w = 4 then (if c = 62 then 0 else 7) else if w = 6 then (if c = 62 then 2 else 7)
  else if w = 0 then (if c = 123 then 1 else if c = 60 then 3 else if plnB c = true then 0 else 7) else if w = 1 then (if c = 60 then 5 else if plnB c = true then 2 else 7)
  else if w = 2 then (if c = 125 then 0 else if c = 60 then 5 else if plnB c = true then 2 else 7) else 7
def leF : Nat → List Nat → Nat
  | _, [] => 0
  | w, c :: r => if nxt w c = 7 then 0 else 1 + leF (nxt w c) r
def leW : Nat → List Nat → Nat
  | w, [] => w
  | w, c :: r => leW (nxt w c) r
def rgt (kind : Nat) (B : List Nat) : Nat := if kind = 2 then leF 0 B else wE kind 0 B
def cpl (kind : Nat) (B : List Nat) : Bool := if kind = 2 then decide (B ≠ []) && decide (leW 0 B = 0) else decide (B ≠ []) && decide (wE kind 0 B = B.length)
theorem nxt_7 {c : Nat} : nxt 7 c = 7 := rfl
theorem leW_7 : ∀ r, leW 7 r = 7
  | [] => rfl
  | _ :: r => leW_7 r
theorem nxt_le {w c : Nat} : nxt w c ≤ 7 := by
  unfold nxt
  repeat' split
  all_goals omega
theorem leF_le : ∀ (r : List Nat) (w : Nat), leF w r ≤ r.length
  | [], _ => Nat.le_refl _
  | c :: r, w => by
    have := leF_le r (nxt w c)
    unfold leF
    rw [List.length_cons]
    split <;> omega
theorem wE_le {kind : Nat} : ∀ (r : List Nat) (k : Nat), wE kind k r ≤ r.length
  | [], _ => Nat.le_refl _
  | c :: r, k => by
    have := wE_le (kind := kind) r (k + 1)
    unfold wE
    rw [List.length_cons]
    split
    · split <;> omega
    · split <;> omega
theorem wE_ldr {kind : Nat} : ∀ (r : List Nat) (k : Nat), k ≤ 8 → wE kind k r = if kind = 1 ∧ 0 < k + ldr (8 - k) r ∧ ldr (8 - k) r < r.length ∧ r.getD (ldr (8 - k) r) 0 = 42 then ldr (8 - k) r + 1 else ldr (8 - k) r
  | [], k, hk => by rw [ldr_nil, if_neg (fun x => absurd x.2.2.1 (Nat.not_lt_zero _))]; rfl
  | c :: r, k, hk => by
    unfold wE
    by_cases h8 : k = 8
    · subst h8
      have e0 : ldr (8 - 8) (c :: r) = 0 := rfl
      rw [e0]
      by_cases e : kind = 1 ∧ c = 42
      · rw [if_pos e, if_pos (show 0 < 8 by omega), if_pos (show kind = 1 ∧ 0 < 8 + 0 ∧ 0 < (c :: r).length ∧ (c :: r).getD 0 0 = 42 from ⟨e.1, by omega, by simp, e.2⟩)]
      · rw [if_neg e, if_neg (show ¬ (letB c = true ∧ 8 < 8) from fun x => by omega), if_neg (show ¬ (kind = 1 ∧ 0 < 8 + 0 ∧ 0 < (c :: r).length ∧ (c :: r).getD 0 0 = 42) from fun x => e ⟨x.1, x.2.2.2⟩)]
    · obtain ⟨m, hm⟩ : ∃ m, 8 - k = m + 1 := ⟨7 - k, by omega⟩
      have hm2 : 8 - (k + 1) = m := by omega
      rw [hm]
      unfold ldr
      by_cases hl : letB c = true
      · have hc : ¬ c = 42 := by unfold letB at hl; rw [decide_eq_true_eq] at hl; omega
        rw [if_neg (fun x => hc x.2), if_pos ⟨hl, by omega⟩, if_pos hl, wE_ldr r (k + 1) (by omega), hm2]
        have e : (kind = 1 ∧ 0 < k + 1 + ldr m r ∧ ldr m r < r.length ∧ r.getD (ldr m r) 0 = 42) = (kind = 1 ∧ 0 < k + (1 + ldr m r) ∧ 1 + ldr m r < (c :: r).length ∧ (c :: r).getD (1 + ldr m r) 0 = 42) := by
          rw [List.length_cons, Nat.add_comm 1 (ldr m r), List.getD_cons_succ]
          exact propext ⟨fun x => ⟨x.1, by omega, by omega, x.2.2.2⟩, fun x => ⟨x.1, by omega, by omega, x.2.2.2⟩⟩
        simp only [e]
        split <;> omega
      · rw [if_neg hl]
        by_cases e : kind = 1 ∧ c = 42
        · rw [if_pos e]
          by_cases h0 : 0 < k
          · rw [if_pos h0, if_pos ⟨e.1, by omega, by simp, e.2⟩]
          · rw [if_neg h0, if_neg (fun x => by omega)]
        · rw [if_neg e, if_neg (fun x => hl x.1), if_neg (fun x => e ⟨x.1, x.2.2.2⟩)]
def pSx (o j : Nat) : Prop := o = 566 ∧ 18 ≤ j ∧ j ≤ 21
section OX
variable {z : P0} {KL : Nat → Nat × Nat} {RL : Nat → Nat → Option Nat} {q : Nat → Nat} {b : Nat} {I : Nat → Nat → Int32} {L : Nat → Nat → Int64} {sz : Nat} {ex : Bool} {Q : Res → Mem → Prop} {A : Row}
variable {n : Nat} {H : Nat → Row} {B : List Nat}
theorem pSx_r : ∀ o j, pSx o j → pRef o j := fun o j h => by unfold pSx at h; unfold pRef; omega
theorem RS.sx {w : Wd} {I' : Nat → Nat → Int32} (h : RS b I w) (hg : Ag pSx b I I') : RS b I' w := h.ag hg (fun o j x => by unfold pSx at x; omega)
theorem getD_tail {B r : List Nat} {c i : Nat} (h : ∀ j, j < (c :: r).length → B.getD (i + j) 0 = (c :: r).getD j 0) : B.getD i 0 = c ∧ ∀ j, j < r.length → B.getD (i + 1 + j) 0 = r.getD j 0 := by
  refine ⟨?_, fun j hj => ?_⟩
  · have := h 0 (by simp)
    rwa [Nat.add_zero] at this
  · have := h (j + 1) (by rw [List.length_cons]; omega)
    rw [show i + 1 + j = i + (j + 1) by omega, this]; rfl
end OX
