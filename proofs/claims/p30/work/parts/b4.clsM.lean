/-! THE CLASS: the narrowest lines -/
section WW
variable {A : Row} {w : Nat}
theorem hasW_w : hasW (upr A 0 w) = hasW A := by unfold hasW; rw [toks_set (by omega)]
theorem reas_w {p d : Nat} : reas (upr A 0 w) p d = reas A p d := by
  unfold reas
  rw [hasW_w]
  simp (disch := omega) only [upr_n]
theorem grp_w : ∀ n, grp (upr A 0 w) n = grp A n
  | 0 => rfl
  | n + 1 => by
    have h8 : upr A 0 w 8 = A 8 := upr_n (by omega)
    have hf : ∀ p, fitG (upr A 0 w) p = fitG A p := fun p => by
      funext g
      unfold fitG
      simp (disch := omega) only [upr_n]
    unfold grp
    rw [grp_w n, h8, reas_w]
    unfold insG gix
    rw [hf]
theorem grps_w : grps (upr A 0 w) = grps A := by
  unfold grps
  rw [upr_n (show 6 ≠ 0 by omega), grp_w]
theorem nameL_w : nameL (upr A 0 w) = nameL A := by
  funext p
  unfold nameL
  simp (disch := omega) only [upr_n]
theorem wordT_w : wordT (upr A 0 w) = wordT A := by
  funext x
  unfold wordT wordL artN
  simp (disch := omega) only [upr_n]
theorem nws_w : ∀ (g acc : List Nat), nws (upr A 0 w) acc g = nws A acc g
  | [], _ => rfl
  | p :: r, acc => by
    unfold nws
    rw [upr_n (show 53 + p ≠ 0 by omega), nws_w r, nws_w r]
theorem fieldT_w {g : List Nat} {c : Nat} : fieldT (upr A 0 w) g c = fieldT A g c := by
  unfold fieldT namesT wordsT formT
  rw [nameL_w, wordT_w, nws_w]
  simp (disch := omega) only [upr_n]
theorem textF_w {g : List Nat} : ∀ (T : List Nat) (j : Bool), textF (upr A 0 w) g j T = textF A g j T
  | [], _ => rfl
  | t :: r, j => by
    unfold textF
    rw [textF_w r, textF_w r, textF_w r, fieldT_w]
theorem textT_w {g : List Nat} : textT (upr A 0 w) g = textT A g := by
  unfold textT
  rw [toks_set (by omega), textF_w]
/-- the pages of a letter at the width w -/
def pgW (A : Row) (w k : Nat) : Nat := (layT w (A 1) (textT A ((grps A).2 k))).2
def lbF (A : Row) (w k : Nat) : Nat := if pgW A w k ≤ A 4 then 1 else 0
def pbF (A : Row) (w k : Nat) : Nat := if pgW A w k ≤ A 4 then pgW A w k else 0
theorem pgT_w {k : Nat} : pagesT (upr A 0 w) ((grps A).2 k) = pgW A w k := by
  unfold pagesT pgW
  rw [textT_w, upr_s, upr_n (show 1 ≠ 0 by omega)]
theorem tot_w0 : totS (upr A 0 w) 0 = sumF (lbF A w) 0 (grps A).1 := by
  unfold totS
  rw [grps_w]
  congr 1
  funext k
  unfold sentB lbF
  rw [pgT_w, upr_n (show 4 ≠ 0 by omega)]
  by_cases e : pgW A w k ≤ A 4
  · rw [decide_eq_true e, if_pos e]; rfl
  · rw [decide_eq_false e, if_neg e]; rfl
theorem tot_w2 : totS (upr A 0 w) 2 = sumF (pbF A w) 0 (grps A).1 := by
  unfold totS
  rw [grps_w]
  congr 1
  funext k
  unfold sentB pbF
  rw [pgT_w, upr_n (show 4 ≠ 0 by omega)]
  by_cases e : pgW A w k ≤ A 4
  · rw [decide_eq_true e, if_pos e]; rfl
  · rw [decide_eq_false e, if_neg e]; rfl
end WW
def pBy (p o _j : Nat) : Prop := (467 ≤ o ∧ o ≤ 472) ∨ (p + 4 ≤ o ∧ o ≤ p + 5)
section CM
variable {z : P0} {KL : Nat → Nat × Nat} {RL : Nat → Nat → Option Nat} {q : Nat → Nat} {b : Nat} {I : Nat → Nat → Int32} {L : Nat → Nat → Int64} {sz : Nat} {ex : Bool} {Q : Res → Mem → Prop} {A : Row}
variable {s p : Nat}
/-- letters and pages by widths, k drafts measured -/
def BW (b : Nat) (I : Nat → Nat → Int32) (p : Nat) (A : Row) (k : Nat) : Prop := ∀ w, 5 ≤ w → w ≤ 40 → I (ad b (p + 4)) w = nI (sumF (lbF A w) 0 k) ∧ I (ad b (p + 5)) w = nI (sumF (pbF A w) 0 k)
theorem BW.ag {k : Nat} {F : Nat → Nat → Prop} {I' : Nat → Nat → Int32} (h : BW b I p A k) (hg : Ag F b I I') (h1 : ∀ j, ¬ F (p + 4) j) (h2 : ∀ j, ¬ F (p + 5) j) : BW b I' p A k := fun w a c => ⟨(hg.at (h1 w)).trans (h w a c).1, (hg.at (h2 w)).trans (h w a c).2⟩
end CM
