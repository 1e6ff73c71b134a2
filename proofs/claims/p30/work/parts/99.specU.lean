/-! THE REFERENCE: adding a person, a word; taking a letter -/
def updL (A : Row) (off : Nat) (L : List Nat) : Row := fun k => if off ≤ k ∧ k < off + L.length then L.getD (k - off) 0 else A k
theorem updL_nil {A : Row} {off : Nat} : updL A off [] = A := by
  funext k
  unfold updL
  rw [if_neg (fun x => by rw [List.length_nil] at x; omega)]
theorem updL_snoc {A : Row} {off c : Nat} {L : List Nat} : upr (updL A off L) (off + L.length) c = updL A off (L ++ [c]) := by
  funext k
  unfold upr updL
  by_cases h : k = off + L.length
  · rw [if_pos h, if_pos (by rw [List.length_append, List.length_singleton]; omega), getD_snoc, if_neg (by omega), if_pos (by omega)]
  · rw [if_neg h, List.length_append, List.length_singleton]
    by_cases h2 : off ≤ k ∧ k < off + L.length
    · rw [if_pos h2, if_pos (by omega), getD_snoc, if_pos (by omega)]
    · rw [if_neg h2, if_neg (by omega)]
theorem updL_n {A : Row} {off k : Nat} {L : List Nat} (h : ¬ (off ≤ k ∧ k < off + L.length)) : updL A off L k = A k := if_neg h
theorem upr_updL {A : Row} {off k v : Nat} {L : List Nat} (h : ¬ (off ≤ k ∧ k < off + L.length)) : upr (updL A off L) k v = updL (upr A k v) off L := by
  funext j
  unfold upr updL
  dsimp only
  by_cases h1 : j = k
  · subst h1; rw [if_pos rfl, if_neg h, if_pos rfl]
  · rw [if_neg h1, if_neg h1]
theorem upr_upr {A : Row} {k v v' : Nat} : upr (upr A k v) k v' = upr A k v' := by
  funext j
  unfold upr
  by_cases h1 : j = k
  · rw [if_pos h1, if_pos h1]
  · rw [if_neg h1, if_neg h1, if_neg h1]
def perR (A : Row) (p a f len : Nat) : Row := upr (upr (upr (upr (upr (upr (upr (upr A 6 (p + 1)) (13 + p) a) (33 + p) f) (53 + p) 4294967295) (73 + p) 0) (93 + p) 4294967295) (113 + p) 0) (133 + p) len
def addPR (A : Row) (a f : Nat) (B : List Nat) : Row := updL (perR A (A 6) a f B.length) (153 + 8 * A 6) B
def opAddP (w : Wd) (a f : Nat) : Ans := if (a ≤ 19 ∧ f ≤ 2) ∧ cpl 0 w.2.2.2 = true then (if w.1 6 < 20 then (0, w.1 6, (addPR w.1 a f w.2.2.2, svN w.2.1, svH w.1 w.2.1 w.2.2.1, [])) else (2, 0, w)) else (1, 0, w)
def worR (A : Row) (w pl len : Nat) : Row := upr (upr (upr A 7 (w + 1)) (323 + w) pl) (313 + w) len
def addWR (A : Row) (B : List Nat) : Row := updL (worR A (A 7) (if ldr 8 B < B.length then 1 else 0) (ldr 8 B)) (333 + 8 * A 7) (B.take (ldr 8 B))
def opAddW (w : Wd) : Ans := if cpl 1 w.2.2.2 = true then (if w.1 7 < 10 then (0, w.1 7, (addWR w.1 w.2.2.2, svN w.2.1, svH w.1 w.2.1 w.2.2.1, [])) else (2, 0, w)) else (1, 0, w)
/-- the items of a letter that is read from the place w on -/
def tkw : Nat → List Nat → List Nat
  | _, [] => []
  | w, c :: r => if w = 3 ∨ w = 5 then (256 + c) :: tkw (nxt w c) r else if w = 4 ∨ w = 6 ∨ c = 60 then tkw (nxt w c) r else c :: tkw (nxt w c) r
def takeR (A : Row) (T : List Nat) : Row := updL (upr A 12 T.length) 413 T
def flds (A : Row) : Nat := cntF (fun k => decide (256 ≤ A (413 + k))) 0 (A 12)
def opTake (w : Wd) : Ans := if cpl 2 w.2.2.2 = true then (0, flds (takeR w.1 (tkw 0 w.2.2.2)), (takeR w.1 (tkw 0 w.2.2.2), svN w.2.1, svH w.1 w.2.1 w.2.2.1, [])) else (1, 0, w)
theorem leF_full : ∀ (r : List Nat) (w : Nat), leW w r ≠ 7 → leF w r = r.length
  | [], _, _ => rfl
  | c :: r, w, h => by
    unfold leW at h
    unfold leF
    have h7 : nxt w c ≠ 7 := fun e => h (by rw [e]; exact leW_7 r)
    rw [if_neg h7, leF_full r _ h, List.length_cons]
    omega
theorem cpl_eq {kind : Nat} {B : List Nat} : cpl kind B = (decide (rgt kind B = B.length) && whl kind B) := by
  unfold cpl rgt whl
  by_cases e : kind = 2
  · rw [if_pos e, if_pos e, if_pos e]
    by_cases h : leW 0 B = 0
    · rw [decide_eq_true (leF_full B 0 (by omega)), Bool.true_and]
    · rw [decide_eq_false h, Bool.and_false, Bool.and_false]
  · rw [if_neg e, if_neg e, if_neg e, Bool.and_comm]
section OU
variable {z : P0} {KL : Nat → Nat × Nat} {RL : Nat → Nat → Option Nat} {q : Nat → Nat} {b : Nat} {I : Nat → Nat → Int32} {L : Nat → Nat → Int64} {sz : Nat} {ex : Bool} {Q : Res → Mem → Prop} {A : Row}
variable {n : Nat} {H : Nat → Row} {B : List Nat}
theorem RS.buf (hs : RS b I (A, n, H, B)) {k : Nat} (hk : k < B.length) : I (ad b 569) k = nI (B.getD k 0) := hs.2.2.2.2.2.1 k hk
theorem RS.len (hs : RS b I (A, n, H, B)) : I (ad b 566) 3 = nI B.length ∧ B.length ≤ 60 := ⟨hs.2.2.2.1, hs.2.2.2.2.1⟩
theorem RS.chr (hs : RS b I (A, n, H, B)) {k : Nat} (hk : k < B.length) : 33 ≤ B.getD k 0 ∧ B.getD k 0 ≤ 126 := hs.2.2.2.2.2.2 _ (by show B.getD k 0 ∈ B; rw [List.getD_eq_getElem?_getD, List.getElem?_eq_getElem hk]; exact List.getElem_mem _)
theorem getD_mid {D R : List Nat} {c : Nat} : (D ++ c :: R).getD D.length 0 = c := by rw [List.getD_eq_getElem?_getD, List.getElem?_append_right (Nat.le_refl _), Nat.sub_self]; rfl
end OU
