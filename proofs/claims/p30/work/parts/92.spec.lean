/-! WHAT THE CLASS AND THE REFERENCE BOTH SAY, in numbers: a row A of 473 naturals (the reference's own places; 4294967295 stands for NONE) -/
abbrev Row : Type := Nat → Nat
def upr (A : Row) (k v : Nat) : Row := fun j => if j = k then v else A j
theorem upr_s {A : Row} {k v : Nat} : upr A k v k = v := if_pos rfl
theorem upr_n {A : Row} {k v j : Nat} (h : j ≠ k) : upr A k v j = A j := if_neg h
/-- how many k, i ≤ k < i + d, have f -/
def cntF (f : Nat → Bool) : Nat → Nat → Nat
  | _, 0 => 0
  | i, d + 1 => (bif f i then 1 else 0) + cntF f (i + 1) d
def sumF (f : Nat → Nat) : Nat → Nat → Nat
  | _, 0 => 0
  | i, d + 1 => f i + sumF f (i + 1) d
/-- f i, f (i + 1) .., d of them -/
def segF (f : Nat → Nat) : Nat → Nat → List Nat
  | _, 0 => []
  | i, d + 1 => f i :: segF f (i + 1) d
def toks (A : Row) : List Nat := segF (fun k => A (413 + k)) 0 (A 12)
def exT (t : Nat) : List Nat := if t < 256 then [t] else [60, t - 256, 62]
def raw (A : Row) : List Nat := (toks A).flatMap exT
def hasW (A : Row) : Bool := (toks A).any fun t => t == 375
def reas (A : Row) (p d : Nat) : Nat := if A (73 + p) = 1 then 1 else if A (93 + p) ≠ 4294967295 ∧ d - A (93 + p) < A 3 then 2 else if A (53 + p) = 4294967295 ∧ hasW A = true then 3 else 0
/-- the letters: how many, and the persons of each -/
abbrev Grp : Type := Nat × (Nat → List Nat)
def findI (P : Nat → Bool) : Nat → Nat → Nat
  | i, 0 => i
  | i, d + 1 => bif P i then i else findI P (i + 1) d
def fitG (A : Row) (p : Nat) (g : List Nat) : Bool := A (13 + g.headD 0) == A (13 + p) && decide (g.length < A 2)
def gix (A : Row) (G : Grp) (p : Nat) : Nat := findI (fun k => fitG A p (G.2 k)) 0 G.1
def insG (A : Row) (G : Grp) (p : Nat) : Grp := (if gix A G p < G.1 then G.1 else G.1 + 1, fun k => if k = gix A G p then G.2 k ++ [p] else G.2 k)
def grp (A : Row) : Nat → Grp
  | 0 => (0, fun _ => [])
  | n + 1 => if reas A n (A 8) = 0 then insG A (grp A n) n else grp A n
def grps (A : Row) : Grp := grp A (A 6)
def lof (A : Row) (p : Nat) : Nat := if reas A p (A 8) = 0 then gix A (grp A p) p else 4294967295
-- texts
def nameL (A : Row) (p : Nat) : List Nat := segF (fun k => A (153 + 8 * p + k)) 0 (A (133 + p))
def wordL (A : Row) (w : Nat) : List Nat := segF (fun k => A (333 + 8 * w + k)) 0 (A (313 + w))
def sepL (i n : Nat) : List Nat := if i = 0 then [] else if i + 1 = n then [38] else [44]
def seqL (n : Nat) : Nat → List (List Nat) → List Nat
  | _, [] => []
  | i, x :: r => sepL i n ++ (x ++ seqL n (i + 1) r)
def namesT (A : Row) (g : List Nat) : List Nat := seqL g.length 0 (g.map (nameL A))
def fsign (f : Nat) : Nat := if f = 0 then 102 else if f = 1 then 109 else 120
def formT (A : Row) (g : List Nat) : List Nat := if g.all (fun p => A (33 + p) == A (33 + g.headD 0)) = true then fsign (A (33 + g.headD 0)) :: (if 1 < g.length then [115] else []) else [97, 108, 108]
def vowel (c : Nat) : Bool := c == 97 || c == 101 || c == 105 || c == 111 || c == 117
def artN (A : Row) (w : Nat) : Nat := if A (323 + w) = 1 then 4 else if vowel (A (333 + 8 * w)) = true then 2 else 1
def artT (n : Nat) : List Nat := if n = 4 then [115, 111, 109, 101] else if n = 2 then [97, 110] else [97]
/-- the words that come new behind those of acc, in the order of their first persons -/
def nws (A : Row) : List Nat → List Nat → List Nat
  | _, [] => []
  | acc, p :: r => if A (53 + p) ∈ acc then nws A acc r else A (53 + p) :: nws A (acc ++ [A (53 + p)]) r
def wordT (A : Row) (w : Nat) : List Nat := artT (artN A w) ++ 95 :: wordL A w
def wordsT (A : Row) (g : List Nat) : List Nat := seqL (nws A [] g).length 0 ((nws A [] g).map (wordT A))
def fieldT (A : Row) (g : List Nat) (c : Nat) : List Nat := if c = 110 then namesT A g else if c = 103 then formT A g else if c = 119 then wordsT A g else [48 + g.length]
def textF (A : Row) (g : List Nat) : Bool → List Nat → List Nat
  | _, [] => []
  | j, t :: r => if t = 123 then textF A g true r else if t = 125 then textF A g false r else (if j = false ∨ 1 < g.length then (if t < 256 then [t] else fieldT A g (t - 256)) else []) ++ textF A g j r
def textT (A : Row) (g : List Nat) : List Nat := textF A g false (toks A)
-- lines: l lines are begun, u is used on the last one (none: no line is begun); pages
def plN (W p : Nat) : Nat := if p ≤ W then 1 else p / W + (if 0 < p % W then 1 else 0)
def plU (W p : Nat) : Nat := if p ≤ W then p else if 0 < p % W then p % W else W
def plc (W : Nat) (l : Nat) (u : Option Nat) (p : Nat) : Nat × Nat := match u with
  | some v => if v + 1 + p ≤ W then (l, v + 1 + p) else (l + plN W p, plU W p)
  | none => (l + plN W p, plU W p)
def pgs (H n : Nat) : Nat := (n + H - 1) / H
def layF (W H : Nat) : List Nat → Nat → Nat → Option Nat → Nat → Nat → Nat × Nat
  | [], p, l, u, pt, pg => ((plc W l u p).1, pg + pgs H ((plc W l u p).1 - pt))
  | c :: r, p, l, u, pt, pg => if c = 95 then layF W H r 0 (plc W l u p).1 (some (plc W l u p).2) pt pg else if c = 47 then layF W H r 0 (plc W l u p).1 none pt pg
    else if c = 124 then layF W H r 0 (plc W l u p).1 none (plc W l u p).1 (pg + pgs H ((plc W l u p).1 - pt)) else layF W H r (p + 1) l u pt pg
def layT (W H : Nat) (t : List Nat) : Nat × Nat := layF W H t 0 0 none 0 0
def linesT (A : Row) (g : List Nat) : Nat := (layT (A 0) (A 1) (textT A g)).1
def pagesT (A : Row) (g : List Nat) : Nat := (layT (A 0) (A 1) (textT A g)).2
def sentB (A : Row) (g : List Nat) : Bool := decide (pagesT A g ≤ A 4)
def totS (A : Row) (w : Nat) : Nat := sumF (fun k => bif sentB A ((grps A).2 k) then (if w = 0 then 1 else if w = 1 then ((grps A).2 k).length else if w = 2 then pagesT A ((grps A).2 k) else pagesT A ((grps A).2 k) * A 5) else 0) 0 (grps A).1
def rsn (A : Row) (p : Nat) : Nat := if reas A p (A 8) = 0 then (if sentB A ((grps A).2 (lof A p)) = true then 0 else 4) else reas A p (A 8)
def maskL (g : List Nat) : Nat := g.foldl (fun m p => m ||| 2 ^ p) 0
def isLet (c : Nat) : Prop := 97 ≤ c ∧ c ≤ 122
def okTok (t : Nat) : Prop := (t < 256 ∧ t ≠ 60) ∨ t = 355 ∨ t = 359 ∨ t = 366 ∨ t = 375
/-- a row that a run can come to -/
def Good (A : Row) : Prop := (A 6 ≤ 20 ∧ A 7 ≤ 10 ∧ A 12 ≤ 60 ∧ A 8 ≤ 10000) ∧ (5 ≤ A 0 ∧ A 0 ≤ 40 ∧ 1 ≤ A 1 ∧ A 1 ≤ 20 ∧ 1 ≤ A 2 ∧ A 2 ≤ 6 ∧ A 3 ≤ 30 ∧ 1 ≤ A 4 ∧ A 4 ≤ 9 ∧ 1 ≤ A 5 ∧ A 5 ≤ 20) ∧
  (∀ i, i < A 6 → A (13 + i) < 20 ∧ A (33 + i) < 3 ∧ (A (53 + i) = 4294967295 ∨ A (53 + i) < A 7) ∧ A (73 + i) ≤ 1 ∧ (A (93 + i) = 4294967295 ∨ A (93 + i) ≤ A 8) ∧ 1 ≤ A (133 + i) ∧ A (133 + i) ≤ 8 ∧ ∀ k, k < A (133 + i) → isLet (A (153 + 8 * i + k))) ∧
  (∀ w, w < A 7 → 1 ≤ A (313 + w) ∧ A (313 + w) ≤ 8 ∧ A (323 + w) ≤ 1 ∧ ∀ k, k < A (313 + w) → isLet (A (333 + 8 * w + k))) ∧
  (∀ k, k < A 12 → okTok (A (413 + k))) ∧ (raw A).length ≤ 60
theorem cntF_le {f : Nat → Bool} : ∀ d i, cntF f i d ≤ d
  | 0, _ => Nat.le_refl _
  | d + 1, i => by
    have := cntF_le (f := f) d (i + 1)
    unfold cntF
    cases f i <;> simp only [cond_true, cond_false] <;> omega
theorem Good.tok {A : Row} (h : Good A) {k : Nat} (hk : k < A 12) : okTok (A (413 + k)) := h.2.2.2.2.1 k hk
theorem okTok.lt {t : Nat} (h : okTok t) : t < 376 := by unfold okTok at h; omega
theorem segF_len {f : Nat → Nat} : ∀ d i, (segF f i d).length = d
  | 0, _ => rfl
  | d + 1, i => by unfold segF; rw [List.length_cons, segF_len d]
theorem segF_get {f : Nat → Nat} : ∀ d i k, k < d → (segF f i d).getD k 0 = f (i + k)
  | 0, _, _, h => absurd h (Nat.not_lt_zero _)
  | d + 1, i, k, h => by
    unfold segF
    rcases k with _ | k
    · rfl
    · rw [List.getD_cons_succ, segF_get d (i + 1) k (by omega), show i + 1 + k = i + (k + 1) by omega]
theorem segF_mem {f : Nat → Nat} {x : Nat} : ∀ d i, x ∈ segF f i d ↔ ∃ k, k < d ∧ x = f (i + k)
  | 0, i => by unfold segF; simp
  | d + 1, i => by
    unfold segF
    rw [List.mem_cons, segF_mem d (i + 1)]
    constructor
    · rintro (rfl | ⟨k, h1, rfl⟩)
      · exact ⟨0, by omega, rfl⟩
      · exact ⟨k + 1, by omega, by rw [show i + 1 + k = i + (k + 1) by omega]⟩
    · rintro ⟨k, h1, rfl⟩
      rcases k with _ | k
      · exact Or.inl rfl
      · exact Or.inr ⟨k, by omega, by rw [show i + 1 + k = i + (k + 1) by omega]⟩
theorem hasW_cnt {A : Row} : (0 < cntF (fun k => A (413 + k) == 375) 0 (A 12)) = (hasW A = true) := by
  have key : ∀ (n i : Nat), (0 < cntF (fun k => A (413 + k) == 375) i n) ↔ (segF (fun k => A (413 + k)) i n).any (fun t => t == 375) = true := by
    intro n
    induction n with
    | zero => intro i; unfold cntF segF; simp
    | succ n ih =>
      intro i
      unfold cntF segF
      rw [List.any_cons, Bool.or_eq_true, ← ih]
      cases A (413 + i) == 375
      · simp
      · simp only [cond_true, true_or, iff_true]; omega
  exact propext (key _ _)
theorem findI_le {P : Nat → Bool} : ∀ d i, i ≤ findI P i d ∧ findI P i d ≤ i + d
  | 0, i => by unfold findI; omega
  | d + 1, i => by
    have := findI_le (P := P) d (i + 1)
    unfold findI
    cases P i <;> simp only [cond_true, cond_false] <;> omega
theorem findI_ok {P : Nat → Bool} : ∀ d i, findI P i d < i + d → P (findI P i d) = true
  | 0, i, h => by unfold findI at h; omega
  | d + 1, i, h => by
    unfold findI at h ⊢
    cases hp : P i with
    | true => rw [hp] at h; simp only [cond_true]; exact hp
    | false => rw [hp] at h; simp only [cond_false] at h ⊢; exact findI_ok d (i + 1) (by omega)
theorem gix_le {A : Row} {G : Grp} {p : Nat} : gix A G p ≤ G.1 := by
  have := (findI_le (P := fun k => fitG A p (G.2 k)) G.1 0).2
  unfold gix
  omega
theorem gix_ok {A : Row} {G : Grp} {p : Nat} (h : gix A G p < G.1) : fitG A p (G.2 (gix A G p)) = true := findI_ok (P := fun k => fitG A p (G.2 k)) G.1 0 (by unfold gix at h; omega)
/-- what holds of the letters of the first n persons -/
def OKG (A : Row) (n : Nat) (G : Grp) : Prop := G.1 ≤ n ∧ (∀ k, G.1 ≤ k → G.2 k = []) ∧ ∀ k, k < G.1 → G.2 k ≠ [] ∧ (G.2 k).Pairwise (· < ·) ∧ (G.2 k).length ≤ A 2 ∧ ∀ p, p ∈ G.2 k → p < n ∧ reas A p (A 8) = 0 ∧ A (13 + p) = A (13 + (G.2 k).headD 0)
theorem OKG.ins {A : Row} {n : Nat} {G : Grp} (h : OKG A n G) (h2 : 1 ≤ A 2) (hr : reas A n (A 8) = 0) : OKG A (n + 1) (insG A G n) := by
  obtain ⟨a1, a2, a3⟩ := h
  have g1 := gix_le (A := A) (G := G) (p := n)
  unfold insG
  refine ⟨?_, fun k hk => ?_, fun k hk => ?_⟩
  · dsimp only; split <;> omega
  · dsimp only at hk ⊢
    have : G.1 ≤ k ∧ k ≠ gix A G n := by split at hk <;> omega
    rw [if_neg this.2]
    exact a2 k this.1
  · dsimp only at hk ⊢
    by_cases e : k = gix A G n
    · rw [if_pos e]
      by_cases e2 : gix A G n < G.1
      · have ok := gix_ok e2
        rw [← e] at ok e2
        obtain ⟨b1, b2, b3, b4⟩ := a3 k e2
        unfold fitG at ok
        rw [Bool.and_eq_true, beq_iff_eq, decide_eq_true_eq] at ok
        have hh : (G.2 k ++ [n]).headD 0 = (G.2 k).headD 0 := by
          cases hg : G.2 k with
          | nil => exact absurd hg b1
          | cons x t => rfl
        rw [hh]
        refine ⟨by simp, List.pairwise_append.mpr ⟨b2, List.pairwise_singleton _ _, fun x hx y hy => ?_⟩, ?_, fun p hp => ?_⟩
        · rw [List.mem_singleton] at hy
          rw [hy]
          exact (b4 x hx).1
        · rw [List.length_append, List.length_singleton]; omega
        · rcases List.mem_append.mp hp with hp | hp
          · exact ⟨by have := (b4 p hp).1; omega, (b4 p hp).2⟩
          · rw [List.mem_singleton] at hp
            rw [hp]
            exact ⟨by omega, hr, ok.1.symm⟩
      · have e3 : G.2 k = [] := a2 k (by omega)
        rw [e3]
        refine ⟨by simp, by simp, by simpa using h2, fun p hp => ?_⟩
        have : p = n := by simpa using hp
        rw [this]
        exact ⟨by omega, hr, rfl⟩
    · rw [if_neg e]
      have : k < G.1 := by split at hk <;> omega
      obtain ⟨b1, b2, b3, b4⟩ := a3 k this
      exact ⟨b1, b2, b3, fun p hp => ⟨by have := (b4 p hp).1; omega, (b4 p hp).2⟩⟩
theorem OKG.mono {A : Row} {n : Nat} {G : Grp} (h : OKG A n G) : OKG A (n + 1) G := ⟨by have := h.1; omega, h.2.1, fun k hk => ⟨(h.2.2 k hk).1, (h.2.2 k hk).2.1, (h.2.2 k hk).2.2.1, fun p hp => ⟨by have := ((h.2.2 k hk).2.2.2 p hp).1; omega, ((h.2.2 k hk).2.2.2 p hp).2⟩⟩⟩
theorem okg {A : Row} (h2 : 1 ≤ A 2) : ∀ n, OKG A n (grp A n)
  | 0 => ⟨Nat.le_refl _, fun _ _ => rfl, fun k hk => absurd hk (Nat.not_lt_zero _)⟩
  | n + 1 => by
    unfold grp
    split
    · next h => exact (okg h2 n).ins h2 h
    · exact (okg h2 n).mono
/-- a letter's persons lie in its mask -/
theorem maskL_bit : ∀ (g : List Nat) (m j : Nat), (g.foldl (fun m p => m ||| 2 ^ p) m).testBit j = (m.testBit j || decide (j ∈ g))
  | [], m, j => by simp
  | x :: r, m, j => by
    rw [List.foldl_cons, maskL_bit r, Nat.testBit_or, Nat.testBit_two_pow]
    by_cases e : x = j
    · subst e; simp
    · have : ¬ j = x := fun h => e h.symm
      simp [e, this]
theorem maskL_t {g : List Nat} {j : Nat} : (maskL g).testBit j = decide (j ∈ g) := by
  unfold maskL
  rw [maskL_bit]
  simp
theorem maskL_lt {g : List Nat} {n : Nat} (h : ∀ p ∈ g, p < n) : maskL g < 2 ^ n := Nat.lt_pow_two_of_testBit _ fun i hi => by
  rw [maskL_t, decide_eq_false_iff_not]
  intro hm
  have := h i hm
  omega
theorem maskL_snoc {g : List Nat} {p : Nat} : maskL (g ++ [p]) = maskL g ||| 2 ^ p := by unfold maskL; rw [List.foldl_append]; rfl
/-- a sorted row of numbers below n, told apart by asking each number -/
theorem sorted_cases {g : List Nat} (hs : g.Pairwise (· < ·)) {p : Nat} (hg : ∀ x ∈ g, p ≤ x) : (∃ r, g = p :: r ∧ ∀ x ∈ r, p + 1 ≤ x) ∨ (p ∉ g ∧ ∀ x ∈ g, p + 1 ≤ x) := by
  cases g with
  | nil => exact Or.inr ⟨by simp, by simp⟩
  | cons y r =>
    rw [List.pairwise_cons] at hs
    by_cases e : y = p
    · exact Or.inl ⟨r, by rw [e], fun x hx => by have := hs.1 x hx; omega⟩
    · have hy := hg y List.mem_cons_self
      refine Or.inr ⟨fun hm => ?_, fun x hx => ?_⟩
      · rcases List.mem_cons.mp hm with h | h
        · exact e h.symm
        · have := hs.1 p h; omega
      · rcases List.mem_cons.mp hx with h | h
        · omega
        · have := hs.1 x h; omega

theorem nws_not {A : Row} : ∀ (g acc : List Nat) (j : Nat), j ∈ nws A acc g → j ∉ acc
  | [], _, _, h => by unfold nws at h; exact absurd h List.not_mem_nil
  | p :: r, acc, j, h => by
    unfold nws at h
    split at h
    · exact nws_not r acc j h
    · next hp =>
      rcases List.mem_cons.mp h with h | h
      · rw [h]; exact hp
      · intro hm
        exact nws_not r _ j h (List.mem_append_left _ hm)
theorem nws_len {A : Row} : ∀ (g acc : List Nat), (nws A acc g).length ≤ g.length
  | [], _ => by unfold nws; exact Nat.le_refl _
  | p :: r, acc => by
    unfold nws
    split
    · have := nws_len (A := A) r acc; rw [List.length_cons]; omega
    · have := nws_len (A := A) r (acc ++ [A (53 + p)]); rw [List.length_cons, List.length_cons]; omega
theorem nws_mem {A : Row} : ∀ (g acc : List Nat) (j : Nat), j ∈ nws A acc g → ∃ p ∈ g, j = A (53 + p)
  | [], _, _, h => by unfold nws at h; exact absurd h List.not_mem_nil
  | p :: r, acc, j, h => by
    unfold nws at h
    split at h
    · obtain ⟨x, h1, h2⟩ := nws_mem r acc j h
      exact ⟨x, List.mem_cons_of_mem _ h1, h2⟩
    · rcases List.mem_cons.mp h with h | h
      · exact ⟨p, List.mem_cons_self, h⟩
      · obtain ⟨x, h1, h2⟩ := nws_mem r _ j h
        exact ⟨x, List.mem_cons_of_mem _ h1, h2⟩
theorem artN_le {A : Row} {w : Nat} : (artT (artN A w)).length ≤ 4 := by unfold artN artT; split <;> (try split) <;> simp
theorem wordT_len {A : Row} {w : Nat} : (wordT A w).length ≤ 5 + A (313 + w) ∧ 1 ≤ (wordT A w).length := by
  have := artN_le (A := A) (w := w)
  unfold wordT wordL
  rw [List.length_append, List.length_cons, segF_len]
  omega
