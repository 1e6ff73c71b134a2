/-! THE LAW'S START: what the statement gives, as the clean machine's memory -/
def nwl : List Cond := flatC (Jvm.Cond.and given_1 narrow_1)
def sT (n : String) : Term := .static "HouseholdMail" n "[I"
def gT (cn i : Nat) : Term := .string (clsN cn) i
def vT (cn i : Nat) : Term := .field (gT cn i) "java/lang/String" "value" "[B"
set_option maxRecDepth 20000 in
theorem n_F : Cond.arrayOf (sT "FIRST") .int ∈ nwl ∧ Cond.eq (.length (sT "FIRST")) (.int (Int32.ofNat 6)) ∈ nwl ∧ ∀ k, k < 6 → Cond.eq (.elem (sT "FIRST") (.int (Int32.ofNat k))) (.int (nI (A0 k))) ∈ nwl := by decide +kernel
set_option maxRecDepth 20000 in
theorem n_L : Cond.arrayOf (sT "LEAST") .int ∈ nwl ∧ Cond.eq (.length (sT "LEAST")) (.int (Int32.ofNat 6)) ∈ nwl ∧ ∀ k, k < 6 → Cond.eq (.elem (sT "LEAST") (.int (Int32.ofNat k))) (.int (nI (leastV k))) ∈ nwl := by decide +kernel
set_option maxRecDepth 20000 in
theorem n_M : Cond.arrayOf (sT "MOST") .int ∈ nwl ∧ Cond.eq (.length (sT "MOST")) (.int (Int32.ofNat 6)) ∈ nwl ∧ ∀ k, k < 6 → Cond.eq (.elem (sT "MOST") (.int (Int32.ofNat k))) (.int (nI (mostV k))) ∈ nwl := by decide +kernel
set_option maxRecDepth 20000 in
theorem n_mis : Cond.eq (.static "java/lang/String" "COMPACT_STRINGS" "Z") (.int 1) ∈ nwl ∧ Cond.isRef (.static "jdk/internal/util/Preconditions" "SIOOBE_FORMATTER" "Ljava/util/function/BiFunction;") ∈ nwl ∧ Cond.isRef (.static Bundle.tN "UNASSIGNED_STACK" Bundle.steD) ∈ nwl ∧ Cond.isRef (.static Bundle.tN "SUPPRESSED_SENTINEL" Bundle.listD) ∈ nwl := by decide +kernel
theorem noH : ¬ noHnd = false := by decide +kernel
set_option maxRecDepth 20000 in
theorem n_ex : ∀ q ∈ strs, Cond.exactly (gT q.1 q.2.1) "java/lang/String" ∈ nwl := by decide +kernel
set_option maxRecDepth 20000 in
theorem w_sr : ∀ q ∈ strs, Cond.stringRef (clsN q.1) q.2.1 q.2.2.1 ∈ lw_tbl := by decide +kernel
-- the four texts that are read: class, entry, letters
def txl : List (Nat × Nat × List Nat × Nat) := [(1, 78, [97, 108, 108], 100), (9, 41, [115, 111, 109, 101], 101), (9, 43, [97, 110], 102), (9, 45, [97], 103)]
set_option maxRecDepth 20000 in
theorem n_tx : ∀ q ∈ txl, Cond.eq (.field (gT q.1 q.2.1) "java/lang/String" "coder" "B") (.int (nI 0)) ∈ nwl ∧ Cond.arrayOf (vT q.1 q.2.1) .byte ∈ nwl ∧ Cond.eq (.length (vT q.1 q.2.1)) (.int (Int32.ofNat q.2.2.1.length)) ∈ nwl ∧ ∀ k, k < q.2.2.1.length → Cond.eq (.elem (vT q.1 q.2.1) (.int (Int32.ofNat k))) (.int (nI (q.2.2.1.getD k 0))) ∈ nwl := by decide +kernel
set_option maxRecDepth 20000 in
theorem w_ls : Cond.laysStatic "HouseholdMail" "FIRST" "[I" ∈ lw_tbl ∧ Cond.laysStatic "HouseholdMail" "LEAST" "[I" ∈ lw_tbl ∧ Cond.laysStatic "HouseholdMail" "MOST" "[I" ∈ lw_tbl ∧ Cond.initialized "HouseholdMail" ∈ lw_tbl ∧ Cond.laysStatic "java/lang/String" "COMPACT_STRINGS" "Z" ∈ lw_tbl ∧ Cond.initialized "java/lang/String" ∈ lw_tbl ∧
  Cond.laysStatic "jdk/internal/util/Preconditions" "SIOOBE_FORMATTER" "Ljava/util/function/BiFunction;" ∈ lw_tbl ∧ Cond.initialized "jdk/internal/util/Preconditions" ∈ lw_tbl ∧ Cond.laysStatic Bundle.tN "UNASSIGNED_STACK" Bundle.steD ∈ lw_tbl ∧ Cond.laysStatic Bundle.tN "SUPPRESSED_SENTINEL" Bundle.listD ∈ lw_tbl ∧ Cond.initialized Bundle.tN ∈ lw_tbl := by decide +kernel
set_option maxRecDepth 20000 in
theorem w_in : ∀ c, c < 11 → Cond.instantiable (clsN c) (nXc c) ∈ lw_tbl := by decide +kernel
set_option maxRecDepth 20000 in
theorem w_ao : ∀ C ∈ [RX2, RX7, RX8, RX9], Cond.arrayOver (.object C) ∈ lw_tbl := by decide +kernel
/-- an array that is there, with all its ints -/
def AR (s : State) (a : Nat) (ty : FieldType) (N : Nat) (f : Nat → Int32) : Prop := ∃ cell : Cell, s.heap[a]? = some cell ∧ s.isArrayOf cell ty ∧ cell.vm ≠ .unknown ∧ cell.slots.size = N ∧ N < 2147483648 ∧ ∀ j : Nat, j < N → cell.slots[j]? = some (.int (f j))
/-- a text that is there -/
def TX0s (s : State) (a v : Nat) : Prop := va_O "java/lang/String" a (fun q => s.heap.size ≤ q) s s.heap ∧ va_OF "java/lang/String" "coder" "B" (.int 0) a (fun q => s.heap.size ≤ q) s s.heap ∧ va_OF "java/lang/String" "value" "[B" (.ref v) a (fun q => s.heap.size ≤ q) s s.heap
section W0
variable {s : State} {A : Array Value} {a N M v : Nat} {f g : Nat → Int32} {ty : FieldType}
theorem lo_ok : ∀ a : Nat, a < s.heap.size → ¬ (fun q => s.heap.size ≤ q) a := fun _ h => Nat.not_le.mpr h
theorem AR_of {tm : Term} {f : Nat → Nat} (hN : N < 2147483648) (h1 : (Cond.arrayOf tm ty).before A s = true) (h2 : (Cond.eq (.length tm) (.int (Int32.ofNat N))).before A s = true) (h3 : ∀ k, k < N → (Cond.eq (.elem tm (.int (Int32.ofNat k))) (.int (nI (f k)))).before A s = true) : ∃ t : Nat, tm.eval A s none [] s = some (.ref t) ∧ AR s t ty N (fun k => nI (f k)) := by
  have hlen := va_eqt h2
  obtain ⟨t, cell, ht, hat, hv⟩ := Term.length_spec hlen
  obtain ⟨hcell, hkn, -, -⟩ := State.arrayAt?_spec hat
  obtain ⟨hof, -⟩ := Cond.arrayOf_spec h1 ht hcell
  have hsz : cell.slots.size < 2147483648 := by
    by_cases e : cell.slots.size < 2147483648
    · exact e
    · have e2 : ¬ cell.slots.size < 2 ^ 31 := e
      simp [Term.eval, ht, hat, e2] at hlen
  have hsN : cell.slots.size = N := by
    have h4 : nI N = nI cell.slots.size := by injection hv
    exact (n_inj (by omega) (by omega) h4).symm
  refine ⟨t, ht, cell, hcell, hof, hkn, hsN, hN, fun j hj => ?_⟩
  obtain ⟨a, i, cell2, g1, g2, g3, g4, g5⟩ := Term.elem_spec (va_eqt (h3 j hj))
  cases ht.symm.trans g1
  cases hat.symm.trans g3
  have g6 : i = nI j := by
    have : (Term.int (Int32.ofNat j)).eval A s none [] s = some (.int (Int32.ofNat j)) := rfl
    rw [this] at g2
    injection g2 with g2
    injection g2 with g2
    exact g2.symm
  rw [g6, n_cl (by omega)] at g5
  exact g5
theorem AR.lt (h : AR s a ty N f) : a < s.heap.size := by
  obtain ⟨cell, h1, -⟩ := h
  exact (Array.getElem?_eq_some_iff.mp h1).1
theorem AR.T (h : AR s a ty N f) : va_T ty a N (fun j => .int (f j)) (fun q => s.heap.size ≤ q) s s.heap := by
  have hl := h.lt
  obtain ⟨cell, h1, h2, h3, h4, h5, h6⟩ := h
  exact ⟨cell, h1, h2, h3, by omega, by rw [h4], h6, lo_ok a hl⟩
theorem AR.len {ty' : FieldType} (h : AR s a ty N f) (h' : AR s a ty' M g) : N = M ∧ ty = ty' := by
  obtain ⟨cell, h1, h2, h3, h4, h5, h6⟩ := h
  obtain ⟨cell', g1, g2, g3, g4, g5, g6⟩ := h'
  cases h1.symm.trans g1
  obtain ⟨-, k, hk, comp, hkind⟩ := h2
  obtain ⟨-, k', hk', comp', hkind'⟩ := g2
  cases hk.symm.trans hk'
  rw [hkind] at hkind'
  injection hkind' with e1 e2
  exact ⟨h4.symm.trans g4, e2⟩
theorem AR.noS (h : AR s a ty N f) (h' : TX0s s a v) : False := by
  obtain ⟨cell, h1, h2, h3, h4, h5, h6⟩ := h
  obtain ⟨cf, k, i, fd, cell', g1, g2, g3, g4, g5, g6⟩ := h'.2.2
  cases h1.symm.trans g3
  have hs := (Array.getElem?_eq_some_iff.mp g5).1
  rw [h6 fd.slot (by omega)] at g5
  cases g5
theorem TX0s.val {v' : Nat} (h : TX0s s a v) (h' : TX0s s a v') : v = v' := by
  obtain ⟨cf, k, i, fd, cell, g1, g2, g3, g4, g5, g6⟩ := h.2.2
  obtain ⟨cf', k', i', fd', cell', k1, k2, k3, k4, k5, k6⟩ := h'.2.2
  cases g1.symm.trans k1
  cases g3.symm.trans k3
  rw [g5] at k5
  cases k5
  rfl
theorem TX0s.lt (h : TX0s s a v) : a < s.heap.size := by
  obtain ⟨cell, h1, -⟩ := h.1
  exact (Array.getElem?_eq_some_iff.mp h1).1
/-- what stands at an address at the start -/
def KI (s : State) (a : Nat) (k : Nat × Nat) : Prop := (k.1 = 50 ∧ ∃ f, AR s a .int k.2 f) ∨ (k.1 = 51 ∧ ∃ f, AR s a .byte k.2 f) ∨ (k = (52, 0) ∧ ∃ v, TX0s s a v)
theorem KI.one {k k' : Nat × Nat} (h : KI s a k) (h' : KI s a k') : k = k' := by
  obtain ⟨k1, k2⟩ := k
  obtain ⟨k3, k4⟩ := k'
  rcases h with ⟨e, f, h⟩ | ⟨e, f, h⟩ | ⟨e, v, h⟩ <;> rcases h' with ⟨e', f', h'⟩ | ⟨e', f', h'⟩ | ⟨e', v', h'⟩ <;> (try dsimp only at e) <;> (try dsimp only at e') <;> (try dsimp only at h) <;> (try dsimp only at h')
  · rw [e, e', (h.len h').1]
  · exact absurd (h.len h').2 (by decide)
  · exact (h.noS h').elim
  · exact absurd (h.len h').2 (by decide)
  · rw [e, e', (h.len h').1]
  · exact (h.noS h').elim
  · exact (h'.noS h).elim
  · exact (h'.noS h).elim
  · exact e.trans e'.symm
noncomputable def K0 (s : State) (a : Nat) : Nat × Nat := @dite _ (∃ k, KI s a k) (Classical.propDecidable _) (fun h => Classical.choose h) (fun _ => (0, 0))
theorem K0_of {k : Nat × Nat} (h : KI s a k) : K0 s a = k := by
  have h1 : ∃ k, KI s a k := ⟨k, h⟩
  unfold K0
  rw [dif_pos h1]
  exact (Classical.choose_spec h1).one h
theorem K0_or : KI s a (K0 s a) ∨ K0 s a = (0, 0) := by
  by_cases h1 : ∃ k, KI s a k
  · unfold K0
    rw [dif_pos h1]
    exact Or.inl (Classical.choose_spec h1)
  · unfold K0
    rw [dif_neg h1]
    exact Or.inr rfl
theorem K0_hi (h : s.heap.size ≤ a) : K0 s a = (0, 0) := by
  rcases K0_or (s := s) (a := a) with h1 | h1
  · rcases h1 with ⟨-, f, h1⟩ | ⟨-, f, h1⟩ | ⟨-, v, h1⟩
    · have := h1.lt; omega
    · have := h1.lt; omega
    · have := h1.lt; omega
  · exact h1
def sl0 (s : State) (a j : Nat) : Int32 := match s.heap[a]? with
  | some ce => (match ce.slots[j]? with
    | some (.int x) => x
    | _ => 0)
  | none => 0
theorem AR.sl (h : AR s a ty N f) {j : Nat} (hj : j < N) : sl0 s a j = f j := by
  obtain ⟨cell, h1, h2, h3, h4, h5, h6⟩ := h
  unfold sl0
  rw [h1]
  dsimp only
  rw [h6 j hj]
noncomputable def In0 (s : State) (a j : Nat) : Int32 := if (K0 s a).1 = 50 ∨ (K0 s a).1 = 51 then sl0 s a j else 0
noncomputable def Re0 (s : State) (a j : Nat) : Option Nat := @dite _ (j = 1 ∧ ∃ v, TX0s s a v) (Classical.propDecidable _) (fun h => some (Classical.choose h.2)) (fun _ => none)
theorem Re0_of (h : TX0s s a v) : Re0 s a 1 = some v := by
  have h1 : 1 = 1 ∧ ∃ v, TX0s s a v := ⟨rfl, v, h⟩
  unfold Re0
  rw [dif_pos h1]
  exact congrArg some ((Classical.choose_spec h1.2).val h)
theorem Re0_hi (h : s.heap.size ≤ a) {j : Nat} : Re0 s a j = none := by
  unfold Re0
  rw [dif_neg (fun x => by obtain ⟨-, v, x⟩ := x; have := x.lt; omega)]
theorem In0_hi (h : s.heap.size ≤ a) {j : Nat} : In0 s a j = 0 := by
  unfold In0
  rw [K0_hi h, if_neg (by decide)]
theorem AR.in50 (h : AR s a .int N f) {j : Nat} (hj : j < N) : In0 s a j = f j := by
  unfold In0
  rw [K0_of (k := (50, N)) (Or.inl ⟨rfl, f, h⟩), if_pos (Or.inl rfl)]
  exact h.sl hj
theorem AR.in51 (h : AR s a .byte N f) {j : Nat} (hj : j < N) : In0 s a j = f j := by
  unfold In0
  rw [K0_of (k := (51, N)) (Or.inr (Or.inl ⟨rfl, f, h⟩)), if_pos (Or.inr rfl)]
  exact h.sl hj
theorem TX0s.in52 (h : TX0s s a v) {j : Nat} : In0 s a j = 0 := by
  unfold In0
  rw [K0_of (k := (52, 0)) (Or.inr (Or.inr ⟨rfl, v, h⟩)), if_neg (by decide)]
/-- the start's memory fits the start's heap -/
theorem hr0 {D : va_G} : HR D s.heap.size (K0 s, In0 s, Re0 s, fun _ _ => 0, s.heap.size, true) s s.heap := by
  have nl : ∀ a, ¬ live (K0 s a).1 := by
    intro a h
    unfold live at h
    rcases K0_or (s := s) (a := a) with h1 | h1
    · rcases h1 with ⟨e, -⟩ | ⟨e, -⟩ | ⟨e, -⟩ <;> rw [e] at h <;> (try dsimp only at h) <;> omega
    · rw [h1] at h; dsimp only at h; omega
  have ex : ∀ a n, (K0 s a).1 = n → n ≠ 0 → KI s a (K0 s a) := by
    intro a n e h
    rcases K0_or (s := s) (a := a) with h1 | h1
    · exact h1
    · rw [h1] at e; exact absurd e.symm h
  refine ⟨[], fun _ => 0, fun a => ⟨fun h => absurd h List.not_mem_nil, fun h => absurd h (nl a)⟩, fun k q h => by simp [va_pl] at h, ⟨fun i j p q h => by simp [va_pl] at h, fun k q h => by simp [va_pl] at h⟩, fun a h1 h2 => absurd (Or.inl ⟨h1, h2⟩) (nl a), fun a h => ?_, fun a h => ?_, fun a h => ?_, Nat.le_refl _, fun _ => ⟨rfl, fun a h => ⟨by show (K0 s a).1 = 0; rw [K0_hi h], fun k => ⟨In0_hi h, Re0_hi h, rfl⟩⟩⟩⟩
  · have h : (K0 s a).1 = 50 := h
    rcases ex a 50 h (by decide) with ⟨e, f, h1⟩ | ⟨e, f, h1⟩ | ⟨e, v, h1⟩
    · obtain ⟨cell, t1, t2, t3, t4, t5, t6, t7⟩ := h1.T
      exact ⟨cell, t1, t2, t3, t4, t5, fun j hj => by rw [t6 j hj]; exact congrArg (fun x => some (Value.int x)) (h1.in50 hj).symm, t7⟩
    · rw [e] at h; cases h
    · rw [e] at h; cases h
  · have h : (K0 s a).1 = 51 := h
    rcases ex a 51 h (by decide) with ⟨e, f, h1⟩ | ⟨e, f, h1⟩ | ⟨e, v, h1⟩
    · rw [e] at h; cases h
    · obtain ⟨cell, t1, t2, t3, t4, t5, t6, t7⟩ := h1.T
      exact ⟨cell, t1, t2, t3, t4, t5, fun j hj => by rw [t6 j hj]; exact congrArg (fun x => some (Value.int x)) (h1.in51 hj).symm, t7⟩
    · rw [e] at h; cases h
  · have h : (K0 s a).1 = 52 := h
    rcases ex a 52 h (by decide) with ⟨e, f, h1⟩ | ⟨e, f, h1⟩ | ⟨e, v, h1⟩
    · rw [e] at h; cases h
    · rw [e] at h; cases h
    · refine ⟨h1.1, ?_, ?_⟩
      · show va_OF _ _ _ (.int (In0 s a 0)) _ _ _ _
        rw [h1.in52]; exact h1.2.1
      · show va_OF _ _ _ (va_rf (Re0 s a 1)) _ _ _ _
        rw [Re0_of h1]; exact h1.2.2
end W0
