/-! THE CLEAN MACHINE AND THE HEAP: which heap holds which memory; what holds of every state of a run -/
def TXc (c : Nat) : u_T := match c with
  | 0 => TX0 | 1 => TX1 | 2 => TX2 | 3 => TX3 | 4 => TX4 | 5 => TX5 | 6 => TX6 | 7 => TX7 | 8 => TX8 | 9 => TX9 | _ => TX10
def tyc (c : Nat) : Nat → FieldType := match c with
  | 0 => tyX0 | 1 => tyX1 | 2 => tyX2 | 3 => tyX3 | 4 => tyX4 | 5 => tyX5 | 6 => tyX6 | 7 => tyX7 | 8 => tyX8 | 9 => tyX9 | _ => tyX10
def nXc (c : Nat) : Nat := match c with
  | 0 => 2 | 1 => 3 | 2 => 6 | 3 => 2 | 4 => 2 | 5 => 5 | 6 => 12 | 7 => 8 | 8 => 10 | 9 => 3 | _ => 6
def clsN (c : Nat) : String := match c with
  | 0 => RX0 | 1 => RX1 | 2 => RX2 | 3 => RX3 | 4 => RX4 | 5 => RX5 | 6 => RX6 | 7 => RX7 | 8 => RX8 | 9 => RX9 | 10 => RX10 | 11 => "HouseholdMailModel" | 12 => "HouseholdMailLaw" | 13 => "java/lang/Double" | 14 => "java/lang/Math" | 15 => "java/lang/String" | 16 => "java/lang/StringLatin1" | _ => "jdk/internal/util/Preconditions"
theorem lt11 {P : Nat → Prop} {c : Nat} (hc : c < 11) (h0 : P 0) (h1 : P 1) (h2 : P 2) (h3 : P 3) (h4 : P 4) (h5 : P 5) (h6 : P 6) (h7 : P 7) (h8 : P 8) (h9 : P 9) (h10 : P 10) : P c := by
  rcases (show c = 0 ∨ c = 1 ∨ c = 2 ∨ c = 3 ∨ c = 4 ∨ c = 5 ∨ c = 6 ∨ c = 7 ∨ c = 8 ∨ c = 9 ∨ c = 10 by omega) with rfl | rfl | rfl | rfl | rfl | rfl | rfl | rfl | rfl | rfl | rfl <;> assumption
theorem vCl_at {c : Nat} (hc : c < 11) : vCl[c]? = some (clsN c, TXc c, nXc c) := by
  refine lt11 (P := fun c => vCl[c]? = some (clsN c, TXc c, nXc c)) hc ?_ ?_ ?_ ?_ ?_ ?_ ?_ ?_ ?_ ?_ ?_ <;> rfl
theorem tyc_ok {c : Nat} (hc : c < 11) : ∀ k, k < nXc c → parseFieldDescriptor (TXc c k).2.2.1 = some (tyc c k) :=
  lt11 (P := fun c => ∀ k, k < nXc c → parseFieldDescriptor (TXc c k).2.2.1 = some (tyc c k)) hc tyX0_ok tyX1_ok tyX2_ok tyX3_ok tyX4_ok tyX5_ok tyX6_ok tyX7_ok tyX8_ok tyX9_ok tyX10_ok
theorem nmc_ok {c : Nat} (hc : c < 11) : ∀ a, a < nXc c → ∀ b, b < nXc c → a ≠ b → (TXc c a).2.1 ≠ (TXc c b).2.1 :=
  lt11 (P := fun c => ∀ a, a < nXc c → ∀ b, b < nXc c → a ≠ b → (TXc c a).2.1 ≠ (TXc c b).2.1) hc nmX0 nmX1 nmX2 nmX3 nmX4 nmX5 nmX6 nmX7 nmX8 nmX9 nmX10
theorem uw0 : ∀ w ∈ u_ws (clsN 0) (TXc 0) (nXc 0), w ∈ lw_tbl := by
  have h : u_ws (clsN 0) (TXc 0) (nXc 0) = [227, 229].filterMap (fun i => lw_tbl[i]?) := by decide +kernel
  intro w hw
  rw [h] at hw
  obtain ⟨i, -, hi⟩ := List.mem_filterMap.mp hw
  exact List.mem_of_getElem? hi
theorem uw1 : ∀ w ∈ u_ws (clsN 1) (TXc 1) (nXc 1), w ∈ lw_tbl := by
  have h : u_ws (clsN 1) (TXc 1) (nXc 1) = [244, 246, 248].filterMap (fun i => lw_tbl[i]?) := by decide +kernel
  intro w hw
  rw [h] at hw
  obtain ⟨i, -, hi⟩ := List.mem_filterMap.mp hw
  exact List.mem_of_getElem? hi
theorem uw2 : ∀ w ∈ u_ws (clsN 2) (TXc 2) (nXc 2), w ∈ lw_tbl := by
  have h : u_ws (clsN 2) (TXc 2) (nXc 2) = [304, 306, 308, 310, 312, 314].filterMap (fun i => lw_tbl[i]?) := by decide +kernel
  intro w hw
  rw [h] at hw
  obtain ⟨i, -, hi⟩ := List.mem_filterMap.mp hw
  exact List.mem_of_getElem? hi
theorem uw3 : ∀ w ∈ u_ws (clsN 3) (TXc 3) (nXc 3), w ∈ lw_tbl := by
  have h : u_ws (clsN 3) (TXc 3) (nXc 3) = [208, 210].filterMap (fun i => lw_tbl[i]?) := by decide +kernel
  intro w hw
  rw [h] at hw
  obtain ⟨i, -, hi⟩ := List.mem_filterMap.mp hw
  exact List.mem_of_getElem? hi
theorem uw4 : ∀ w ∈ u_ws (clsN 4) (TXc 4) (nXc 4), w ∈ lw_tbl := by
  have h : u_ws (clsN 4) (TXc 4) (nXc 4) = [75, 77].filterMap (fun i => lw_tbl[i]?) := by decide +kernel
  intro w hw
  rw [h] at hw
  obtain ⟨i, -, hi⟩ := List.mem_filterMap.mp hw
  exact List.mem_of_getElem? hi
theorem uw5 : ∀ w ∈ u_ws (clsN 5) (TXc 5) (nXc 5), w ∈ lw_tbl := by
  have h : u_ws (clsN 5) (TXc 5) (nXc 5) = [264, 266, 268, 270, 272].filterMap (fun i => lw_tbl[i]?) := by decide +kernel
  intro w hw
  rw [h] at hw
  obtain ⟨i, -, hi⟩ := List.mem_filterMap.mp hw
  exact List.mem_of_getElem? hi
theorem uw6 : ∀ w ∈ u_ws (clsN 6) (TXc 6) (nXc 6), w ∈ lw_tbl := by
  have h : u_ws (clsN 6) (TXc 6) (nXc 6) = [338, 340, 342, 344, 346, 348, 350, 352, 354, 356, 358, 360].filterMap (fun i => lw_tbl[i]?) := by decide +kernel
  intro w hw
  rw [h] at hw
  obtain ⟨i, -, hi⟩ := List.mem_filterMap.mp hw
  exact List.mem_of_getElem? hi
theorem uw7 : ∀ w ∈ u_ws (clsN 7) (TXc 7) (nXc 7), w ∈ lw_tbl := by
  have h : u_ws (clsN 7) (TXc 7) (nXc 7) = [109, 111, 113, 115, 117, 119, 121, 123].filterMap (fun i => lw_tbl[i]?) := by decide +kernel
  intro w hw
  rw [h] at hw
  obtain ⟨i, -, hi⟩ := List.mem_filterMap.mp hw
  exact List.mem_of_getElem? hi
theorem uw8 : ∀ w ∈ u_ws (clsN 8) (TXc 8) (nXc 8), w ∈ lw_tbl := by
  have h : u_ws (clsN 8) (TXc 8) (nXc 8) = [175, 177, 179, 181, 183, 185, 187, 189, 191, 193].filterMap (fun i => lw_tbl[i]?) := by decide +kernel
  intro w hw
  rw [h] at hw
  obtain ⟨i, -, hi⟩ := List.mem_filterMap.mp hw
  exact List.mem_of_getElem? hi
theorem uw9 : ∀ w ∈ u_ws (clsN 9) (TXc 9) (nXc 9), w ∈ lw_tbl := by
  have h : u_ws (clsN 9) (TXc 9) (nXc 9) = [136, 138, 140].filterMap (fun i => lw_tbl[i]?) := by decide +kernel
  intro w hw
  rw [h] at hw
  obtain ⟨i, -, hi⟩ := List.mem_filterMap.mp hw
  exact List.mem_of_getElem? hi
theorem uw10 : ∀ w ∈ u_ws (clsN 10) (TXc 10) (nXc 10), w ∈ lw_tbl := by
  have h : u_ws (clsN 10) (TXc 10) (nXc 10) = [369, 371, 373, 375, 377, 379].filterMap (fun i => lw_tbl[i]?) := by decide +kernel
  intro w hw
  rw [h] at hw
  obtain ⟨i, -, hi⟩ := List.mem_filterMap.mp hw
  exact List.mem_of_getElem? hi
theorem uw_in {c : Nat} (hc : c < 11) : ∀ w ∈ u_ws (clsN c) (TXc c) (nXc c), w ∈ lw_tbl :=
  lt11 (P := fun c => ∀ w ∈ u_ws (clsN c) (TXc c) (nXc c), w ∈ lw_tbl) hc uw0 uw1 uw2 uw3 uw4 uw5 uw6 uw7 uw8 uw9 uw10
def tcF (t : FieldType) : Nat := match t with
  | .int => 0 | .boolean => 1 | .long => 2 | .object _ => 3 | .array _ => 3 | _ => 9
-- words that stay true along a run
def okW (w : Cond) : Bool := match w with
  | .fieldLinkNest .. => true
  | .methodLinkNest .. => true
  | .declares _ => true
  | .castable .. => true
  | .arrayClass _ => true
  | w => w.onTables && w.keeps
theorem okW_warm {w : Cond} (h : okW w = true) {s U : State} (hW : s.WarmedH U.vm) (hw : w.before #[] s = true) : w.before #[] U = true := by
  cases w <;> first
    | exact va_Nw.warmF hW hw
    | exact va_Nw.warmM hW hw
    | exact va_Nw.warmD hW hw
    | exact va_Nw.warmC hW hw
    | exact word_at hW (Or.inr ⟨_, rfl⟩) hw
    | exact word_at hW (Or.inl h) hw
theorem okW_use {w : Cond} (h : okW w = true) {A : Array Value} {s : State} (hw : w.before #[] s = true) : w.before A s = true := by
  cases w <;> first
    | exact va_Nw.use rfl hw
    | exact va_Nw.use (by simp only [okW, Bool.and_eq_true] at h; exact h.1) hw
    | exact hw
theorem okW_of {w : Cond} (h : okW w = true) {A : Array Value} {s : State} (hw : w.before A s = true) : w.before #[] s = true := by
  cases w <;> first
    | exact va_Nw.of rfl hw
    | exact va_Nw.of (by simp only [okW, Bool.and_eq_true] at h; exact h.1) hw
    | exact hw
def KW (U : State) : Prop := ∀ w ∈ lw_tbl, okW w = true → w.before #[] U = true
theorem KW.warm {s U : State} (hW : s.WarmedH U.vm) (h : KW s) : KW U := fun w hw ho => okW_warm ho hW (h w hw ho)
def KWts : List Cond := lw_tbl.filter okW
theorem KW.hts {s : State} (h : KW s) {A : Array Value} : ∀ w ∈ KWts, w.before A s = true := fun w hw => okW_use (List.mem_filter.mp hw).2 (h w (List.mem_filter.mp hw).1 (List.mem_filter.mp hw).2)
theorem KW.use {s : State} (h : KW s) {A : Array Value} {w : Cond} (hw : w ∈ lw_tbl) (ho : okW w = true) : w.before A s = true := okW_use ho (h w hw ho)
theorem uw_ok {c : Nat} (hc : c < 11) : ∀ w ∈ u_ws (clsN c) (TXc c) (nXc c), w ∈ KWts := fun w hw => List.mem_filter.mpr ⟨uw_in hc w hw, by
  obtain ⟨k, -, rfl⟩ := List.mem_map.mp hw
  unfold u_lay
  split <;> rfl⟩
-- the cells
def arrTy (t : Nat) : FieldType := if t = 20 then .int else if t = 21 then .long else if t = 22 then .object RX2 else if t = 23 then .object RX7 else if t = 24 then .object RX8 else .object RX9
def celE (cA : Nat → ClassId) (σ : Mem) (a : Nat) : va_E :=
  if (σ.1 a).1 = 20 then .inl (cA a, (σ.1 a).2, .inl (σ.2.1 a))
  else if (σ.1 a).1 = 21 then .inl (cA a, (σ.1 a).2, .inr (.inl (σ.2.2.2.1 a)))
  else if (σ.1 a).1 < 100 then .inl (cA a, (σ.1 a).2, .inr (.inr (.inr (.inr (σ.2.2.1 a)))))
  else .inr ((σ.1 a).1 - 100, (List.range (nXc ((σ.1 a).1 - 100))).map fun k => fvl (tcF (tyc ((σ.1 a).1 - 100) k)) (σ.2.1 a k) (σ.2.2.1 a k) (σ.2.2.2.1 a k))
def live (t : Nat) : Prop := (20 ≤ t ∧ t ≤ 25) ∨ (100 ≤ t ∧ t < 111)
def HR (D : va_G) (base : Nat) (σ : Mem) (U : State) (H : Heap) : Prop := ∃ (Lv : List Nat) (cA : Nat → ClassId),
  (∀ a, a ∈ Lv ↔ live (σ.1 a).1) ∧
  va_P D vCl (va_pl Lv (celE cA σ)) H ∧
  va_D (fun q => base ≤ q) (va_pl Lv (celE cA σ)) ∧
  (∀ a, 20 ≤ (σ.1 a).1 → (σ.1 a).1 ≤ 25 → ArrOfT U (cA a) (arrTy (σ.1 a).1) ∧ va_RA U (cA a) (arrTy (σ.1 a).1)) ∧
  (∀ a, (σ.1 a).1 = 50 → va_T .int a (σ.1 a).2 (fun j => .int (σ.2.1 a j)) (fun q => base ≤ q) U H) ∧
  (∀ a, (σ.1 a).1 = 51 → va_T .byte a (σ.1 a).2 (fun j => .int (σ.2.1 a j)) (fun q => base ≤ q) U H) ∧
  (∀ a, (σ.1 a).1 = 52 → va_O "java/lang/String" a (fun q => base ≤ q) U H ∧ va_OF "java/lang/String" "coder" "B" (.int (σ.2.1 a 0)) a (fun q => base ≤ q) U H ∧ va_OF "java/lang/String" "value" "[B" (va_rf (σ.2.2.1 a 1)) a (fun q => base ≤ q) U H) ∧
  σ.2.2.2.2.1 ≤ H.size ∧
  (σ.2.2.2.2.2 = true → H.size = σ.2.2.2.2.1 ∧ ∀ a, σ.2.2.2.2.1 ≤ a → (σ.1 a).1 = 0 ∧ ∀ k, σ.2.1 a k = 0 ∧ σ.2.2.1 a k = none ∧ σ.2.2.2.1 a k = 0)
theorem HR.moved {D : va_G} {base : Nat} {σ : Mem} {u U : State} {H : Heap} (hvm : u.vm.Alike U.vm) (h : HR D base σ u H) : HR D base σ U H := by
  obtain ⟨Lv, cA, h1, h2, h3, h4, h5, h6, h7, h8⟩ := h
  exact ⟨Lv, cA, h1, h2, h3, fun a q1 q2 => ⟨arrOfT_moved hvm (h4 a q1 q2).1, (h4 a q1 q2).2.moved hvm⟩, fun a q => va_T.moved hvm (h5 a q), fun a q => va_T.moved hvm (h6 a q), fun a q => ⟨va_O.moved hvm (h7 a q).1, va_OF.moved hvm (h7 a q).2.1, va_OF.moved hvm (h7 a q).2.2⟩, h8⟩
/-- what holds of every state of the run: the tables' words, classes, statics, strings -/
def strs : List (Nat × Nat × String × Nat) := [(1, 78, "all", 100), (9, 41, "some", 101), (9, 43, "an", 102), (9, 45, "a", 103), (10, 58, "no such address or form", 204), (10, 66, "the buffer is not a complete name", 205), (10, 74, "there are 20 persons", 206), (10, 94, "the buffer is not a complete word", 207), (10, 99, "there are 10 words", 208), (10, 110, "the buffer is not a complete letter", 209), (10, 134, "no such person", 210), (10, 137, "no such address", 211), (10, 145, "no such word", 212), (10, 160, "no such setting", 213), (10, 166, "the value is out of range", 214), (10, 172, "the letter has no items", 215), (10, 181, "no letter would be sent", 216), (10, 210, "days is not 1 to 100", 217), (10, 212, "the day would be above 10000", 218), (10, 214, "code is not 33 to 126", 219), (10, 216, "the buffer has 60 characters", 220), (10, 218, "kind is not 0 to 2", 221), (10, 232, "what is not 0 to 8", 222), (10, 257, "no such letter", 223), (10, 259, "what is not 0 to 7", 224), (10, 273, "no such letter or place", 225), (10, 289, "what is not 0 to 14", 226)]
def exc (i : Nat) : String := match i with
  | 0 => "java/lang/IllegalArgumentException" | 1 => "java/lang/IllegalStateException" | _ => "java/lang/IndexOutOfBoundsException"
def EV (D : va_G) (base : Nat) (z : P0) (U : State) (H : Heap) : Prop :=
  KW U ∧ va_K D vCl [] U ∧
  va_Z "HouseholdMail" "FIRST" "[I" (.ref (z.1 0)) (fun q => base ≤ q) U H ∧ va_Z "HouseholdMail" "LEAST" "[I" (.ref (z.1 1)) (fun q => base ≤ q) U H ∧ va_Z "HouseholdMail" "MOST" "[I" (.ref (z.1 2)) (fun q => base ≤ q) U H ∧
  va_Z "java/lang/String" "COMPACT_STRINGS" "Z" (.int 1) (fun q => base ≤ q) U H ∧ va_Z "jdk/internal/util/Preconditions" "SIOOBE_FORMATTER" "Ljava/util/function/BiFunction;" z.2 (fun q => base ≤ q) U H ∧
  vx_Zq Bundle.tN "UNASSIGNED_STACK" Bundle.steD (fun q => base ≤ q) U H ∧ vx_Zq Bundle.tN "SUPPRESSED_SENTINEL" Bundle.listD (fun q => base ≤ q) U H ∧
  (∀ q ∈ strs, vk_R (clsN q.1) q.2.1 q.2.2.1 (z.1 q.2.2.2) U) ∧
  (∀ i j, i < 3 → j < 3 → i ≠ j → va_Nc (exc i) (exc j) U) ∧
  (∀ C ∈ [RX2, RX7, RX8, RX9], va_AO C U) ∧ base ≤ H.size
theorem EV.moved {D : va_G} {base : Nat} {z : P0} {u U : State} {H : Heap} (hW : u.WarmedH U.vm) (h : EV D base z u H) : EV D base z U H := by
  obtain ⟨h1, h2, h3, h4, h5, h6, h7, h8, h9, h10, h11, h12, h13⟩ := h
  have hvm := hW.alike
  exact ⟨h1.warm hW, h2.moved hvm, h3.moved hvm, h4.moved hvm, h5.moved hvm, h6.moved hvm, h7.moved hvm, h8.moved hvm, h9.moved hvm, fun q hq => (h10 q hq).warm hW, fun i j a b c => (h11 i j a b c).moved hvm, fun C hC => (h12 C hC).moved hvm, h13⟩
theorem EV.kept {D : va_G} {base : Nat} {z : P0} {U : State} {H H1 : Heap} (h : EV D base z U H) (hq : ∀ a : Nat, a < base → H1[a]? = H[a]?) (hz : H.size ≤ H1.size) : EV D base z U H1 := by
  obtain ⟨h1, h2, h3, h4, h5, h6, h7, h8, h9, h10, h11, h12, h13⟩ := h
  have hk : ∀ a : Nat, a < H.size → ¬ base ≤ a → H1[a]? = H[a]? := fun a _ h => hq a (Nat.not_le.mp h)
  exact ⟨h1, h2, h3.kept hk, h4.kept hk, h5.kept hk, h6.kept hk, h7.kept hk, h8.kept hk, h9.kept hk, h10, h11, h12, Nat.le_trans h13 hz⟩
