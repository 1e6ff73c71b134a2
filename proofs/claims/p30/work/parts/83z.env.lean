/-! THE ENVIRONMENT, once more: this law catches nothing, so that nothing is asked of exceptions that aren't each other's -/
def noHnd : Bool := mtab.all fun r => mi_hh r == []
def EW (D : va_G) (base : Nat) (z : P0) (U : State) (H : Heap) : Prop :=
  KW U ∧ va_K D vCl [] U ∧
  va_Z "HouseholdMail" "FIRST" "[I" (.ref (z.1 0)) (fun q => base ≤ q) U H ∧ va_Z "HouseholdMail" "LEAST" "[I" (.ref (z.1 1)) (fun q => base ≤ q) U H ∧ va_Z "HouseholdMail" "MOST" "[I" (.ref (z.1 2)) (fun q => base ≤ q) U H ∧
  va_Z "java/lang/String" "COMPACT_STRINGS" "Z" (.int 1) (fun q => base ≤ q) U H ∧ va_Z "jdk/internal/util/Preconditions" "SIOOBE_FORMATTER" "Ljava/util/function/BiFunction;" z.2 (fun q => base ≤ q) U H ∧
  vx_Zq Bundle.tN "UNASSIGNED_STACK" Bundle.steD (fun q => base ≤ q) U H ∧ vx_Zq Bundle.tN "SUPPRESSED_SENTINEL" Bundle.listD (fun q => base ≤ q) U H ∧
  (∀ q ∈ strs, vk_R (clsN q.1) q.2.1 q.2.2.1 (z.1 q.2.2.2) U) ∧
  (∀ i j, i < 3 → j < 3 → i ≠ j → noHnd = false → va_Nc (exc i) (exc j) U) ∧
  (∀ C ∈ [RX2, RX7, RX8, RX9], va_AO C U) ∧ base ≤ H.size
theorem EW.moved {D : va_G} {base : Nat} {z : P0} {u U : State} {H : Heap} (hW : u.WarmedH U.vm) (h : EW D base z u H) : EW D base z U H := by
  obtain ⟨h1, h2, h3, h4, h5, h6, h7, h8, h9, h10, h11, h12, h13⟩ := h
  have hvm := hW.alike
  exact ⟨h1.warm hW, h2.moved hvm, h3.moved hvm, h4.moved hvm, h5.moved hvm, h6.moved hvm, h7.moved hvm, h8.moved hvm, h9.moved hvm, fun q hq => (h10 q hq).warm hW, fun i j a b c d => (h11 i j a b c d).moved hvm, fun C hC => (h12 C hC).moved hvm, h13⟩
theorem EW.kept {D : va_G} {base : Nat} {z : P0} {U : State} {H H1 : Heap} (h : EW D base z U H) (hq : ∀ a : Nat, a < base → H1[a]? = H[a]?) (hz : H.size ≤ H1.size) : EW D base z U H1 := by
  obtain ⟨h1, h2, h3, h4, h5, h6, h7, h8, h9, h10, h11, h12, h13⟩ := h
  have hk : ∀ a : Nat, a < H.size → ¬ base ≤ a → H1[a]? = H[a]? := fun a _ h => hq a (Nat.not_le.mp h)
  exact ⟨h1, h2, h3.kept hk, h4.kept hk, h5.kept hk, h6.kept hk, h7.kept hk, h8.kept hk, h9.kept hk, h10, h11, h12, Nat.le_trans h13 hz⟩
