/-! one cell changed, one cell made: what the memory and the heap do -/
theorem va_pl_at {D : va_G} {cl : List vw_C} {Lv : List Nat} {f : Nat → va_E} {H : Heap} (hP : va_P D cl (va_pl Lv f) H) {a : Nat} (ha : a ∈ Lv) : va_at D cl (a, f a) H := by
  obtain ⟨k, hk⟩ := va_pl_get (X := []) (f := f) ha
  exact hP k _ hk
theorem va_pl_D {A : Nat → Prop} {Lv : List Nat} {f g : Nat → va_E} (hD : va_D A (va_pl Lv f)) : va_D A (va_pl Lv g) := by
  have key : ∀ (k : Nat) (q : Nat × va_E), (va_pl Lv g)[k]? = some q → ∃ q0, (va_pl Lv f)[k]? = some q0 ∧ q0.1 = q.1 := by
    intro k q hk
    simp only [va_pl, List.getElem?_map, Option.map_eq_some_iff] at hk ⊢
    obtain ⟨x, hx, rfl⟩ := hk
    exact ⟨_, ⟨x, hx, rfl⟩, rfl⟩
  refine ⟨fun i j p q hi hj e => ?_, fun k q hk => ?_⟩
  · obtain ⟨p0, h1, h2⟩ := key i p hi
    obtain ⟨q0, h3, h4⟩ := key j q hj
    exact hD.1 i j p0 q0 h1 h3 (by rw [h2, h4]; exact e)
  · obtain ⟨q0, h1, h2⟩ := key k q hk
    rw [← h2]
    exact hD.2 k q0 h1
theorem va_pl_base {A : Nat → Prop} {Lv : List Nat} {f : Nat → va_E} (hD : va_D A (va_pl Lv f)) {a : Nat} (ha : a ∈ Lv) : A a := by
  obtain ⟨k, hk⟩ := va_pl_get (X := []) (f := f) ha
  exact hD.2 k _ hk
theorem va_pl_P {D : va_G} {cl : List vw_C} {Lv : List Nat} {f : Nat → va_E} {H : Heap} (h : ∀ a ∈ Lv, va_at D cl (a, f a) H) : va_P D cl (va_pl Lv f) H := by
  intro k q hk
  simp only [va_pl, List.getElem?_map, Option.map_eq_some_iff] at hk
  obtain ⟨x, hx, rfl⟩ := hk
  exact h x (List.mem_of_getElem? hx)
theorem celE_congr {cA : Nat → ClassId} {σ τ : Mem} {b : Nat} (h1 : τ.1 b = σ.1 b) (h2 : τ.2.1 b = σ.2.1 b) (h3 : τ.2.2.1 b = σ.2.2.1 b) (h4 : τ.2.2.2.1 b = σ.2.2.2.1 b) : celE cA τ b = celE cA σ b := by
  unfold celE
  rw [h1, h2, h3, h4]
/-- the heap as HR has it, with its list and array classes named -/
def HRw (D : va_G) (base : Nat) (σ : Mem) (U : State) (H : Heap) (Lv : List Nat) (cA : Nat → ClassId) : Prop :=
  (∀ a, a ∈ Lv ↔ live (σ.1 a).1) ∧
  va_P D vCl (va_pl Lv (celE cA σ)) H ∧
  va_D (fun q => base ≤ q) (va_pl Lv (celE cA σ)) ∧
  (∀ a, 20 ≤ (σ.1 a).1 → (σ.1 a).1 ≤ 25 → ArrOfT U (cA a) (arrTy (σ.1 a).1) ∧ va_RA U (cA a) (arrTy (σ.1 a).1)) ∧
  (∀ a, (σ.1 a).1 = 50 → va_T .int a (σ.1 a).2 (fun j => .int (σ.2.1 a j)) (fun q => base ≤ q) U H) ∧
  (∀ a, (σ.1 a).1 = 51 → va_T .byte a (σ.1 a).2 (fun j => .int (σ.2.1 a j)) (fun q => base ≤ q) U H) ∧
  (∀ a, (σ.1 a).1 = 52 → va_O "java/lang/String" a (fun q => base ≤ q) U H ∧ va_OF "java/lang/String" "coder" "B" (.int (σ.2.1 a 0)) a (fun q => base ≤ q) U H ∧ va_OF "java/lang/String" "value" "[B" (va_rf (σ.2.2.1 a 1)) a (fun q => base ≤ q) U H) ∧
  σ.2.2.2.2.1 ≤ H.size ∧
  (σ.2.2.2.2.2 = true → H.size = σ.2.2.2.2.1 ∧ ∀ a, σ.2.2.2.2.1 ≤ a → (σ.1 a).1 = 0 ∧ ∀ k, σ.2.1 a k = 0 ∧ σ.2.2.1 a k = none ∧ σ.2.2.2.1 a k = 0)
theorem HR_w {D : va_G} {base : Nat} {σ : Mem} {U : State} {H : Heap} : HR D base σ U H ↔ ∃ Lv cA, HRw D base σ U H Lv cA := Iff.rfl
theorem HRw.set {D : va_G} {base : Nat} {σ τ : Mem} {U : State} {H H1 : Heap} {Lv : List Nat} {cA : Nat → ClassId} (h : HRw D base σ U H Lv cA) {a : Nat} (ha : live (σ.1 a).1) (hK : τ.1 = σ.1)
    (hne : ∀ b, b ≠ a → τ.2.1 b = σ.2.1 b ∧ τ.2.2.1 b = σ.2.2.1 b ∧ τ.2.2.2.1 b = σ.2.2.2.1 b) (hsz : τ.2.2.2.2 = σ.2.2.2.2) (hat : va_at D vCl (a, celE cA τ a) H1) (hs : H1.size = H.size) (oq : ∀ q : Nat, q ≠ a → H1[q]? = H[q]?) : HR D base τ U H1 := by
  obtain ⟨h1, h2, h3, h4, h5, h6, h7, h8, h9⟩ := h
  have haL : a ∈ Lv := (h1 a).mpr ha
  have hba : base ≤ a := va_pl_base h3 haL
  have hal : a < H.size := (va_pl_at h2 haL).lt
  have hk : ∀ q : Nat, q < H.size → ¬ base ≤ q → H1[q]? = H[q]? := fun q _ hq => oq q fun e => hq (by rw [e]; exact hba)
  refine ⟨Lv, cA, fun b => by rw [hK]; exact h1 b, va_pl_P fun b hb => ?_, va_pl_D h3, fun b q1 q2 => ?_, fun b q => ?_, fun b q => ?_, fun b q => ?_, by rw [hsz, hs]; exact h8, fun hx => ?_⟩
  · by_cases hab : b = a
    · rw [hab]; exact hat
    · obtain ⟨e1, e2, e3⟩ := hne b hab
      rw [celE_congr (σ := σ) (by rw [hK]) e1 e2 e3]
      exact (va_pl_at h2 hb).kept (oq b hab)
  · rw [hK] at q1 q2 ⊢
    exact h4 b q1 q2
  · rw [hK] at q ⊢
    have hab : b ≠ a := fun e => by rw [← e, q] at ha; rcases ha with ⟨_, x⟩ | ⟨x, _⟩ <;> omega
    rw [(hne b hab).1]
    exact (h5 b q).kept hk
  · rw [hK] at q ⊢
    have hab : b ≠ a := fun e => by rw [← e, q] at ha; rcases ha with ⟨_, x⟩ | ⟨x, _⟩ <;> omega
    rw [(hne b hab).1]
    exact (h6 b q).kept hk
  · rw [hK] at q
    have hab : b ≠ a := fun e => by rw [← e, q] at ha; rcases ha with ⟨_, x⟩ | ⟨x, _⟩ <;> omega
    rw [(hne b hab).1, (hne b hab).2.1]
    exact ⟨(h7 b q).1.kept hk, (h7 b q).2.1.kept hk, (h7 b q).2.2.kept hk⟩
  · rw [hsz] at hx ⊢
    obtain ⟨e1, e2⟩ := h9 hx
    refine ⟨by rw [hs]; exact e1, fun b hb => ?_⟩
    have hab : b ≠ a := fun e => by omega
    rw [hK, (hne b hab).1, (hne b hab).2.1, (hne b hab).2.2]
    exact e2 b hb
/-- cells that come, of which the memory tells nothing (an exception) -/
theorem HR.grow {D : va_G} {base : Nat} {K : Nat → Nat × Nat} {I : Nat → Nat → Int32} {R : Nat → Nat → Option Nat} {L : Nat → Nat → Int64} {sz : Nat} {ex : Bool} {U : State} {H H1 : Heap} (h : HR D base (K, I, R, L, sz, ex) U H) (hs : H.size ≤ H1.size) (oq : ∀ q : Nat, q < H.size → H1[q]? = H[q]?) : HR D base (K, I, R, L, sz, false) U H1 := by
  obtain ⟨Lv, cA, h1, h2, h3, h4, h5, h6, h7, h8, h9⟩ := h
  have hk : ∀ q : Nat, q < H.size → ¬ base ≤ q → H1[q]? = H[q]? := fun q h _ => oq q h
  refine ⟨Lv, cA, h1, va_pl_P fun b hb => (va_pl_at h2 hb).kept (oq b (va_pl_at h2 hb).lt), va_pl_D h3, h4, fun b q => (h5 b q).kept hk, fun b q => (h6 b q).kept hk, fun b q => ⟨(h7 b q).1.kept hk, (h7 b q).2.1.kept hk, (h7 b q).2.2.kept hk⟩, Nat.le_trans h8 hs, fun hx => by cases hx⟩
/-- a cell that is made -/
theorem HRw.new {D : va_G} {base : Nat} {K : Nat → Nat × Nat} {I : Nat → Nat → Int32} {R : Nat → Nat → Option Nat} {L : Nat → Nat → Int64} {sz : Nat} {U : State} {H H1 : Heap} {Lv : List Nat} {cA : Nat → ClassId} (h : HRw D base (K, I, R, L, sz, true) U H Lv cA) (hb : base ≤ H.size) {t n : Nat} {c : ClassId} (ht : live t)
    (harr : 20 ≤ t → t ≤ 25 → ArrOfT U c (arrTy t) ∧ va_RA U c (arrTy t))
    (hat : va_at D vCl (sz, celE (fun q => if q = sz then c else cA q) (upK K sz (t, n), I, R, L, sz + 1, true) sz) H1) (hs : H1.size = H.size + 1) (oq : ∀ q : Nat, q < H.size → H1[q]? = H[q]?) : HR D base (upK K sz (t, n), I, R, L, sz + 1, true) U H1 := by
  obtain ⟨h1, h2, h3, h4, h5, h6, h7, h8, h9⟩ := h
  obtain ⟨e1, e2⟩ := h9 rfl
  dsimp only at e1 e2 h1 h4 h5 h6 h7 h8
  have hnl : ¬ live (K sz).1 := by
    rw [(e2 sz (Nat.le_refl _)).1]
    rintro (⟨x, _⟩ | ⟨x, _⟩) <;> omega
  have hnL : sz ∉ Lv := fun hm => hnl ((h1 sz).mp hm)
  have hk : ∀ q : Nat, q < H.size → ¬ base ≤ q → H1[q]? = H[q]? := fun q h _ => oq q h
  have hup : ∀ b, b ≠ sz → upK K sz (t, n) b = K b := fun b hb => by simp [upK, hb]
  have hups : upK K sz (t, n) sz = (t, n) := by simp [upK]
  refine ⟨Lv ++ [sz], fun q => if q = sz then c else cA q, fun b => ?_, va_pl_P fun b hb => ?_, ?_, fun b q1 q2 => ?_, fun b q => ?_, fun b q => ?_, fun b q => ?_, by show sz + 1 ≤ H1.size; omega, fun _ => ⟨by show H1.size = sz + 1; omega, fun b hb => ?_⟩⟩
  · show b ∈ Lv ++ [sz] ↔ live (upK K sz (t, n) b).1
    rw [List.mem_append, List.mem_singleton]
    by_cases hbs : b = sz
    · rw [hbs, hups]; exact ⟨fun _ => ht, fun _ => Or.inr rfl⟩
    · rw [hup b hbs]
      exact ⟨fun x => x.elim (h1 b).mp (fun x => absurd x hbs), fun x => Or.inl ((h1 b).mpr x)⟩
  · by_cases hbs : b = sz
    · rw [hbs]; exact hat
    · have hbL : b ∈ Lv := (List.mem_append.mp hb).elim id fun x => absurd (List.mem_singleton.mp x) hbs
      have e : celE (fun q => if q = sz then c else cA q) (upK K sz (t, n), I, R, L, sz + 1, true) b = celE cA (K, I, R, L, sz, true) b := by
        unfold celE
        simp only [hup b hbs, if_neg hbs]
      rw [e]
      exact (va_pl_at h2 hbL).kept (oq b (va_pl_at h2 hbL).lt)
  · have hg : va_pl (Lv ++ [sz]) (celE (fun q => if q = sz then c else cA q) (upK K sz (t, n), I, R, L, sz + 1, true)) = va_pl Lv (celE (fun q => if q = sz then c else cA q) (upK K sz (t, n), I, R, L, sz + 1, true)) ++ [(sz, celE (fun q => if q = sz then c else cA q) (upK K sz (t, n), I, R, L, sz + 1, true) sz)] := by simp [va_pl]
    rw [hg]
    refine va_D.app (va_pl_D h3) ⟨fun i j p q hi hj _ => ?_, fun k q hq => ?_⟩ fun i j p q hi hj => ?_
    · have := (List.getElem?_eq_some_iff.mp hi).1
      have := (List.getElem?_eq_some_iff.mp hj).1
      simp only [List.length_singleton] at *
      omega
    · have hk0 := (List.getElem?_eq_some_iff.mp hq).1
      simp only [List.length_singleton] at hk0
      obtain rfl : k = 0 := by omega
      cases hq
      show base ≤ sz
      omega
    · have hj0 := (List.getElem?_eq_some_iff.mp hj).1
      simp only [List.length_singleton] at hj0
      obtain rfl : j = 0 := by omega
      cases hj
      simp only [va_pl, List.getElem?_map, Option.map_eq_some_iff] at hi
      obtain ⟨x, hx, rfl⟩ := hi
      exact fun e => hnL (by rw [← show x = sz from e]; exact List.mem_of_getElem? hx)
  · dsimp only at q1 q2 ⊢
    by_cases hbs : b = sz
    · rw [hbs, hups] at q1 q2 ⊢
      rw [if_pos rfl]
      exact harr q1 q2
    · rw [hup b hbs] at q1 q2 ⊢
      rw [if_neg hbs]
      exact h4 b q1 q2
  · dsimp only at q ⊢
    have hbs : b ≠ sz := fun e => by rw [e, hups] at q; rcases ht with ⟨_, x⟩ | ⟨x, _⟩ <;> (dsimp only at q; omega)
    rw [hup b hbs] at q ⊢
    exact (h5 b q).kept hk
  · dsimp only at q ⊢
    have hbs : b ≠ sz := fun e => by rw [e, hups] at q; rcases ht with ⟨_, x⟩ | ⟨x, _⟩ <;> (dsimp only at q; omega)
    rw [hup b hbs] at q ⊢
    exact (h6 b q).kept hk
  · dsimp only at q ⊢
    have hbs : b ≠ sz := fun e => by rw [e, hups] at q; rcases ht with ⟨_, x⟩ | ⟨x, _⟩ <;> (dsimp only at q; omega)
    rw [hup b hbs] at q
    exact ⟨(h7 b q).1.kept hk, (h7 b q).2.1.kept hk, (h7 b q).2.2.kept hk⟩
  · dsimp only at hb ⊢
    rw [hup b (by omega)]
    exact e2 b (by omega)
theorem live_new {D : va_G} {base : Nat} {σ : Mem} {U : State} {H : Heap} (h : HR D base σ U H) {a : Nat} (ha : live (σ.1 a).1) : base ≤ a ∧ a < H.size := by
  obtain ⟨Lv, cA, h1, h2, h3, -⟩ := h
  exact ⟨va_pl_base h3 ((h1 a).mpr ha), (va_pl_at h2 ((h1 a).mpr ha)).lt⟩
theorem up2_ne {α : Type} {f : Nat → Nat → α} {a k b : Nat} {v : α} (h : b ≠ a) : up2 f a k v b = f b := funext fun j => by simp [up2, h]
theorem cpI_ne {f : Nat → Nat → Int32} {s sp d dp n b : Nat} (h : b ≠ d) : cpI f s sp d dp n b = f b := funext fun j => by simp [cpI, h]
theorem map_set {N b : Nat} {g : Nat → Value} {x : Value} : ((List.range N).map g).set b x = (List.range N).map (fun k => if k = b then x else g k) := by
  apply List.ext_getElem?
  intro j
  by_cases hj : j = b
  · subst hj
    by_cases hl : j < N
    · rw [List.getElem?_set_self (by simpa using hl)]
      simp [hl]
    · simp [hl]
  · rw [List.getElem?_set_ne (Ne.symm hj)]
    by_cases hl : j < N
    · simp [hl, hj]
    · simp [hl]
theorem lvS_at {A : Nat → Prop} {H0 H H1 : Heap} {locs : List Loc} {a k : Nat} (h : va_S A H0 H locs) (z : H1.size = H.size) (oq : ∀ q : Nat, q ≠ a → H1[q]? = H[q]?) (ha : A a) : va_S A H0 H1 (locs ++ [⟨a, k⟩]) := h.put z oq ha
