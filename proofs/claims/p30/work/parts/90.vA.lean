theorem br_ite {c A B : Prop} {d : Decidable c} : ((c → A) ∧ (¬ c → B)) = @ite Prop c d A B := by
  by_cases h : c
  · rw [if_pos h]; exact propext ⟨fun x => x.1 h, fun x => ⟨fun _ => x, fun y => absurd h y⟩⟩
  · rw [if_neg h]; exact propext ⟨fun x => x.2 h, fun x => ⟨fun y => absurd y h, fun _ => x⟩⟩
theorem br_ne {c A B : Prop} {d : Decidable c} : ((¬ c → A) ∧ (¬ ¬ c → B)) = @ite Prop c d B A := by
  by_cases h : c
  · rw [if_pos h]; exact propext ⟨fun x => x.2 (fun y => y h), fun x => ⟨fun y => absurd h y, fun _ => x⟩⟩
  · rw [if_neg h]; exact propext ⟨fun x => x.1 h, fun x => ⟨fun _ => x, fun y => absurd h y⟩⟩
theorem br_ge {u v : Int32} {A B : Prop} {d : Decidable (u < v)} : ((v ≤ u → A) ∧ (¬ v ≤ u → B)) = @ite Prop (u < v) d B A := by
  by_cases h : u < v
  · rw [if_pos h]; have h2 := Int32.not_le.mpr h; exact propext ⟨fun x => x.2 h2, fun x => ⟨fun y => absurd y h2, fun _ => x⟩⟩
  · rw [if_neg h]; have h2 := Int32.not_lt.mp h; exact propext ⟨fun x => x.1 h2, fun x => ⟨fun _ => x, fun y => absurd h2 y⟩⟩
theorem neg1 : nI 4294967295 = -1 := by decide +kernel
theorem one1 : nI 1 = 1 := by decide +kernel
theorem tsw_in {M : Nat → Option MI} {z : P0} {k : Cont} {n a b c m pc t : Nat} {ts : List Nat} {w : Int32} {q : Int64} {ls : Lcs} {st : List Value} {cu : Nat × Nat} {σ : Mem} {Q : Res → Mem → Prop} {d lo hi : Int} {of : Array Int} {x : Int32} {j : Nat} (h1 : ¬ x.toInt < lo) (h2 : ¬ hi < x.toInt) (h3 : (x.toInt - lo).toNat = j) (h4 : ts[j]? = some t) :
    XI M z k (.tableswitch d lo hi of, n, a, b, c, ts, w, q) m pc ls (.int x :: st) cu σ Q = k m t ls st cu σ Q := by
  obtain ⟨K, I, R, L, sz, ex⟩ := σ
  rw [i_tsw]
  refine propext ⟨fun h => ?_, fun h => Or.inr ⟨h1, h2, t, by rw [h3]; exact h4, h⟩⟩
  rcases h with ⟨h, -⟩ | ⟨-, -, t', g1, g2⟩
  · exact absurd h (fun x => x.elim h1 h2)
  · rw [h3, h4] at g1
    cases g1
    exact g2
theorem tsw_out {M : Nat → Option MI} {z : P0} {k : Cont} {n a b c m pc : Nat} {ts : List Nat} {w : Int32} {q : Int64} {ls : Lcs} {st : List Value} {cu : Nat × Nat} {σ : Mem} {Q : Res → Mem → Prop} {d lo hi : Int} {of : Array Int} {x : Int32} (h : x.toInt < lo ∨ hi < x.toInt) :
    XI M z k (.tableswitch d lo hi of, n, a, b, c, ts, w, q) m pc ls (.int x :: st) cu σ Q = k m a ls st cu σ Q := by
  obtain ⟨K, I, R, L, sz, ex⟩ := σ
  rw [i_tsw]
  refine propext ⟨fun g => ?_, fun g => Or.inl ⟨h, g⟩⟩
  rcases g with ⟨-, g⟩ | ⟨g1, g2, -⟩
  · exact g
  · exact absurd h (fun x => x.elim g1 g2)
theorem lsw_at {M : Nat → Option MI} {z : P0} {k : Cont} {n a b c m pc t : Nat} {ts : List Nat} {w : Int32} {q : Int64} {ls : Lcs} {st : List Value} {cu : Nat × Nat} {σ : Mem} {Q : Res → Mem → Prop} {d : Int} {ps : Array (Int × Int)} {x : Int32} (h : (pc : Int) + Op.lookupswitch.offset ps.toList d x.toInt = (t : Int)) :
    XI M z k (.lookupswitch d ps, n, a, b, c, ts, w, q) m pc ls (.int x :: st) cu σ Q = k m t ls st cu σ Q := by
  obtain ⟨K, I, R, L, sz, ex⟩ := σ
  rw [i_lsw]
  refine propext ⟨fun g => ?_, fun g => ⟨t, h, g⟩⟩
  obtain ⟨t', g1, g2⟩ := g
  rw [h] at g1
  cases Int.ofNat.inj g1
  exact g2
theorem v0_0 {z : P0} {st : List Value} {cu : Nat × Nat} {Q : Res → Mem → Prop} {σ : Mem} {u : Nat} : X z 0 0 [some (.ref u)] (st) cu σ Q = (X z 0 1 [some (.ref u)] (.ref u :: st) cu σ Q) := by
  rw [x0_0]
  rfl
theorem v0_1 {z : P0} {st : List Value} {cu : Nat × Nat} {Q : Res → Mem → Prop} {σ : Mem} {x0 : Option Value} {u : Nat} : X z 0 1 [x0] (.ref u :: st) cu σ Q = (wsum st ≤ 8 ∧ X z 0 4 [x0] (st) cu σ Q) := by
  rw [x0_1]
  exact propext ⟨fun h => h.2, fun h => ⟨rfl, h⟩⟩
theorem v0_4 {z : P0} {st : List Value} {cu : Nat × Nat} {Q : Res → Mem → Prop} {σ : Mem} {u : Nat} : X z 0 4 [some (.ref u)] (st) cu σ Q = (X z 0 5 [some (.ref u)] (.ref u :: st) cu σ Q) := by
  rw [x0_4]
  rfl
theorem v0_5 {z : P0} {st : List Value} {cu : Nat × Nat} {Q : Res → Mem → Prop} {σ : Mem} {x0 : Option Value} : X z 0 5 [x0] (st) cu σ Q = (X z 0 7 [x0] (.int (nI 60) :: st) cu σ Q) := by
  rw [x0_5]
  rfl
theorem v0_7 {z : P0} {st : List Value} {Q : Res → Mem → Prop} {K : Nat → Nat × Nat} {I : Nat → Nat → Int32} {R : Nat → Nat → Option Nat} {L : Nat → Nat → Int64} {sz : Nat} {ex : Bool} {x0 : Option Value} {c n : Nat} {v : Int32} : X z 0 7 [x0] (.int v :: st) (c, n) (K, I, R, L, sz, ex) Q = (ex = true ∧ ¬ v < 0 ∧ v.toNatClampNeg ≤ 3000 ∧ (c + 1 ≤ 1 ∧ n + v.toNatClampNeg ≤ 60) ∧ X z 0 9 [x0] (.ref sz :: st) (c + 1, n + v.toNatClampNeg) (upK K sz (20, v.toNatClampNeg), I, R, L, sz + 1, ex) Q) := by
  rw [x0_7]
  rfl
theorem v0_9 {z : P0} {st : List Value} {cu : Nat × Nat} {Q : Res → Mem → Prop} {K : Nat → Nat × Nat} {I : Nat → Nat → Int32} {R : Nat → Nat → Option Nat} {L : Nat → Nat → Int64} {sz : Nat} {ex : Bool} {x0 : Option Value} {u v : Nat} : X z 0 9 [x0] (.ref v :: .ref u :: st) cu (K, I, R, L, sz, ex) Q = ((K u).1 = 100 ∧ X z 0 12 [x0] (st) cu (K, I, up2 R u 0 (some v), L, sz, ex) Q) := by
  rw [x0_9]
  exact i_putA
theorem v0_12 {z : P0} {cu : Nat × Nat} {Q : Res → Mem → Prop} {σ : Mem} {x0 : Option Value} : X z 0 12 [x0] ([]) cu σ Q = (Q (.inl none) σ) := by
  rw [x0_12]
  rfl
theorem v1_0 {z : P0} {st : List Value} {cu : Nat × Nat} {Q : Res → Mem → Prop} {σ : Mem} {x0 x2 x3 : Option Value} {u : Int32} : X z 1 0 [x0, some (.int u), x2, x3] (st) cu σ Q = (X z 1 1 [x0, some (.int u), x2, x3] (.int u :: st) cu σ Q) := by
  rw [x1_0]
  rfl
theorem v1_1 {z : P0} {st : List Value} {cu : Nat × Nat} {Q : Res → Mem → Prop} {σ : Mem} {x0 x1 x2 x3 : Option Value} : X z 1 1 [x0, x1, x2, x3] (st) cu σ Q = (X z 1 2 [x0, x1, x2, x3] (.int (nI 2) :: st) cu σ Q) := by
  rw [x1_1]
  rfl
theorem v1_2 {z : P0} {st : List Value} {cu : Nat × Nat} {Q : Res → Mem → Prop} {σ : Mem} {x0 x1 x2 x3 : Option Value} {u v : Int32} : X z 1 2 [x0, x1, x2, x3] (.int v :: .int u :: st) cu σ Q = (if u = v then X z 1 20 [x0, x1, x2, x3] (st) cu σ Q else X z 1 5 [x0, x1, x2, x3] (st) cu σ Q) := by
  rw [x1_2]
  obtain ⟨K, I, R, L, sz, ex⟩ := σ
  exact br_ite
theorem v1_5 {z : P0} {st : List Value} {cu : Nat × Nat} {Q : Res → Mem → Prop} {σ : Mem} {x1 x2 x3 : Option Value} {u : Nat} : X z 1 5 [some (.ref u), x1, x2, x3] (st) cu σ Q = (X z 1 6 [some (.ref u), x1, x2, x3] (.ref u :: st) cu σ Q) := by
  rw [x1_5]
  rfl
theorem v1_6 {z : P0} {st : List Value} {cu : Nat × Nat} {Q : Res → Mem → Prop} {σ : Mem} {x0 x2 x3 : Option Value} {u : Int32} : X z 1 6 [x0, some (.int u), x2, x3] (st) cu σ Q = (X z 1 7 [x0, some (.int u), x2, x3] (.int u :: st) cu σ Q) := by
  rw [x1_6]
  rfl
theorem v1_7 {z : P0} {st : List Value} {cu : Nat × Nat} {Q : Res → Mem → Prop} {σ : Mem} {x0 x1 x2 x3 : Option Value} : X z 1 7 [x0, x1, x2, x3] (st) cu σ Q = (X z 1 8 [x0, x1, x2, x3] (.int (nI 1) :: st) cu σ Q) := by
  rw [x1_7]
  rfl
theorem v1_8 {z : P0} {st : List Value} {cu : Nat × Nat} {Q : Res → Mem → Prop} {σ : Mem} {x0 x1 x2 x3 : Option Value} {u v : Int32} : X z 1 8 [x0, x1, x2, x3] (.int v :: .int u :: st) cu σ Q = (if u = v then X z 1 11 [x0, x1, x2, x3] (st) cu σ Q else X z 1 15 [x0, x1, x2, x3] (st) cu σ Q) := by
  rw [x1_8]
  obtain ⟨K, I, R, L, sz, ex⟩ := σ
  exact br_ne
theorem v1_11 {z : P0} {st : List Value} {cu : Nat × Nat} {Q : Res → Mem → Prop} {σ : Mem} {x0 x1 x2 x3 : Option Value} : X z 1 11 [x0, x1, x2, x3] (st) cu σ Q = (X z 1 12 [x0, x1, x2, x3] (.int (nI 1) :: st) cu σ Q) := by
  rw [x1_11]
  rfl
theorem v1_12 {z : P0} {st : List Value} {cu : Nat × Nat} {Q : Res → Mem → Prop} {σ : Mem} {x0 x1 x2 x3 : Option Value} : X z 1 12 [x0, x1, x2, x3] (st) cu σ Q = (X z 1 16 [x0, x1, x2, x3] (st) cu σ Q) := by
  rw [x1_12]
  rfl
theorem v1_15 {z : P0} {st : List Value} {cu : Nat × Nat} {Q : Res → Mem → Prop} {σ : Mem} {x0 x1 x2 x3 : Option Value} : X z 1 15 [x0, x1, x2, x3] (st) cu σ Q = (X z 1 16 [x0, x1, x2, x3] (.int (nI 0) :: st) cu σ Q) := by
  rw [x1_15]
  rfl
theorem u1_16 {z : P0} {ls : Lcs} {st : List Value} {K : Nat → Nat × Nat} {I : Nat → Nat → Int32} {R : Nat → Nat → Option Nat} {L : Nat → Nat → Int64} {sz : Nat} {ex : Bool} {Q : Res → Mem → Prop} {x : Nat} {a0 : Int32} : X z 1 16 ls (.int a0 :: .ref x :: st) (0, 0) (K, I, R, L, sz, ex) Q = ((K x).1 = 100 ∧ wsum st ≤ 8 ∧ X z 3 0 [some (.ref x), some (.int a0), none] [] (0, 0) (K, I, R, L, sz, ex) (aftr (X z) mT 1 16 ls st (0, 0) Q)) := v1_16 (c := 0) (n := 0)
theorem v1_19 {z : P0} {cu : Nat × Nat} {Q : Res → Mem → Prop} {σ : Mem} {x0 x1 x2 x3 : Option Value} {v : Int32} : X z 1 19 [x0, x1, x2, x3] ([.int v]) cu σ Q = (Q (.inl (some (.int v))) σ) := by
  rw [x1_19]
  exact propext ⟨fun h => h.2, fun h => ⟨trivial, h⟩⟩
theorem v1_20 {z : P0} {st : List Value} {cu : Nat × Nat} {Q : Res → Mem → Prop} {σ : Mem} {x0 x1 x2 x3 : Option Value} : X z 1 20 [x0, x1, x2, x3] (st) cu σ Q = (X z 1 21 [x0, x1, x2, x3] (.int (nI 0) :: st) cu σ Q) := by
  rw [x1_20]
  rfl
theorem v1_21 {z : P0} {st : List Value} {cu : Nat × Nat} {Q : Res → Mem → Prop} {σ : Mem} {x0 x1 x2 x3 : Option Value} {u : Int32} : X z 1 21 [x0, x1, x2, x3] (.int u :: st) cu σ Q = (cat2 x1 = false ∧ X z 1 22 [x0, x1, some (.int u), x3] (st) cu σ Q) := by
  rw [x1_21]
  obtain ⟨K, I, R, L, sz, ex⟩ := σ
  exact i_istore_n.trans sl_2
theorem v1_22 {z : P0} {st : List Value} {cu : Nat × Nat} {Q : Res → Mem → Prop} {σ : Mem} {x0 x1 x2 x3 : Option Value} : X z 1 22 [x0, x1, x2, x3] (st) cu σ Q = (X z 1 23 [x0, x1, x2, x3] (.int (nI 0) :: st) cu σ Q) := by
  rw [x1_22]
  rfl
theorem v1_23 {z : P0} {st : List Value} {cu : Nat × Nat} {Q : Res → Mem → Prop} {σ : Mem} {x0 x1 x2 x3 : Option Value} {u : Int32} : X z 1 23 [x0, x1, x2, x3] (.int u :: st) cu σ Q = (cat2 x2 = false ∧ X z 1 24 [x0, x1, x2, some (.int u)] (st) cu σ Q) := by
  rw [x1_23]
  obtain ⟨K, I, R, L, sz, ex⟩ := σ
  exact i_istore_n.trans sl_3
theorem v1_24 {z : P0} {st : List Value} {cu : Nat × Nat} {Q : Res → Mem → Prop} {σ : Mem} {x0 x1 x2 : Option Value} {u : Int32} : X z 1 24 [x0, x1, x2, some (.int u)] (st) cu σ Q = (X z 1 25 [x0, x1, x2, some (.int u)] (.int u :: st) cu σ Q) := by
  rw [x1_24]
  rfl
theorem v1_25 {z : P0} {st : List Value} {cu : Nat × Nat} {Q : Res → Mem → Prop} {σ : Mem} {x1 x2 x3 : Option Value} {u : Nat} : X z 1 25 [some (.ref u), x1, x2, x3] (st) cu σ Q = (X z 1 26 [some (.ref u), x1, x2, x3] (.ref u :: st) cu σ Q) := by
  rw [x1_25]
  rfl
theorem v1_26 {z : P0} {st : List Value} {cu : Nat × Nat} {Q : Res → Mem → Prop} {K : Nat → Nat × Nat} {I : Nat → Nat → Int32} {R : Nat → Nat → Option Nat} {L : Nat → Nat → Int64} {sz : Nat} {ex : Bool} {x0 x1 x2 x3 : Option Value} {u : Nat} : X z 1 26 [x0, x1, x2, x3] (.ref u :: st) cu (K, I, R, L, sz, ex) Q = ((K u).1 = 100 ∧ X z 1 29 [x0, x1, x2, x3] (.int (I u 1) :: st) cu (K, I, R, L, sz, ex) Q) := by
  rw [x1_26]
  rfl
theorem v1_29 {z : P0} {st : List Value} {cu : Nat × Nat} {Q : Res → Mem → Prop} {σ : Mem} {x0 x1 x2 x3 : Option Value} {u v : Int32} : X z 1 29 [x0, x1, x2, x3] (.int v :: .int u :: st) cu σ Q = (if u < v then X z 1 32 [x0, x1, x2, x3] (st) cu σ Q else X z 1 57 [x0, x1, x2, x3] (st) cu σ Q) := by
  rw [x1_29]
  obtain ⟨K, I, R, L, sz, ex⟩ := σ
  exact br_ge
theorem v1_32 {z : P0} {st : List Value} {cu : Nat × Nat} {Q : Res → Mem → Prop} {σ : Mem} {x0 x1 x3 : Option Value} {u : Int32} : X z 1 32 [x0, x1, some (.int u), x3] (st) cu σ Q = (X z 1 33 [x0, x1, some (.int u), x3] (.int u :: st) cu σ Q) := by
  rw [x1_32]
  rfl
theorem v1_33 {z : P0} {st : List Value} {cu : Nat × Nat} {Q : Res → Mem → Prop} {σ : Mem} {x1 x2 x3 : Option Value} {u : Nat} : X z 1 33 [some (.ref u), x1, x2, x3] (st) cu σ Q = (X z 1 34 [some (.ref u), x1, x2, x3] (.ref u :: st) cu σ Q) := by
  rw [x1_33]
  rfl
theorem v1_34 {z : P0} {st : List Value} {cu : Nat × Nat} {Q : Res → Mem → Prop} {K : Nat → Nat × Nat} {I : Nat → Nat → Int32} {R : Nat → Nat → Option Nat} {L : Nat → Nat → Int64} {sz : Nat} {ex : Bool} {x0 x1 x2 x3 : Option Value} {u : Nat} : X z 1 34 [x0, x1, x2, x3] (.ref u :: st) cu (K, I, R, L, sz, ex) Q = ((K u).1 = 100 ∧ X z 1 37 [x0, x1, x2, x3] (va_rf (R u 0) :: st) cu (K, I, R, L, sz, ex) Q) := by
  rw [x1_34]
  rfl
theorem v1_37 {z : P0} {st : List Value} {cu : Nat × Nat} {Q : Res → Mem → Prop} {σ : Mem} {x0 x1 x2 : Option Value} {u : Int32} : X z 1 37 [x0, x1, x2, some (.int u)] (st) cu σ Q = (X z 1 38 [x0, x1, x2, some (.int u)] (.int u :: st) cu σ Q) := by
  rw [x1_37]
  rfl
theorem v1_38 {z : P0} {st : List Value} {cu : Nat × Nat} {Q : Res → Mem → Prop} {K : Nat → Nat × Nat} {I : Nat → Nat → Int32} {R : Nat → Nat → Option Nat} {L : Nat → Nat → Int64} {sz : Nat} {ex : Bool} {x0 x1 x2 x3 : Option Value} {u : Nat} {v : Int32} : X z 1 38 [x0, x1, x2, x3] (.int v :: .ref u :: st) cu (K, I, R, L, sz, ex) Q = (((K u).1 = 20 ∨ (K u).1 = 50) ∧ vp_in v (K u).2 ∧ X z 1 39 [x0, x1, x2, x3] (.int (I u v.toNatClampNeg) :: st) cu (K, I, R, L, sz, ex) Q) := by
  rw [x1_38]
  rfl
theorem u1_39 {z : P0} {ls : Lcs} {st : List Value} {K : Nat → Nat × Nat} {I : Nat → Nat → Int32} {R : Nat → Nat → Option Nat} {L : Nat → Nat → Int64} {sz : Nat} {ex : Bool} {Q : Res → Mem → Prop} {a0 : Int32} {a1 : Int32} : X z 1 39 ls (.int a1 :: .int a0 :: st) (0, 0) (K, I, R, L, sz, ex) Q = (wsum st ≤ 8 ∧ X z 4 0 [some (.int a0), some (.int a1)] [] (0, 0) (K, I, R, L, sz, ex) (aftr (X z) mT 1 39 ls st (0, 0) Q)) := v1_39 (c := 0) (n := 0)
theorem v1_42 {z : P0} {st : List Value} {cu : Nat × Nat} {Q : Res → Mem → Prop} {σ : Mem} {x0 x1 x2 x3 : Option Value} {u : Int32} : X z 1 42 [x0, x1, x2, x3] (.int u :: st) cu σ Q = (cat2 x1 = false ∧ X z 1 43 [x0, x1, some (.int u), x3] (st) cu σ Q) := by
  rw [x1_42]
  obtain ⟨K, I, R, L, sz, ex⟩ := σ
  exact i_istore_n.trans sl_2
theorem v1_43 {z : P0} {st : List Value} {cu : Nat × Nat} {Q : Res → Mem → Prop} {σ : Mem} {x0 x1 x3 : Option Value} {u : Int32} : X z 1 43 [x0, x1, some (.int u), x3] (st) cu σ Q = (X z 1 44 [x0, x1, some (.int u), x3] (.int u :: st) cu σ Q) := by
  rw [x1_43]
  rfl
theorem v1_44 {z : P0} {st : List Value} {cu : Nat × Nat} {Q : Res → Mem → Prop} {σ : Mem} {x0 x1 x2 x3 : Option Value} : X z 1 44 [x0, x1, x2, x3] (st) cu σ Q = (X z 1 46 [x0, x1, x2, x3] (.int (nI 7) :: st) cu σ Q) := by
  rw [x1_44]
  rfl
theorem v1_46 {z : P0} {st : List Value} {cu : Nat × Nat} {Q : Res → Mem → Prop} {σ : Mem} {x0 x1 x2 x3 : Option Value} {u v : Int32} : X z 1 46 [x0, x1, x2, x3] (.int v :: .int u :: st) cu σ Q = (if u = v then X z 1 49 [x0, x1, x2, x3] (st) cu σ Q else X z 1 51 [x0, x1, x2, x3] (st) cu σ Q) := by
  rw [x1_46]
  obtain ⟨K, I, R, L, sz, ex⟩ := σ
  exact br_ne
theorem v1_49 {z : P0} {st : List Value} {cu : Nat × Nat} {Q : Res → Mem → Prop} {σ : Mem} {x0 x1 x2 : Option Value} {u : Int32} : X z 1 49 [x0, x1, x2, some (.int u)] (st) cu σ Q = (X z 1 50 [x0, x1, x2, some (.int u)] (.int u :: st) cu σ Q) := by
  rw [x1_49]
  rfl
theorem v1_50 {z : P0} {cu : Nat × Nat} {Q : Res → Mem → Prop} {σ : Mem} {x0 x1 x2 x3 : Option Value} {v : Int32} : X z 1 50 [x0, x1, x2, x3] ([.int v]) cu σ Q = (Q (.inl (some (.int v))) σ) := by
  rw [x1_50]
  exact propext ⟨fun h => h.2, fun h => ⟨trivial, h⟩⟩
theorem v1_51 {z : P0} {st : List Value} {cu : Nat × Nat} {Q : Res → Mem → Prop} {σ : Mem} {x0 x1 x2 : Option Value} {u : Int32} : X z 1 51 [x0, x1, x2, some (.int u)] (st) cu σ Q = (cat2 x2 = false ∧ X z 1 54 [x0, x1, x2, some (.int (u + nI 1))] (st) cu σ Q) := by
  rw [x1_51]
  obtain ⟨K, I, R, L, sz, ex⟩ := σ
  exact i_iinc.trans (gl_3.trans (ldI_i.trans sl_3))
theorem v1_54 {z : P0} {st : List Value} {cu : Nat × Nat} {Q : Res → Mem → Prop} {σ : Mem} {x0 x1 x2 x3 : Option Value} : X z 1 54 [x0, x1, x2, x3] (st) cu σ Q = (X z 1 24 [x0, x1, x2, x3] (st) cu σ Q) := by
  rw [x1_54]
  rfl
theorem v1_57 {z : P0} {st : List Value} {cu : Nat × Nat} {Q : Res → Mem → Prop} {σ : Mem} {x1 x2 x3 : Option Value} {u : Nat} : X z 1 57 [some (.ref u), x1, x2, x3] (st) cu σ Q = (X z 1 58 [some (.ref u), x1, x2, x3] (.ref u :: st) cu σ Q) := by
  rw [x1_57]
  rfl
theorem v1_58 {z : P0} {st : List Value} {cu : Nat × Nat} {Q : Res → Mem → Prop} {K : Nat → Nat × Nat} {I : Nat → Nat → Int32} {R : Nat → Nat → Option Nat} {L : Nat → Nat → Int64} {sz : Nat} {ex : Bool} {x0 x1 x2 x3 : Option Value} {u : Nat} : X z 1 58 [x0, x1, x2, x3] (.ref u :: st) cu (K, I, R, L, sz, ex) Q = ((K u).1 = 100 ∧ X z 1 61 [x0, x1, x2, x3] (.int (I u 1) :: st) cu (K, I, R, L, sz, ex) Q) := by
  rw [x1_58]
  rfl
theorem v1_61 {z : P0} {cu : Nat × Nat} {Q : Res → Mem → Prop} {σ : Mem} {x0 x1 x2 x3 : Option Value} {v : Int32} : X z 1 61 [x0, x1, x2, x3] ([.int v]) cu σ Q = (Q (.inl (some (.int v))) σ) := by
  rw [x1_61]
  exact propext ⟨fun h => h.2, fun h => ⟨trivial, h⟩⟩
theorem v2_0 {z : P0} {st : List Value} {cu : Nat × Nat} {Q : Res → Mem → Prop} {σ : Mem} {x1 x2 x3 : Option Value} {u : Nat} : X z 2 0 [some (.ref u), x1, x2, x3] (st) cu σ Q = (X z 2 1 [some (.ref u), x1, x2, x3] (.ref u :: st) cu σ Q) := by
  rw [x2_0]
  rfl
theorem v2_1 {z : P0} {st : List Value} {cu : Nat × Nat} {Q : Res → Mem → Prop} {K : Nat → Nat × Nat} {I : Nat → Nat → Int32} {R : Nat → Nat → Option Nat} {L : Nat → Nat → Int64} {sz : Nat} {ex : Bool} {x0 x1 x2 x3 : Option Value} {u : Nat} : X z 2 1 [x0, x1, x2, x3] (.ref u :: st) cu (K, I, R, L, sz, ex) Q = ((K u).1 = 100 ∧ X z 2 4 [x0, x1, x2, x3] (.int (I u 1) :: st) cu (K, I, R, L, sz, ex) Q) := by
  rw [x2_1]
  rfl
theorem v2_4 {z : P0} {st : List Value} {cu : Nat × Nat} {Q : Res → Mem → Prop} {σ : Mem} {x0 x1 x2 x3 : Option Value} {u : Int32} : X z 2 4 [x0, x1, x2, x3] (.int u :: st) cu σ Q = (if u = nI 0 then X z 2 7 [x0, x1, x2, x3] (st) cu σ Q else X z 2 9 [x0, x1, x2, x3] (st) cu σ Q) := by
  rw [x2_4]
  rw [nI_0]
  obtain ⟨K, I, R, L, sz, ex⟩ := σ
  exact br_ne
theorem v2_7 {z : P0} {st : List Value} {cu : Nat × Nat} {Q : Res → Mem → Prop} {σ : Mem} {x0 x1 x2 x3 : Option Value} : X z 2 7 [x0, x1, x2, x3] (st) cu σ Q = (X z 2 8 [x0, x1, x2, x3] (.int (nI 0) :: st) cu σ Q) := by
  rw [x2_7]
  rfl
theorem v2_8 {z : P0} {cu : Nat × Nat} {Q : Res → Mem → Prop} {σ : Mem} {x0 x1 x2 x3 : Option Value} {v : Int32} : X z 2 8 [x0, x1, x2, x3] ([.int v]) cu σ Q = ((v = nI 0 ∨ v = nI 1) ∧ Q (.inl (some (.int v))) σ) := by
  rw [x2_8]
  rw [nI_0, one1]
  rfl
theorem v2_9 {z : P0} {st : List Value} {cu : Nat × Nat} {Q : Res → Mem → Prop} {σ : Mem} {x0 x2 x3 : Option Value} {u : Int32} : X z 2 9 [x0, some (.int u), x2, x3] (st) cu σ Q = (X z 2 10 [x0, some (.int u), x2, x3] (.int u :: st) cu σ Q) := by
  rw [x2_9]
  rfl
theorem v2_10 {z : P0} {st : List Value} {cu : Nat × Nat} {Q : Res → Mem → Prop} {σ : Mem} {x0 x1 x2 x3 : Option Value} : X z 2 10 [x0, x1, x2, x3] (st) cu σ Q = (X z 2 11 [x0, x1, x2, x3] (.int (nI 2) :: st) cu σ Q) := by
  rw [x2_10]
  rfl
theorem v2_11 {z : P0} {st : List Value} {cu : Nat × Nat} {Q : Res → Mem → Prop} {σ : Mem} {x0 x1 x2 x3 : Option Value} {u v : Int32} : X z 2 11 [x0, x1, x2, x3] (.int v :: .int u :: st) cu σ Q = (if u = v then X z 2 41 [x0, x1, x2, x3] (st) cu σ Q else X z 2 14 [x0, x1, x2, x3] (st) cu σ Q) := by
  rw [x2_11]
  obtain ⟨K, I, R, L, sz, ex⟩ := σ
  exact br_ite
theorem v2_14 {z : P0} {st : List Value} {cu : Nat × Nat} {Q : Res → Mem → Prop} {σ : Mem} {x1 x2 x3 : Option Value} {u : Nat} : X z 2 14 [some (.ref u), x1, x2, x3] (st) cu σ Q = (X z 2 15 [some (.ref u), x1, x2, x3] (.ref u :: st) cu σ Q) := by
  rw [x2_14]
  rfl
theorem v2_15 {z : P0} {st : List Value} {cu : Nat × Nat} {Q : Res → Mem → Prop} {σ : Mem} {x0 x2 x3 : Option Value} {u : Int32} : X z 2 15 [x0, some (.int u), x2, x3] (st) cu σ Q = (X z 2 16 [x0, some (.int u), x2, x3] (.int u :: st) cu σ Q) := by
  rw [x2_15]
  rfl
theorem v2_16 {z : P0} {st : List Value} {cu : Nat × Nat} {Q : Res → Mem → Prop} {σ : Mem} {x0 x1 x2 x3 : Option Value} : X z 2 16 [x0, x1, x2, x3] (st) cu σ Q = (X z 2 17 [x0, x1, x2, x3] (.int (nI 1) :: st) cu σ Q) := by
  rw [x2_16]
  rfl
theorem v2_17 {z : P0} {st : List Value} {cu : Nat × Nat} {Q : Res → Mem → Prop} {σ : Mem} {x0 x1 x2 x3 : Option Value} {u v : Int32} : X z 2 17 [x0, x1, x2, x3] (.int v :: .int u :: st) cu σ Q = (if u = v then X z 2 20 [x0, x1, x2, x3] (st) cu σ Q else X z 2 24 [x0, x1, x2, x3] (st) cu σ Q) := by
  rw [x2_17]
  obtain ⟨K, I, R, L, sz, ex⟩ := σ
  exact br_ne
theorem v2_20 {z : P0} {st : List Value} {cu : Nat × Nat} {Q : Res → Mem → Prop} {σ : Mem} {x0 x1 x2 x3 : Option Value} : X z 2 20 [x0, x1, x2, x3] (st) cu σ Q = (X z 2 21 [x0, x1, x2, x3] (.int (nI 1) :: st) cu σ Q) := by
  rw [x2_20]
  rfl
theorem v2_21 {z : P0} {st : List Value} {cu : Nat × Nat} {Q : Res → Mem → Prop} {σ : Mem} {x0 x1 x2 x3 : Option Value} : X z 2 21 [x0, x1, x2, x3] (st) cu σ Q = (X z 2 25 [x0, x1, x2, x3] (st) cu σ Q) := by
  rw [x2_21]
  rfl
theorem v2_24 {z : P0} {st : List Value} {cu : Nat × Nat} {Q : Res → Mem → Prop} {σ : Mem} {x0 x1 x2 x3 : Option Value} : X z 2 24 [x0, x1, x2, x3] (st) cu σ Q = (X z 2 25 [x0, x1, x2, x3] (.int (nI 0) :: st) cu σ Q) := by
  rw [x2_24]
  rfl
theorem u2_25 {z : P0} {ls : Lcs} {st : List Value} {K : Nat → Nat × Nat} {I : Nat → Nat → Int32} {R : Nat → Nat → Option Nat} {L : Nat → Nat → Int64} {sz : Nat} {ex : Bool} {Q : Res → Mem → Prop} {x : Nat} {a0 : Int32} : X z 2 25 ls (.int a0 :: .ref x :: st) (0, 0) (K, I, R, L, sz, ex) Q = ((K x).1 = 100 ∧ wsum st ≤ 8 ∧ X z 3 0 [some (.ref x), some (.int a0), none] [] (0, 0) (K, I, R, L, sz, ex) (aftr (X z) mT 2 25 ls st (0, 0) Q)) := v2_25 (c := 0) (n := 0)
theorem v2_28 {z : P0} {st : List Value} {cu : Nat × Nat} {Q : Res → Mem → Prop} {σ : Mem} {x1 x2 x3 : Option Value} {u : Nat} : X z 2 28 [some (.ref u), x1, x2, x3] (st) cu σ Q = (X z 2 29 [some (.ref u), x1, x2, x3] (.ref u :: st) cu σ Q) := by
  rw [x2_28]
  rfl
theorem v2_29 {z : P0} {st : List Value} {cu : Nat × Nat} {Q : Res → Mem → Prop} {K : Nat → Nat × Nat} {I : Nat → Nat → Int32} {R : Nat → Nat → Option Nat} {L : Nat → Nat → Int64} {sz : Nat} {ex : Bool} {x0 x1 x2 x3 : Option Value} {u : Nat} : X z 2 29 [x0, x1, x2, x3] (.ref u :: st) cu (K, I, R, L, sz, ex) Q = ((K u).1 = 100 ∧ X z 2 32 [x0, x1, x2, x3] (.int (I u 1) :: st) cu (K, I, R, L, sz, ex) Q) := by
  rw [x2_29]
  rfl
theorem v2_32 {z : P0} {st : List Value} {cu : Nat × Nat} {Q : Res → Mem → Prop} {σ : Mem} {x0 x1 x2 x3 : Option Value} {u v : Int32} : X z 2 32 [x0, x1, x2, x3] (.int v :: .int u :: st) cu σ Q = (if u = v then X z 2 35 [x0, x1, x2, x3] (st) cu σ Q else X z 2 39 [x0, x1, x2, x3] (st) cu σ Q) := by
  rw [x2_32]
  obtain ⟨K, I, R, L, sz, ex⟩ := σ
  exact br_ne
theorem v2_35 {z : P0} {st : List Value} {cu : Nat × Nat} {Q : Res → Mem → Prop} {σ : Mem} {x0 x1 x2 x3 : Option Value} : X z 2 35 [x0, x1, x2, x3] (st) cu σ Q = (X z 2 36 [x0, x1, x2, x3] (.int (nI 1) :: st) cu σ Q) := by
  rw [x2_35]
  rfl
theorem v2_36 {z : P0} {st : List Value} {cu : Nat × Nat} {Q : Res → Mem → Prop} {σ : Mem} {x0 x1 x2 x3 : Option Value} : X z 2 36 [x0, x1, x2, x3] (st) cu σ Q = (X z 2 40 [x0, x1, x2, x3] (st) cu σ Q) := by
  rw [x2_36]
  rfl
theorem v2_39 {z : P0} {st : List Value} {cu : Nat × Nat} {Q : Res → Mem → Prop} {σ : Mem} {x0 x1 x2 x3 : Option Value} : X z 2 39 [x0, x1, x2, x3] (st) cu σ Q = (X z 2 40 [x0, x1, x2, x3] (.int (nI 0) :: st) cu σ Q) := by
  rw [x2_39]
  rfl
theorem v2_40 {z : P0} {cu : Nat × Nat} {Q : Res → Mem → Prop} {σ : Mem} {x0 x1 x2 x3 : Option Value} {v : Int32} : X z 2 40 [x0, x1, x2, x3] ([.int v]) cu σ Q = ((v = nI 0 ∨ v = nI 1) ∧ Q (.inl (some (.int v))) σ) := by
  rw [x2_40]
  rw [nI_0, one1]
  rfl
theorem v2_41 {z : P0} {st : List Value} {cu : Nat × Nat} {Q : Res → Mem → Prop} {σ : Mem} {x0 x1 x2 x3 : Option Value} : X z 2 41 [x0, x1, x2, x3] (st) cu σ Q = (X z 2 42 [x0, x1, x2, x3] (.int (nI 0) :: st) cu σ Q) := by
  rw [x2_41]
  rfl
theorem v2_42 {z : P0} {st : List Value} {cu : Nat × Nat} {Q : Res → Mem → Prop} {σ : Mem} {x0 x1 x2 x3 : Option Value} {u : Int32} : X z 2 42 [x0, x1, x2, x3] (.int u :: st) cu σ Q = (cat2 x1 = false ∧ X z 2 43 [x0, x1, some (.int u), x3] (st) cu σ Q) := by
  rw [x2_42]
  obtain ⟨K, I, R, L, sz, ex⟩ := σ
  exact i_istore_n.trans sl_2
theorem v2_43 {z : P0} {st : List Value} {cu : Nat × Nat} {Q : Res → Mem → Prop} {σ : Mem} {x0 x1 x2 x3 : Option Value} : X z 2 43 [x0, x1, x2, x3] (st) cu σ Q = (X z 2 44 [x0, x1, x2, x3] (.int (nI 0) :: st) cu σ Q) := by
  rw [x2_43]
  rfl
theorem v2_44 {z : P0} {st : List Value} {cu : Nat × Nat} {Q : Res → Mem → Prop} {σ : Mem} {x0 x1 x2 x3 : Option Value} {u : Int32} : X z 2 44 [x0, x1, x2, x3] (.int u :: st) cu σ Q = (cat2 x2 = false ∧ X z 2 45 [x0, x1, x2, some (.int u)] (st) cu σ Q) := by
  rw [x2_44]
  obtain ⟨K, I, R, L, sz, ex⟩ := σ
  exact i_istore_n.trans sl_3
theorem v2_45 {z : P0} {st : List Value} {cu : Nat × Nat} {Q : Res → Mem → Prop} {σ : Mem} {x0 x1 x2 : Option Value} {u : Int32} : X z 2 45 [x0, x1, x2, some (.int u)] (st) cu σ Q = (X z 2 46 [x0, x1, x2, some (.int u)] (.int u :: st) cu σ Q) := by
  rw [x2_45]
  rfl
theorem v2_46 {z : P0} {st : List Value} {cu : Nat × Nat} {Q : Res → Mem → Prop} {σ : Mem} {x1 x2 x3 : Option Value} {u : Nat} : X z 2 46 [some (.ref u), x1, x2, x3] (st) cu σ Q = (X z 2 47 [some (.ref u), x1, x2, x3] (.ref u :: st) cu σ Q) := by
  rw [x2_46]
  rfl
theorem v2_47 {z : P0} {st : List Value} {cu : Nat × Nat} {Q : Res → Mem → Prop} {K : Nat → Nat × Nat} {I : Nat → Nat → Int32} {R : Nat → Nat → Option Nat} {L : Nat → Nat → Int64} {sz : Nat} {ex : Bool} {x0 x1 x2 x3 : Option Value} {u : Nat} : X z 2 47 [x0, x1, x2, x3] (.ref u :: st) cu (K, I, R, L, sz, ex) Q = ((K u).1 = 100 ∧ X z 2 50 [x0, x1, x2, x3] (.int (I u 1) :: st) cu (K, I, R, L, sz, ex) Q) := by
  rw [x2_47]
  rfl
theorem v2_50 {z : P0} {st : List Value} {cu : Nat × Nat} {Q : Res → Mem → Prop} {σ : Mem} {x0 x1 x2 x3 : Option Value} {u v : Int32} : X z 2 50 [x0, x1, x2, x3] (.int v :: .int u :: st) cu σ Q = (if u < v then X z 2 53 [x0, x1, x2, x3] (st) cu σ Q else X z 2 70 [x0, x1, x2, x3] (st) cu σ Q) := by
  rw [x2_50]
  obtain ⟨K, I, R, L, sz, ex⟩ := σ
  exact br_ge
theorem v2_53 {z : P0} {st : List Value} {cu : Nat × Nat} {Q : Res → Mem → Prop} {σ : Mem} {x0 x1 x3 : Option Value} {u : Int32} : X z 2 53 [x0, x1, some (.int u), x3] (st) cu σ Q = (X z 2 54 [x0, x1, some (.int u), x3] (.int u :: st) cu σ Q) := by
  rw [x2_53]
  rfl
theorem v2_54 {z : P0} {st : List Value} {cu : Nat × Nat} {Q : Res → Mem → Prop} {σ : Mem} {x1 x2 x3 : Option Value} {u : Nat} : X z 2 54 [some (.ref u), x1, x2, x3] (st) cu σ Q = (X z 2 55 [some (.ref u), x1, x2, x3] (.ref u :: st) cu σ Q) := by
  rw [x2_54]
  rfl
theorem v2_55 {z : P0} {st : List Value} {cu : Nat × Nat} {Q : Res → Mem → Prop} {K : Nat → Nat × Nat} {I : Nat → Nat → Int32} {R : Nat → Nat → Option Nat} {L : Nat → Nat → Int64} {sz : Nat} {ex : Bool} {x0 x1 x2 x3 : Option Value} {u : Nat} : X z 2 55 [x0, x1, x2, x3] (.ref u :: st) cu (K, I, R, L, sz, ex) Q = ((K u).1 = 100 ∧ X z 2 58 [x0, x1, x2, x3] (va_rf (R u 0) :: st) cu (K, I, R, L, sz, ex) Q) := by
  rw [x2_55]
  rfl
theorem v2_58 {z : P0} {st : List Value} {cu : Nat × Nat} {Q : Res → Mem → Prop} {σ : Mem} {x0 x1 x2 : Option Value} {u : Int32} : X z 2 58 [x0, x1, x2, some (.int u)] (st) cu σ Q = (X z 2 59 [x0, x1, x2, some (.int u)] (.int u :: st) cu σ Q) := by
  rw [x2_58]
  rfl
theorem v2_59 {z : P0} {st : List Value} {cu : Nat × Nat} {Q : Res → Mem → Prop} {K : Nat → Nat × Nat} {I : Nat → Nat → Int32} {R : Nat → Nat → Option Nat} {L : Nat → Nat → Int64} {sz : Nat} {ex : Bool} {x0 x1 x2 x3 : Option Value} {u : Nat} {v : Int32} : X z 2 59 [x0, x1, x2, x3] (.int v :: .ref u :: st) cu (K, I, R, L, sz, ex) Q = (((K u).1 = 20 ∨ (K u).1 = 50) ∧ vp_in v (K u).2 ∧ X z 2 60 [x0, x1, x2, x3] (.int (I u v.toNatClampNeg) :: st) cu (K, I, R, L, sz, ex) Q) := by
  rw [x2_59]
  rfl
theorem u2_60 {z : P0} {ls : Lcs} {st : List Value} {K : Nat → Nat × Nat} {I : Nat → Nat → Int32} {R : Nat → Nat → Option Nat} {L : Nat → Nat → Int64} {sz : Nat} {ex : Bool} {Q : Res → Mem → Prop} {a0 : Int32} {a1 : Int32} : X z 2 60 ls (.int a1 :: .int a0 :: st) (0, 0) (K, I, R, L, sz, ex) Q = (wsum st ≤ 8 ∧ X z 4 0 [some (.int a0), some (.int a1)] [] (0, 0) (K, I, R, L, sz, ex) (aftr (X z) mT 2 60 ls st (0, 0) Q)) := v2_60 (c := 0) (n := 0)
theorem v2_63 {z : P0} {st : List Value} {cu : Nat × Nat} {Q : Res → Mem → Prop} {σ : Mem} {x0 x1 x2 x3 : Option Value} {u : Int32} : X z 2 63 [x0, x1, x2, x3] (.int u :: st) cu σ Q = (cat2 x1 = false ∧ X z 2 64 [x0, x1, some (.int u), x3] (st) cu σ Q) := by
  rw [x2_63]
  obtain ⟨K, I, R, L, sz, ex⟩ := σ
  exact i_istore_n.trans sl_2
theorem v2_64 {z : P0} {st : List Value} {cu : Nat × Nat} {Q : Res → Mem → Prop} {σ : Mem} {x0 x1 x2 : Option Value} {u : Int32} : X z 2 64 [x0, x1, x2, some (.int u)] (st) cu σ Q = (cat2 x2 = false ∧ X z 2 67 [x0, x1, x2, some (.int (u + nI 1))] (st) cu σ Q) := by
  rw [x2_64]
  obtain ⟨K, I, R, L, sz, ex⟩ := σ
  exact i_iinc.trans (gl_3.trans (ldI_i.trans sl_3))
theorem v2_67 {z : P0} {st : List Value} {cu : Nat × Nat} {Q : Res → Mem → Prop} {σ : Mem} {x0 x1 x2 x3 : Option Value} : X z 2 67 [x0, x1, x2, x3] (st) cu σ Q = (X z 2 45 [x0, x1, x2, x3] (st) cu σ Q) := by
  rw [x2_67]
  rfl
theorem v2_70 {z : P0} {st : List Value} {cu : Nat × Nat} {Q : Res → Mem → Prop} {σ : Mem} {x0 x1 x3 : Option Value} {u : Int32} : X z 2 70 [x0, x1, some (.int u), x3] (st) cu σ Q = (X z 2 71 [x0, x1, some (.int u), x3] (.int u :: st) cu σ Q) := by
  rw [x2_70]
  rfl
theorem v2_71 {z : P0} {st : List Value} {cu : Nat × Nat} {Q : Res → Mem → Prop} {σ : Mem} {x0 x1 x2 x3 : Option Value} {u : Int32} : X z 2 71 [x0, x1, x2, x3] (.int u :: st) cu σ Q = (if u = nI 0 then X z 2 74 [x0, x1, x2, x3] (st) cu σ Q else X z 2 78 [x0, x1, x2, x3] (st) cu σ Q) := by
  rw [x2_71]
  rw [nI_0]
  obtain ⟨K, I, R, L, sz, ex⟩ := σ
  exact br_ne
theorem v2_74 {z : P0} {st : List Value} {cu : Nat × Nat} {Q : Res → Mem → Prop} {σ : Mem} {x0 x1 x2 x3 : Option Value} : X z 2 74 [x0, x1, x2, x3] (st) cu σ Q = (X z 2 75 [x0, x1, x2, x3] (.int (nI 1) :: st) cu σ Q) := by
  rw [x2_74]
  rfl
theorem v2_75 {z : P0} {st : List Value} {cu : Nat × Nat} {Q : Res → Mem → Prop} {σ : Mem} {x0 x1 x2 x3 : Option Value} : X z 2 75 [x0, x1, x2, x3] (st) cu σ Q = (X z 2 79 [x0, x1, x2, x3] (st) cu σ Q) := by
  rw [x2_75]
  rfl
theorem v2_78 {z : P0} {st : List Value} {cu : Nat × Nat} {Q : Res → Mem → Prop} {σ : Mem} {x0 x1 x2 x3 : Option Value} : X z 2 78 [x0, x1, x2, x3] (st) cu σ Q = (X z 2 79 [x0, x1, x2, x3] (.int (nI 0) :: st) cu σ Q) := by
  rw [x2_78]
  rfl
theorem v2_79 {z : P0} {cu : Nat × Nat} {Q : Res → Mem → Prop} {σ : Mem} {x0 x1 x2 x3 : Option Value} {v : Int32} : X z 2 79 [x0, x1, x2, x3] ([.int v]) cu σ Q = ((v = nI 0 ∨ v = nI 1) ∧ Q (.inl (some (.int v))) σ) := by
  rw [x2_79]
  rw [nI_0, one1]
  rfl
theorem v3_0 {z : P0} {st : List Value} {cu : Nat × Nat} {Q : Res → Mem → Prop} {σ : Mem} {x0 x1 x2 : Option Value} : X z 3 0 [x0, x1, x2] (st) cu σ Q = (X z 3 1 [x0, x1, x2] (.int (nI 0) :: st) cu σ Q) := by
  rw [x3_0]
  rfl
theorem v3_1 {z : P0} {st : List Value} {cu : Nat × Nat} {Q : Res → Mem → Prop} {σ : Mem} {x0 x1 x2 : Option Value} {u : Int32} : X z 3 1 [x0, x1, x2] (.int u :: st) cu σ Q = (cat2 x1 = false ∧ X z 3 2 [x0, x1, some (.int u)] (st) cu σ Q) := by
  rw [x3_1]
  obtain ⟨K, I, R, L, sz, ex⟩ := σ
  exact i_istore_n.trans sl_2
theorem v3_2 {z : P0} {st : List Value} {cu : Nat × Nat} {Q : Res → Mem → Prop} {σ : Mem} {x0 x1 : Option Value} {u : Int32} : X z 3 2 [x0, x1, some (.int u)] (st) cu σ Q = (X z 3 3 [x0, x1, some (.int u)] (.int u :: st) cu σ Q) := by
  rw [x3_2]
  rfl
theorem v3_3 {z : P0} {st : List Value} {cu : Nat × Nat} {Q : Res → Mem → Prop} {σ : Mem} {x1 x2 : Option Value} {u : Nat} : X z 3 3 [some (.ref u), x1, x2] (st) cu σ Q = (X z 3 4 [some (.ref u), x1, x2] (.ref u :: st) cu σ Q) := by
  rw [x3_3]
  rfl
theorem v3_4 {z : P0} {st : List Value} {cu : Nat × Nat} {Q : Res → Mem → Prop} {K : Nat → Nat × Nat} {I : Nat → Nat → Int32} {R : Nat → Nat → Option Nat} {L : Nat → Nat → Int64} {sz : Nat} {ex : Bool} {x0 x1 x2 : Option Value} {u : Nat} : X z 3 4 [x0, x1, x2] (.ref u :: st) cu (K, I, R, L, sz, ex) Q = ((K u).1 = 100 ∧ X z 3 7 [x0, x1, x2] (.int (I u 1) :: st) cu (K, I, R, L, sz, ex) Q) := by
  rw [x3_4]
  rfl
theorem v3_7 {z : P0} {st : List Value} {cu : Nat × Nat} {Q : Res → Mem → Prop} {σ : Mem} {x0 x1 x2 : Option Value} {u v : Int32} : X z 3 7 [x0, x1, x2] (.int v :: .int u :: st) cu σ Q = (if u < v then X z 3 10 [x0, x1, x2] (st) cu σ Q else X z 3 34 [x0, x1, x2] (st) cu σ Q) := by
  rw [x3_7]
  obtain ⟨K, I, R, L, sz, ex⟩ := σ
  exact br_ge
theorem v3_10 {z : P0} {st : List Value} {cu : Nat × Nat} {Q : Res → Mem → Prop} {σ : Mem} {x0 x1 : Option Value} {u : Int32} : X z 3 10 [x0, x1, some (.int u)] (st) cu σ Q = (X z 3 11 [x0, x1, some (.int u)] (.int u :: st) cu σ Q) := by
  rw [x3_10]
  rfl
theorem v3_11 {z : P0} {st : List Value} {cu : Nat × Nat} {Q : Res → Mem → Prop} {σ : Mem} {x0 x1 x2 : Option Value} : X z 3 11 [x0, x1, x2] (st) cu σ Q = (X z 3 13 [x0, x1, x2] (.int (nI 8) :: st) cu σ Q) := by
  rw [x3_11]
  rfl
theorem v3_13 {z : P0} {st : List Value} {cu : Nat × Nat} {Q : Res → Mem → Prop} {σ : Mem} {x0 x1 x2 : Option Value} {u v : Int32} : X z 3 13 [x0, x1, x2] (.int v :: .int u :: st) cu σ Q = (if u < v then X z 3 16 [x0, x1, x2] (st) cu σ Q else X z 3 34 [x0, x1, x2] (st) cu σ Q) := by
  rw [x3_13]
  obtain ⟨K, I, R, L, sz, ex⟩ := σ
  exact br_ge
theorem v3_16 {z : P0} {st : List Value} {cu : Nat × Nat} {Q : Res → Mem → Prop} {σ : Mem} {x1 x2 : Option Value} {u : Nat} : X z 3 16 [some (.ref u), x1, x2] (st) cu σ Q = (X z 3 17 [some (.ref u), x1, x2] (.ref u :: st) cu σ Q) := by
  rw [x3_16]
  rfl
theorem v3_17 {z : P0} {st : List Value} {cu : Nat × Nat} {Q : Res → Mem → Prop} {K : Nat → Nat × Nat} {I : Nat → Nat → Int32} {R : Nat → Nat → Option Nat} {L : Nat → Nat → Int64} {sz : Nat} {ex : Bool} {x0 x1 x2 : Option Value} {u : Nat} : X z 3 17 [x0, x1, x2] (.ref u :: st) cu (K, I, R, L, sz, ex) Q = ((K u).1 = 100 ∧ X z 3 20 [x0, x1, x2] (va_rf (R u 0) :: st) cu (K, I, R, L, sz, ex) Q) := by
  rw [x3_17]
  rfl
theorem v3_20 {z : P0} {st : List Value} {cu : Nat × Nat} {Q : Res → Mem → Prop} {σ : Mem} {x0 x1 : Option Value} {u : Int32} : X z 3 20 [x0, x1, some (.int u)] (st) cu σ Q = (X z 3 21 [x0, x1, some (.int u)] (.int u :: st) cu σ Q) := by
  rw [x3_20]
  rfl
theorem v3_21 {z : P0} {st : List Value} {cu : Nat × Nat} {Q : Res → Mem → Prop} {K : Nat → Nat × Nat} {I : Nat → Nat → Int32} {R : Nat → Nat → Option Nat} {L : Nat → Nat → Int64} {sz : Nat} {ex : Bool} {x0 x1 x2 : Option Value} {u : Nat} {v : Int32} : X z 3 21 [x0, x1, x2] (.int v :: .ref u :: st) cu (K, I, R, L, sz, ex) Q = (((K u).1 = 20 ∨ (K u).1 = 50) ∧ vp_in v (K u).2 ∧ X z 3 22 [x0, x1, x2] (.int (I u v.toNatClampNeg) :: st) cu (K, I, R, L, sz, ex) Q) := by
  rw [x3_21]
  rfl
theorem u3_22 {z : P0} {ls : Lcs} {st : List Value} {K : Nat → Nat × Nat} {I : Nat → Nat → Int32} {R : Nat → Nat → Option Nat} {L : Nat → Nat → Int64} {sz : Nat} {ex : Bool} {Q : Res → Mem → Prop} {a0 : Int32} : X z 3 22 ls (.int a0 :: st) (0, 0) (K, I, R, L, sz, ex) Q = (wsum st ≤ 8 ∧ X z 88 0 [some (.int a0)] [] (0, 0) (K, I, R, L, sz, ex) (aftr (X z) mT 3 22 ls st (0, 0) Q)) := v3_22 (c := 0) (n := 0)
theorem v3_25 {z : P0} {st : List Value} {cu : Nat × Nat} {Q : Res → Mem → Prop} {σ : Mem} {x0 x1 x2 : Option Value} {u : Int32} : X z 3 25 [x0, x1, x2] (.int u :: st) cu σ Q = (if u = nI 0 then X z 3 34 [x0, x1, x2] (st) cu σ Q else X z 3 28 [x0, x1, x2] (st) cu σ Q) := by
  rw [x3_25]
  rw [nI_0]
  obtain ⟨K, I, R, L, sz, ex⟩ := σ
  exact br_ite
theorem v3_28 {z : P0} {st : List Value} {cu : Nat × Nat} {Q : Res → Mem → Prop} {σ : Mem} {x0 x1 : Option Value} {u : Int32} : X z 3 28 [x0, x1, some (.int u)] (st) cu σ Q = (cat2 x1 = false ∧ X z 3 31 [x0, x1, some (.int (u + nI 1))] (st) cu σ Q) := by
  rw [x3_28]
  obtain ⟨K, I, R, L, sz, ex⟩ := σ
  exact i_iinc.trans (gl_2.trans (ldI_i.trans sl_2))
theorem v3_31 {z : P0} {st : List Value} {cu : Nat × Nat} {Q : Res → Mem → Prop} {σ : Mem} {x0 x1 x2 : Option Value} : X z 3 31 [x0, x1, x2] (st) cu σ Q = (X z 3 2 [x0, x1, x2] (st) cu σ Q) := by
  rw [x3_31]
  rfl
theorem v3_34 {z : P0} {st : List Value} {cu : Nat × Nat} {Q : Res → Mem → Prop} {σ : Mem} {x0 x2 : Option Value} {u : Int32} : X z 3 34 [x0, some (.int u), x2] (st) cu σ Q = (X z 3 35 [x0, some (.int u), x2] (.int u :: st) cu σ Q) := by
  rw [x3_34]
  rfl
theorem v3_35 {z : P0} {st : List Value} {cu : Nat × Nat} {Q : Res → Mem → Prop} {σ : Mem} {x0 x1 x2 : Option Value} {u : Int32} : X z 3 35 [x0, x1, x2] (.int u :: st) cu σ Q = (if u = nI 0 then X z 3 64 [x0, x1, x2] (st) cu σ Q else X z 3 38 [x0, x1, x2] (st) cu σ Q) := by
  rw [x3_35]
  rw [nI_0]
  obtain ⟨K, I, R, L, sz, ex⟩ := σ
  exact br_ite
theorem v3_38 {z : P0} {st : List Value} {cu : Nat × Nat} {Q : Res → Mem → Prop} {σ : Mem} {x0 x1 : Option Value} {u : Int32} : X z 3 38 [x0, x1, some (.int u)] (st) cu σ Q = (X z 3 39 [x0, x1, some (.int u)] (.int u :: st) cu σ Q) := by
  rw [x3_38]
  rfl
theorem v3_39 {z : P0} {st : List Value} {cu : Nat × Nat} {Q : Res → Mem → Prop} {σ : Mem} {x0 x1 x2 : Option Value} {u : Int32} : X z 3 39 [x0, x1, x2] (.int u :: st) cu σ Q = (if nI 0 < u then X z 3 42 [x0, x1, x2] (st) cu σ Q else X z 3 64 [x0, x1, x2] (st) cu σ Q) := by
  rw [x3_39]
  rw [nI_0]
  obtain ⟨K, I, R, L, sz, ex⟩ := σ
  exact br_ge
theorem v3_42 {z : P0} {st : List Value} {cu : Nat × Nat} {Q : Res → Mem → Prop} {σ : Mem} {x0 x1 : Option Value} {u : Int32} : X z 3 42 [x0, x1, some (.int u)] (st) cu σ Q = (X z 3 43 [x0, x1, some (.int u)] (.int u :: st) cu σ Q) := by
  rw [x3_42]
  rfl
theorem v3_43 {z : P0} {st : List Value} {cu : Nat × Nat} {Q : Res → Mem → Prop} {σ : Mem} {x1 x2 : Option Value} {u : Nat} : X z 3 43 [some (.ref u), x1, x2] (st) cu σ Q = (X z 3 44 [some (.ref u), x1, x2] (.ref u :: st) cu σ Q) := by
  rw [x3_43]
  rfl
theorem v3_44 {z : P0} {st : List Value} {cu : Nat × Nat} {Q : Res → Mem → Prop} {K : Nat → Nat × Nat} {I : Nat → Nat → Int32} {R : Nat → Nat → Option Nat} {L : Nat → Nat → Int64} {sz : Nat} {ex : Bool} {x0 x1 x2 : Option Value} {u : Nat} : X z 3 44 [x0, x1, x2] (.ref u :: st) cu (K, I, R, L, sz, ex) Q = ((K u).1 = 100 ∧ X z 3 47 [x0, x1, x2] (.int (I u 1) :: st) cu (K, I, R, L, sz, ex) Q) := by
  rw [x3_44]
  rfl
theorem v3_47 {z : P0} {st : List Value} {cu : Nat × Nat} {Q : Res → Mem → Prop} {σ : Mem} {x0 x1 x2 : Option Value} {u v : Int32} : X z 3 47 [x0, x1, x2] (.int v :: .int u :: st) cu σ Q = (if u < v then X z 3 50 [x0, x1, x2] (st) cu σ Q else X z 3 64 [x0, x1, x2] (st) cu σ Q) := by
  rw [x3_47]
  obtain ⟨K, I, R, L, sz, ex⟩ := σ
  exact br_ge
theorem v3_50 {z : P0} {st : List Value} {cu : Nat × Nat} {Q : Res → Mem → Prop} {σ : Mem} {x1 x2 : Option Value} {u : Nat} : X z 3 50 [some (.ref u), x1, x2] (st) cu σ Q = (X z 3 51 [some (.ref u), x1, x2] (.ref u :: st) cu σ Q) := by
  rw [x3_50]
  rfl
theorem v3_51 {z : P0} {st : List Value} {cu : Nat × Nat} {Q : Res → Mem → Prop} {K : Nat → Nat × Nat} {I : Nat → Nat → Int32} {R : Nat → Nat → Option Nat} {L : Nat → Nat → Int64} {sz : Nat} {ex : Bool} {x0 x1 x2 : Option Value} {u : Nat} : X z 3 51 [x0, x1, x2] (.ref u :: st) cu (K, I, R, L, sz, ex) Q = ((K u).1 = 100 ∧ X z 3 54 [x0, x1, x2] (va_rf (R u 0) :: st) cu (K, I, R, L, sz, ex) Q) := by
  rw [x3_51]
  rfl
theorem v3_54 {z : P0} {st : List Value} {cu : Nat × Nat} {Q : Res → Mem → Prop} {σ : Mem} {x0 x1 : Option Value} {u : Int32} : X z 3 54 [x0, x1, some (.int u)] (st) cu σ Q = (X z 3 55 [x0, x1, some (.int u)] (.int u :: st) cu σ Q) := by
  rw [x3_54]
  rfl
theorem v3_55 {z : P0} {st : List Value} {cu : Nat × Nat} {Q : Res → Mem → Prop} {K : Nat → Nat × Nat} {I : Nat → Nat → Int32} {R : Nat → Nat → Option Nat} {L : Nat → Nat → Int64} {sz : Nat} {ex : Bool} {x0 x1 x2 : Option Value} {u : Nat} {v : Int32} : X z 3 55 [x0, x1, x2] (.int v :: .ref u :: st) cu (K, I, R, L, sz, ex) Q = (((K u).1 = 20 ∨ (K u).1 = 50) ∧ vp_in v (K u).2 ∧ X z 3 56 [x0, x1, x2] (.int (I u v.toNatClampNeg) :: st) cu (K, I, R, L, sz, ex) Q) := by
  rw [x3_55]
  rfl
theorem v3_56 {z : P0} {st : List Value} {cu : Nat × Nat} {Q : Res → Mem → Prop} {σ : Mem} {x0 x1 x2 : Option Value} : X z 3 56 [x0, x1, x2] (st) cu σ Q = (X z 3 58 [x0, x1, x2] (.int (nI 42) :: st) cu σ Q) := by
  rw [x3_56]
  rfl
theorem v3_58 {z : P0} {st : List Value} {cu : Nat × Nat} {Q : Res → Mem → Prop} {σ : Mem} {x0 x1 x2 : Option Value} {u v : Int32} : X z 3 58 [x0, x1, x2] (.int v :: .int u :: st) cu σ Q = (if u = v then X z 3 61 [x0, x1, x2] (st) cu σ Q else X z 3 64 [x0, x1, x2] (st) cu σ Q) := by
  rw [x3_58]
  obtain ⟨K, I, R, L, sz, ex⟩ := σ
  exact br_ne
theorem v3_61 {z : P0} {st : List Value} {cu : Nat × Nat} {Q : Res → Mem → Prop} {σ : Mem} {x0 x1 : Option Value} {u : Int32} : X z 3 61 [x0, x1, some (.int u)] (st) cu σ Q = (cat2 x1 = false ∧ X z 3 64 [x0, x1, some (.int (u + nI 1))] (st) cu σ Q) := by
  rw [x3_61]
  obtain ⟨K, I, R, L, sz, ex⟩ := σ
  exact i_iinc.trans (gl_2.trans (ldI_i.trans sl_2))
theorem v3_64 {z : P0} {st : List Value} {cu : Nat × Nat} {Q : Res → Mem → Prop} {σ : Mem} {x0 x1 : Option Value} {u : Int32} : X z 3 64 [x0, x1, some (.int u)] (st) cu σ Q = (X z 3 65 [x0, x1, some (.int u)] (.int u :: st) cu σ Q) := by
  rw [x3_64]
  rfl
theorem v3_65 {z : P0} {cu : Nat × Nat} {Q : Res → Mem → Prop} {σ : Mem} {x0 x1 x2 : Option Value} {v : Int32} : X z 3 65 [x0, x1, x2] ([.int v]) cu σ Q = (Q (.inl (some (.int v))) σ) := by
  rw [x3_65]
  exact propext ⟨fun h => h.2, fun h => ⟨trivial, h⟩⟩
theorem v4_0 {z : P0} {st : List Value} {cu : Nat × Nat} {Q : Res → Mem → Prop} {σ : Mem} {x1 : Option Value} {u : Int32} : X z 4 0 [some (.int u), x1] (st) cu σ Q = (X z 4 1 [some (.int u), x1] (.int u :: st) cu σ Q) := by
  rw [x4_0]
  rfl
theorem w4_1_0 {z : P0} {st : List Value} {cu : Nat × Nat} {Q : Res → Mem → Prop} {σ : Mem} {x0 x1 : Option Value} : X z 4 1 [x0, x1] (.int (nI 0) :: st) cu σ Q = (X z 4 99 [x0, x1] (st) cu σ Q) := by
  rw [x4_1]
  exact tsw_in (j := 0) (by decide) (by decide) (by decide) rfl
theorem w4_1_1 {z : P0} {st : List Value} {cu : Nat × Nat} {Q : Res → Mem → Prop} {σ : Mem} {x0 x1 : Option Value} : X z 4 1 [x0, x1] (.int (nI 1) :: st) cu σ Q = (X z 4 104 [x0, x1] (st) cu σ Q) := by
  rw [x4_1]
  exact tsw_in (j := 1) (by decide) (by decide) (by decide) rfl
theorem w4_1_2 {z : P0} {st : List Value} {cu : Nat × Nat} {Q : Res → Mem → Prop} {σ : Mem} {x0 x1 : Option Value} : X z 4 1 [x0, x1] (.int (nI 2) :: st) cu σ Q = (X z 4 109 [x0, x1] (st) cu σ Q) := by
  rw [x4_1]
  exact tsw_in (j := 2) (by decide) (by decide) (by decide) rfl
theorem w4_1_3 {z : P0} {st : List Value} {cu : Nat × Nat} {Q : Res → Mem → Prop} {σ : Mem} {x0 x1 : Option Value} : X z 4 1 [x0, x1] (.int (nI 3) :: st) cu σ Q = (X z 4 44 [x0, x1] (st) cu σ Q) := by
  rw [x4_1]
  exact tsw_in (j := 3) (by decide) (by decide) (by decide) rfl
theorem w4_1_4 {z : P0} {st : List Value} {cu : Nat × Nat} {Q : Res → Mem → Prop} {σ : Mem} {x0 x1 : Option Value} : X z 4 1 [x0, x1] (.int (nI 4) :: st) cu σ Q = (X z 4 73 [x0, x1] (st) cu σ Q) := by
  rw [x4_1]
  exact tsw_in (j := 4) (by decide) (by decide) (by decide) rfl
theorem w4_1_5 {z : P0} {st : List Value} {cu : Nat × Nat} {Q : Res → Mem → Prop} {σ : Mem} {x0 x1 : Option Value} : X z 4 1 [x0, x1] (.int (nI 5) :: st) cu σ Q = (X z 4 58 [x0, x1] (st) cu σ Q) := by
  rw [x4_1]
  exact tsw_in (j := 5) (by decide) (by decide) (by decide) rfl
theorem w4_1_6 {z : P0} {st : List Value} {cu : Nat × Nat} {Q : Res → Mem → Prop} {σ : Mem} {x0 x1 : Option Value} : X z 4 1 [x0, x1] (.int (nI 6) :: st) cu σ Q = (X z 4 86 [x0, x1] (st) cu σ Q) := by
  rw [x4_1]
  exact tsw_in (j := 6) (by decide) (by decide) (by decide) rfl
theorem w4_1_d {z : P0} {st : List Value} {cu : Nat × Nat} {Q : Res → Mem → Prop} {σ : Mem} {x0 x1 : Option Value} {j : Nat} (h : 6 < j ∧ j < 2147483648) : X z 4 1 [x0, x1] (.int (nI j) :: st) cu σ Q = (X z 4 124 [x0, x1] (st) cu σ Q) := by
  rw [x4_1]
  exact tsw_out (Or.inr (by rw [nI_toInt h.2]; omega))
theorem v4_44 {z : P0} {st : List Value} {cu : Nat × Nat} {Q : Res → Mem → Prop} {σ : Mem} {x0 : Option Value} {u : Int32} : X z 4 44 [x0, some (.int u)] (st) cu σ Q = (X z 4 45 [x0, some (.int u)] (.int u :: st) cu σ Q) := by
  rw [x4_44]
  rfl
theorem u4_45 {z : P0} {ls : Lcs} {st : List Value} {K : Nat → Nat × Nat} {I : Nat → Nat → Int32} {R : Nat → Nat → Option Nat} {L : Nat → Nat → Int64} {sz : Nat} {ex : Bool} {Q : Res → Mem → Prop} {a0 : Int32} : X z 4 45 ls (.int a0 :: st) (0, 0) (K, I, R, L, sz, ex) Q = (wsum st ≤ 8 ∧ X z 7 0 [some (.int a0)] [] (0, 0) (K, I, R, L, sz, ex) (aftr (X z) mT 4 45 ls st (0, 0) Q)) := v4_45 (c := 0) (n := 0)
theorem v4_48 {z : P0} {st : List Value} {cu : Nat × Nat} {Q : Res → Mem → Prop} {σ : Mem} {x0 x1 : Option Value} {u : Int32} : X z 4 48 [x0, x1] (.int u :: st) cu σ Q = (if u = nI 0 then X z 4 55 [x0, x1] (st) cu σ Q else X z 4 51 [x0, x1] (st) cu σ Q) := by
  rw [x4_48]
  rw [nI_0]
  obtain ⟨K, I, R, L, sz, ex⟩ := σ
  exact br_ite
theorem v4_51 {z : P0} {st : List Value} {cu : Nat × Nat} {Q : Res → Mem → Prop} {σ : Mem} {x0 x1 : Option Value} : X z 4 51 [x0, x1] (st) cu σ Q = (X z 4 52 [x0, x1] (.int (nI 4) :: st) cu σ Q) := by
  rw [x4_51]
  rfl
theorem v4_52 {z : P0} {st : List Value} {cu : Nat × Nat} {Q : Res → Mem → Prop} {σ : Mem} {x0 x1 : Option Value} : X z 4 52 [x0, x1] (st) cu σ Q = (X z 4 57 [x0, x1] (st) cu σ Q) := by
  rw [x4_52]
  rfl
theorem v4_55 {z : P0} {st : List Value} {cu : Nat × Nat} {Q : Res → Mem → Prop} {σ : Mem} {x0 x1 : Option Value} : X z 4 55 [x0, x1] (st) cu σ Q = (X z 4 57 [x0, x1] (.int (nI 7) :: st) cu σ Q) := by
  rw [x4_55]
  rfl
theorem v4_57 {z : P0} {cu : Nat × Nat} {Q : Res → Mem → Prop} {σ : Mem} {x0 x1 : Option Value} {v : Int32} : X z 4 57 [x0, x1] ([.int v]) cu σ Q = (Q (.inl (some (.int v))) σ) := by
  rw [x4_57]
  exact propext ⟨fun h => h.2, fun h => ⟨trivial, h⟩⟩
theorem v4_58 {z : P0} {st : List Value} {cu : Nat × Nat} {Q : Res → Mem → Prop} {σ : Mem} {x0 : Option Value} {u : Int32} : X z 4 58 [x0, some (.int u)] (st) cu σ Q = (X z 4 59 [x0, some (.int u)] (.int u :: st) cu σ Q) := by
  rw [x4_58]
  rfl
theorem u4_59 {z : P0} {ls : Lcs} {st : List Value} {K : Nat → Nat × Nat} {I : Nat → Nat → Int32} {R : Nat → Nat → Option Nat} {L : Nat → Nat → Int64} {sz : Nat} {ex : Bool} {Q : Res → Mem → Prop} {a0 : Int32} : X z 4 59 ls (.int a0 :: st) (0, 0) (K, I, R, L, sz, ex) Q = (wsum st ≤ 8 ∧ X z 7 0 [some (.int a0)] [] (0, 0) (K, I, R, L, sz, ex) (aftr (X z) mT 4 59 ls st (0, 0) Q)) := v4_59 (c := 0) (n := 0)
theorem v4_62 {z : P0} {st : List Value} {cu : Nat × Nat} {Q : Res → Mem → Prop} {σ : Mem} {x0 x1 : Option Value} {u : Int32} : X z 4 62 [x0, x1] (.int u :: st) cu σ Q = (if u = nI 0 then X z 4 70 [x0, x1] (st) cu σ Q else X z 4 65 [x0, x1] (st) cu σ Q) := by
  rw [x4_62]
  rw [nI_0]
  obtain ⟨K, I, R, L, sz, ex⟩ := σ
  exact br_ite
theorem v4_65 {z : P0} {st : List Value} {cu : Nat × Nat} {Q : Res → Mem → Prop} {σ : Mem} {x0 x1 : Option Value} : X z 4 65 [x0, x1] (st) cu σ Q = (X z 4 67 [x0, x1] (.int (nI 6) :: st) cu σ Q) := by
  rw [x4_65]
  rfl
theorem v4_67 {z : P0} {st : List Value} {cu : Nat × Nat} {Q : Res → Mem → Prop} {σ : Mem} {x0 x1 : Option Value} : X z 4 67 [x0, x1] (st) cu σ Q = (X z 4 72 [x0, x1] (st) cu σ Q) := by
  rw [x4_67]
  rfl
theorem v4_70 {z : P0} {st : List Value} {cu : Nat × Nat} {Q : Res → Mem → Prop} {σ : Mem} {x0 x1 : Option Value} : X z 4 70 [x0, x1] (st) cu σ Q = (X z 4 72 [x0, x1] (.int (nI 7) :: st) cu σ Q) := by
  rw [x4_70]
  rfl
theorem v4_72 {z : P0} {cu : Nat × Nat} {Q : Res → Mem → Prop} {σ : Mem} {x0 x1 : Option Value} {v : Int32} : X z 4 72 [x0, x1] ([.int v]) cu σ Q = (Q (.inl (some (.int v))) σ) := by
  rw [x4_72]
  exact propext ⟨fun h => h.2, fun h => ⟨trivial, h⟩⟩
theorem v4_73 {z : P0} {st : List Value} {cu : Nat × Nat} {Q : Res → Mem → Prop} {σ : Mem} {x0 : Option Value} {u : Int32} : X z 4 73 [x0, some (.int u)] (st) cu σ Q = (X z 4 74 [x0, some (.int u)] (.int u :: st) cu σ Q) := by
  rw [x4_73]
  rfl
theorem v4_74 {z : P0} {st : List Value} {cu : Nat × Nat} {Q : Res → Mem → Prop} {σ : Mem} {x0 x1 : Option Value} : X z 4 74 [x0, x1] (st) cu σ Q = (X z 4 76 [x0, x1] (.int (nI 62) :: st) cu σ Q) := by
  rw [x4_74]
  rfl
theorem v4_76 {z : P0} {st : List Value} {cu : Nat × Nat} {Q : Res → Mem → Prop} {σ : Mem} {x0 x1 : Option Value} {u v : Int32} : X z 4 76 [x0, x1] (.int v :: .int u :: st) cu σ Q = (if u = v then X z 4 79 [x0, x1] (st) cu σ Q else X z 4 83 [x0, x1] (st) cu σ Q) := by
  rw [x4_76]
  obtain ⟨K, I, R, L, sz, ex⟩ := σ
  exact br_ne
theorem v4_79 {z : P0} {st : List Value} {cu : Nat × Nat} {Q : Res → Mem → Prop} {σ : Mem} {x0 x1 : Option Value} : X z 4 79 [x0, x1] (st) cu σ Q = (X z 4 80 [x0, x1] (.int (nI 0) :: st) cu σ Q) := by
  rw [x4_79]
  rfl
theorem v4_80 {z : P0} {st : List Value} {cu : Nat × Nat} {Q : Res → Mem → Prop} {σ : Mem} {x0 x1 : Option Value} : X z 4 80 [x0, x1] (st) cu σ Q = (X z 4 85 [x0, x1] (st) cu σ Q) := by
  rw [x4_80]
  rfl
theorem v4_83 {z : P0} {st : List Value} {cu : Nat × Nat} {Q : Res → Mem → Prop} {σ : Mem} {x0 x1 : Option Value} : X z 4 83 [x0, x1] (st) cu σ Q = (X z 4 85 [x0, x1] (.int (nI 7) :: st) cu σ Q) := by
  rw [x4_83]
  rfl
theorem v4_85 {z : P0} {cu : Nat × Nat} {Q : Res → Mem → Prop} {σ : Mem} {x0 x1 : Option Value} {v : Int32} : X z 4 85 [x0, x1] ([.int v]) cu σ Q = (Q (.inl (some (.int v))) σ) := by
  rw [x4_85]
  exact propext ⟨fun h => h.2, fun h => ⟨trivial, h⟩⟩
theorem v4_86 {z : P0} {st : List Value} {cu : Nat × Nat} {Q : Res → Mem → Prop} {σ : Mem} {x0 : Option Value} {u : Int32} : X z 4 86 [x0, some (.int u)] (st) cu σ Q = (X z 4 87 [x0, some (.int u)] (.int u :: st) cu σ Q) := by
  rw [x4_86]
  rfl
theorem v4_87 {z : P0} {st : List Value} {cu : Nat × Nat} {Q : Res → Mem → Prop} {σ : Mem} {x0 x1 : Option Value} : X z 4 87 [x0, x1] (st) cu σ Q = (X z 4 89 [x0, x1] (.int (nI 62) :: st) cu σ Q) := by
  rw [x4_87]
  rfl
theorem v4_89 {z : P0} {st : List Value} {cu : Nat × Nat} {Q : Res → Mem → Prop} {σ : Mem} {x0 x1 : Option Value} {u v : Int32} : X z 4 89 [x0, x1] (.int v :: .int u :: st) cu σ Q = (if u = v then X z 4 92 [x0, x1] (st) cu σ Q else X z 4 96 [x0, x1] (st) cu σ Q) := by
  rw [x4_89]
  obtain ⟨K, I, R, L, sz, ex⟩ := σ
  exact br_ne
theorem v4_92 {z : P0} {st : List Value} {cu : Nat × Nat} {Q : Res → Mem → Prop} {σ : Mem} {x0 x1 : Option Value} : X z 4 92 [x0, x1] (st) cu σ Q = (X z 4 93 [x0, x1] (.int (nI 2) :: st) cu σ Q) := by
  rw [x4_92]
  rfl
theorem v4_93 {z : P0} {st : List Value} {cu : Nat × Nat} {Q : Res → Mem → Prop} {σ : Mem} {x0 x1 : Option Value} : X z 4 93 [x0, x1] (st) cu σ Q = (X z 4 98 [x0, x1] (st) cu σ Q) := by
  rw [x4_93]
  rfl
theorem v4_96 {z : P0} {st : List Value} {cu : Nat × Nat} {Q : Res → Mem → Prop} {σ : Mem} {x0 x1 : Option Value} : X z 4 96 [x0, x1] (st) cu σ Q = (X z 4 98 [x0, x1] (.int (nI 7) :: st) cu σ Q) := by
  rw [x4_96]
  rfl
theorem v4_98 {z : P0} {cu : Nat × Nat} {Q : Res → Mem → Prop} {σ : Mem} {x0 x1 : Option Value} {v : Int32} : X z 4 98 [x0, x1] ([.int v]) cu σ Q = (Q (.inl (some (.int v))) σ) := by
  rw [x4_98]
  exact propext ⟨fun h => h.2, fun h => ⟨trivial, h⟩⟩
theorem v4_99 {z : P0} {st : List Value} {cu : Nat × Nat} {Q : Res → Mem → Prop} {σ : Mem} {x0 : Option Value} {u : Int32} : X z 4 99 [x0, some (.int u)] (st) cu σ Q = (X z 4 100 [x0, some (.int u)] (.int u :: st) cu σ Q) := by
  rw [x4_99]
  rfl
theorem u4_100 {z : P0} {ls : Lcs} {st : List Value} {K : Nat → Nat × Nat} {I : Nat → Nat → Int32} {R : Nat → Nat → Option Nat} {L : Nat → Nat → Int64} {sz : Nat} {ex : Bool} {Q : Res → Mem → Prop} {a0 : Int32} : X z 4 100 ls (.int a0 :: st) (0, 0) (K, I, R, L, sz, ex) Q = (wsum st ≤ 8 ∧ X z 5 0 [some (.int a0)] [] (0, 0) (K, I, R, L, sz, ex) (aftr (X z) mT 4 100 ls st (0, 0) Q)) := v4_100 (c := 0) (n := 0)
theorem v4_103 {z : P0} {cu : Nat × Nat} {Q : Res → Mem → Prop} {σ : Mem} {x0 x1 : Option Value} {v : Int32} : X z 4 103 [x0, x1] ([.int v]) cu σ Q = (Q (.inl (some (.int v))) σ) := by
  rw [x4_103]
  exact propext ⟨fun h => h.2, fun h => ⟨trivial, h⟩⟩
theorem v4_104 {z : P0} {st : List Value} {cu : Nat × Nat} {Q : Res → Mem → Prop} {σ : Mem} {x0 : Option Value} {u : Int32} : X z 4 104 [x0, some (.int u)] (st) cu σ Q = (X z 4 105 [x0, some (.int u)] (.int u :: st) cu σ Q) := by
  rw [x4_104]
  rfl
theorem u4_105 {z : P0} {ls : Lcs} {st : List Value} {K : Nat → Nat × Nat} {I : Nat → Nat → Int32} {R : Nat → Nat → Option Nat} {L : Nat → Nat → Int64} {sz : Nat} {ex : Bool} {Q : Res → Mem → Prop} {a0 : Int32} : X z 4 105 ls (.int a0 :: st) (0, 0) (K, I, R, L, sz, ex) Q = (wsum st ≤ 8 ∧ X z 6 0 [some (.int a0)] [] (0, 0) (K, I, R, L, sz, ex) (aftr (X z) mT 4 105 ls st (0, 0) Q)) := v4_105 (c := 0) (n := 0)
theorem v4_108 {z : P0} {cu : Nat × Nat} {Q : Res → Mem → Prop} {σ : Mem} {x0 x1 : Option Value} {v : Int32} : X z 4 108 [x0, x1] ([.int v]) cu σ Q = (Q (.inl (some (.int v))) σ) := by
  rw [x4_108]
  exact propext ⟨fun h => h.2, fun h => ⟨trivial, h⟩⟩
theorem v4_109 {z : P0} {st : List Value} {cu : Nat × Nat} {Q : Res → Mem → Prop} {σ : Mem} {x0 : Option Value} {u : Int32} : X z 4 109 [x0, some (.int u)] (st) cu σ Q = (X z 4 110 [x0, some (.int u)] (.int u :: st) cu σ Q) := by
  rw [x4_109]
  rfl
theorem v4_110 {z : P0} {st : List Value} {cu : Nat × Nat} {Q : Res → Mem → Prop} {σ : Mem} {x0 x1 : Option Value} : X z 4 110 [x0, x1] (st) cu σ Q = (X z 4 112 [x0, x1] (.int (nI 125) :: st) cu σ Q) := by
  rw [x4_110]
  rfl
theorem v4_112 {z : P0} {st : List Value} {cu : Nat × Nat} {Q : Res → Mem → Prop} {σ : Mem} {x0 x1 : Option Value} {u v : Int32} : X z 4 112 [x0, x1] (.int v :: .int u :: st) cu σ Q = (if u = v then X z 4 115 [x0, x1] (st) cu σ Q else X z 4 119 [x0, x1] (st) cu σ Q) := by
  rw [x4_112]
  obtain ⟨K, I, R, L, sz, ex⟩ := σ
  exact br_ne
theorem v4_115 {z : P0} {st : List Value} {cu : Nat × Nat} {Q : Res → Mem → Prop} {σ : Mem} {x0 x1 : Option Value} : X z 4 115 [x0, x1] (st) cu σ Q = (X z 4 116 [x0, x1] (.int (nI 0) :: st) cu σ Q) := by
  rw [x4_115]
  rfl
theorem v4_116 {z : P0} {st : List Value} {cu : Nat × Nat} {Q : Res → Mem → Prop} {σ : Mem} {x0 x1 : Option Value} : X z 4 116 [x0, x1] (st) cu σ Q = (X z 4 123 [x0, x1] (st) cu σ Q) := by
  rw [x4_116]
  rfl
theorem v4_119 {z : P0} {st : List Value} {cu : Nat × Nat} {Q : Res → Mem → Prop} {σ : Mem} {x0 : Option Value} {u : Int32} : X z 4 119 [x0, some (.int u)] (st) cu σ Q = (X z 4 120 [x0, some (.int u)] (.int u :: st) cu σ Q) := by
  rw [x4_119]
  rfl
theorem u4_120 {z : P0} {ls : Lcs} {st : List Value} {K : Nat → Nat × Nat} {I : Nat → Nat → Int32} {R : Nat → Nat → Option Nat} {L : Nat → Nat → Int64} {sz : Nat} {ex : Bool} {Q : Res → Mem → Prop} {a0 : Int32} : X z 4 120 ls (.int a0 :: st) (0, 0) (K, I, R, L, sz, ex) Q = (wsum st ≤ 8 ∧ X z 6 0 [some (.int a0)] [] (0, 0) (K, I, R, L, sz, ex) (aftr (X z) mT 4 120 ls st (0, 0) Q)) := v4_120 (c := 0) (n := 0)
theorem v4_123 {z : P0} {cu : Nat × Nat} {Q : Res → Mem → Prop} {σ : Mem} {x0 x1 : Option Value} {v : Int32} : X z 4 123 [x0, x1] ([.int v]) cu σ Q = (Q (.inl (some (.int v))) σ) := by
  rw [x4_123]
  exact propext ⟨fun h => h.2, fun h => ⟨trivial, h⟩⟩
theorem v4_124 {z : P0} {st : List Value} {cu : Nat × Nat} {Q : Res → Mem → Prop} {σ : Mem} {x0 x1 : Option Value} : X z 4 124 [x0, x1] (st) cu σ Q = (X z 4 126 [x0, x1] (.int (nI 7) :: st) cu σ Q) := by
  rw [x4_124]
  rfl
theorem v4_126 {z : P0} {cu : Nat × Nat} {Q : Res → Mem → Prop} {σ : Mem} {x0 x1 : Option Value} {v : Int32} : X z 4 126 [x0, x1] ([.int v]) cu σ Q = (Q (.inl (some (.int v))) σ) := by
  rw [x4_126]
  exact propext ⟨fun h => h.2, fun h => ⟨trivial, h⟩⟩
theorem v5_0 {z : P0} {st : List Value} {cu : Nat × Nat} {Q : Res → Mem → Prop} {σ : Mem} {u : Int32} : X z 5 0 [some (.int u)] (st) cu σ Q = (X z 5 1 [some (.int u)] (.int u :: st) cu σ Q) := by
  rw [x5_0]
  rfl
theorem v5_1 {z : P0} {st : List Value} {cu : Nat × Nat} {Q : Res → Mem → Prop} {σ : Mem} {x0 : Option Value} : X z 5 1 [x0] (st) cu σ Q = (X z 5 3 [x0] (.int (nI 123) :: st) cu σ Q) := by
  rw [x5_1]
  rfl
theorem v5_3 {z : P0} {st : List Value} {cu : Nat × Nat} {Q : Res → Mem → Prop} {σ : Mem} {x0 : Option Value} {u v : Int32} : X z 5 3 [x0] (.int v :: .int u :: st) cu σ Q = (if u = v then X z 5 6 [x0] (st) cu σ Q else X z 5 8 [x0] (st) cu σ Q) := by
  rw [x5_3]
  obtain ⟨K, I, R, L, sz, ex⟩ := σ
  exact br_ne
theorem v5_6 {z : P0} {st : List Value} {cu : Nat × Nat} {Q : Res → Mem → Prop} {σ : Mem} {x0 : Option Value} : X z 5 6 [x0] (st) cu σ Q = (X z 5 7 [x0] (.int (nI 1) :: st) cu σ Q) := by
  rw [x5_6]
  rfl
theorem v5_7 {z : P0} {cu : Nat × Nat} {Q : Res → Mem → Prop} {σ : Mem} {x0 : Option Value} {v : Int32} : X z 5 7 [x0] ([.int v]) cu σ Q = (Q (.inl (some (.int v))) σ) := by
  rw [x5_7]
  exact propext ⟨fun h => h.2, fun h => ⟨trivial, h⟩⟩
theorem v5_8 {z : P0} {st : List Value} {cu : Nat × Nat} {Q : Res → Mem → Prop} {σ : Mem} {u : Int32} : X z 5 8 [some (.int u)] (st) cu σ Q = (X z 5 9 [some (.int u)] (.int u :: st) cu σ Q) := by
  rw [x5_8]
  rfl
theorem v5_9 {z : P0} {st : List Value} {cu : Nat × Nat} {Q : Res → Mem → Prop} {σ : Mem} {x0 : Option Value} : X z 5 9 [x0] (st) cu σ Q = (X z 5 11 [x0] (.int (nI 60) :: st) cu σ Q) := by
  rw [x5_9]
  rfl
theorem v5_11 {z : P0} {st : List Value} {cu : Nat × Nat} {Q : Res → Mem → Prop} {σ : Mem} {x0 : Option Value} {u v : Int32} : X z 5 11 [x0] (.int v :: .int u :: st) cu σ Q = (if u = v then X z 5 14 [x0] (st) cu σ Q else X z 5 16 [x0] (st) cu σ Q) := by
  rw [x5_11]
  obtain ⟨K, I, R, L, sz, ex⟩ := σ
  exact br_ne
theorem v5_14 {z : P0} {st : List Value} {cu : Nat × Nat} {Q : Res → Mem → Prop} {σ : Mem} {x0 : Option Value} : X z 5 14 [x0] (st) cu σ Q = (X z 5 15 [x0] (.int (nI 3) :: st) cu σ Q) := by
  rw [x5_14]
  rfl
theorem v5_15 {z : P0} {cu : Nat × Nat} {Q : Res → Mem → Prop} {σ : Mem} {x0 : Option Value} {v : Int32} : X z 5 15 [x0] ([.int v]) cu σ Q = (Q (.inl (some (.int v))) σ) := by
  rw [x5_15]
  exact propext ⟨fun h => h.2, fun h => ⟨trivial, h⟩⟩
theorem v5_16 {z : P0} {st : List Value} {cu : Nat × Nat} {Q : Res → Mem → Prop} {σ : Mem} {u : Int32} : X z 5 16 [some (.int u)] (st) cu σ Q = (X z 5 17 [some (.int u)] (.int u :: st) cu σ Q) := by
  rw [x5_16]
  rfl
theorem u5_17 {z : P0} {ls : Lcs} {st : List Value} {K : Nat → Nat × Nat} {I : Nat → Nat → Int32} {R : Nat → Nat → Option Nat} {L : Nat → Nat → Int64} {sz : Nat} {ex : Bool} {Q : Res → Mem → Prop} {a0 : Int32} : X z 5 17 ls (.int a0 :: st) (0, 0) (K, I, R, L, sz, ex) Q = (wsum st ≤ 8 ∧ X z 8 0 [some (.int a0)] [] (0, 0) (K, I, R, L, sz, ex) (aftr (X z) mT 5 17 ls st (0, 0) Q)) := v5_17 (c := 0) (n := 0)
theorem v5_20 {z : P0} {st : List Value} {cu : Nat × Nat} {Q : Res → Mem → Prop} {σ : Mem} {x0 : Option Value} {u : Int32} : X z 5 20 [x0] (.int u :: st) cu σ Q = (if u = nI 0 then X z 5 27 [x0] (st) cu σ Q else X z 5 23 [x0] (st) cu σ Q) := by
  rw [x5_20]
  rw [nI_0]
  obtain ⟨K, I, R, L, sz, ex⟩ := σ
  exact br_ite
theorem v5_23 {z : P0} {st : List Value} {cu : Nat × Nat} {Q : Res → Mem → Prop} {σ : Mem} {x0 : Option Value} : X z 5 23 [x0] (st) cu σ Q = (X z 5 24 [x0] (.int (nI 0) :: st) cu σ Q) := by
  rw [x5_23]
  rfl
theorem v5_24 {z : P0} {st : List Value} {cu : Nat × Nat} {Q : Res → Mem → Prop} {σ : Mem} {x0 : Option Value} : X z 5 24 [x0] (st) cu σ Q = (X z 5 29 [x0] (st) cu σ Q) := by
  rw [x5_24]
  rfl
theorem v5_27 {z : P0} {st : List Value} {cu : Nat × Nat} {Q : Res → Mem → Prop} {σ : Mem} {x0 : Option Value} : X z 5 27 [x0] (st) cu σ Q = (X z 5 29 [x0] (.int (nI 7) :: st) cu σ Q) := by
  rw [x5_27]
  rfl
theorem v5_29 {z : P0} {cu : Nat × Nat} {Q : Res → Mem → Prop} {σ : Mem} {x0 : Option Value} {v : Int32} : X z 5 29 [x0] ([.int v]) cu σ Q = (Q (.inl (some (.int v))) σ) := by
  rw [x5_29]
  exact propext ⟨fun h => h.2, fun h => ⟨trivial, h⟩⟩
theorem v6_0 {z : P0} {st : List Value} {cu : Nat × Nat} {Q : Res → Mem → Prop} {σ : Mem} {u : Int32} : X z 6 0 [some (.int u)] (st) cu σ Q = (X z 6 1 [some (.int u)] (.int u :: st) cu σ Q) := by
  rw [x6_0]
  rfl
theorem v6_1 {z : P0} {st : List Value} {cu : Nat × Nat} {Q : Res → Mem → Prop} {σ : Mem} {x0 : Option Value} : X z 6 1 [x0] (st) cu σ Q = (X z 6 3 [x0] (.int (nI 60) :: st) cu σ Q) := by
  rw [x6_1]
  rfl
theorem v6_3 {z : P0} {st : List Value} {cu : Nat × Nat} {Q : Res → Mem → Prop} {σ : Mem} {x0 : Option Value} {u v : Int32} : X z 6 3 [x0] (.int v :: .int u :: st) cu σ Q = (if u = v then X z 6 6 [x0] (st) cu σ Q else X z 6 8 [x0] (st) cu σ Q) := by
  rw [x6_3]
  obtain ⟨K, I, R, L, sz, ex⟩ := σ
  exact br_ne
theorem v6_6 {z : P0} {st : List Value} {cu : Nat × Nat} {Q : Res → Mem → Prop} {σ : Mem} {x0 : Option Value} : X z 6 6 [x0] (st) cu σ Q = (X z 6 7 [x0] (.int (nI 5) :: st) cu σ Q) := by
  rw [x6_6]
  rfl
theorem v6_7 {z : P0} {cu : Nat × Nat} {Q : Res → Mem → Prop} {σ : Mem} {x0 : Option Value} {v : Int32} : X z 6 7 [x0] ([.int v]) cu σ Q = (Q (.inl (some (.int v))) σ) := by
  rw [x6_7]
  exact propext ⟨fun h => h.2, fun h => ⟨trivial, h⟩⟩
theorem v6_8 {z : P0} {st : List Value} {cu : Nat × Nat} {Q : Res → Mem → Prop} {σ : Mem} {u : Int32} : X z 6 8 [some (.int u)] (st) cu σ Q = (X z 6 9 [some (.int u)] (.int u :: st) cu σ Q) := by
  rw [x6_8]
  rfl
theorem u6_9 {z : P0} {ls : Lcs} {st : List Value} {K : Nat → Nat × Nat} {I : Nat → Nat → Int32} {R : Nat → Nat → Option Nat} {L : Nat → Nat → Int64} {sz : Nat} {ex : Bool} {Q : Res → Mem → Prop} {a0 : Int32} : X z 6 9 ls (.int a0 :: st) (0, 0) (K, I, R, L, sz, ex) Q = (wsum st ≤ 8 ∧ X z 8 0 [some (.int a0)] [] (0, 0) (K, I, R, L, sz, ex) (aftr (X z) mT 6 9 ls st (0, 0) Q)) := v6_9 (c := 0) (n := 0)
theorem v6_12 {z : P0} {st : List Value} {cu : Nat × Nat} {Q : Res → Mem → Prop} {σ : Mem} {x0 : Option Value} {u : Int32} : X z 6 12 [x0] (.int u :: st) cu σ Q = (if u = nI 0 then X z 6 19 [x0] (st) cu σ Q else X z 6 15 [x0] (st) cu σ Q) := by
  rw [x6_12]
  rw [nI_0]
  obtain ⟨K, I, R, L, sz, ex⟩ := σ
  exact br_ite
theorem v6_15 {z : P0} {st : List Value} {cu : Nat × Nat} {Q : Res → Mem → Prop} {σ : Mem} {x0 : Option Value} : X z 6 15 [x0] (st) cu σ Q = (X z 6 16 [x0] (.int (nI 2) :: st) cu σ Q) := by
  rw [x6_15]
  rfl
theorem v6_16 {z : P0} {st : List Value} {cu : Nat × Nat} {Q : Res → Mem → Prop} {σ : Mem} {x0 : Option Value} : X z 6 16 [x0] (st) cu σ Q = (X z 6 21 [x0] (st) cu σ Q) := by
  rw [x6_16]
  rfl
theorem v6_19 {z : P0} {st : List Value} {cu : Nat × Nat} {Q : Res → Mem → Prop} {σ : Mem} {x0 : Option Value} : X z 6 19 [x0] (st) cu σ Q = (X z 6 21 [x0] (.int (nI 7) :: st) cu σ Q) := by
  rw [x6_19]
  rfl
theorem v6_21 {z : P0} {cu : Nat × Nat} {Q : Res → Mem → Prop} {σ : Mem} {x0 : Option Value} {v : Int32} : X z 6 21 [x0] ([.int v]) cu σ Q = (Q (.inl (some (.int v))) σ) := by
  rw [x6_21]
  exact propext ⟨fun h => h.2, fun h => ⟨trivial, h⟩⟩
theorem v7_0 {z : P0} {st : List Value} {cu : Nat × Nat} {Q : Res → Mem → Prop} {σ : Mem} {u : Int32} : X z 7 0 [some (.int u)] (st) cu σ Q = (X z 7 1 [some (.int u)] (.int u :: st) cu σ Q) := by
  rw [x7_0]
  rfl
theorem v7_1 {z : P0} {st : List Value} {cu : Nat × Nat} {Q : Res → Mem → Prop} {σ : Mem} {x0 : Option Value} : X z 7 1 [x0] (st) cu σ Q = (X z 7 3 [x0] (.int (nI 110) :: st) cu σ Q) := by
  rw [x7_1]
  rfl
theorem v7_3 {z : P0} {st : List Value} {cu : Nat × Nat} {Q : Res → Mem → Prop} {σ : Mem} {x0 : Option Value} {u v : Int32} : X z 7 3 [x0] (.int v :: .int u :: st) cu σ Q = (if u = v then X z 7 24 [x0] (st) cu σ Q else X z 7 6 [x0] (st) cu σ Q) := by
  rw [x7_3]
  obtain ⟨K, I, R, L, sz, ex⟩ := σ
  exact br_ite
theorem v7_6 {z : P0} {st : List Value} {cu : Nat × Nat} {Q : Res → Mem → Prop} {σ : Mem} {u : Int32} : X z 7 6 [some (.int u)] (st) cu σ Q = (X z 7 7 [some (.int u)] (.int u :: st) cu σ Q) := by
  rw [x7_6]
  rfl
theorem v7_7 {z : P0} {st : List Value} {cu : Nat × Nat} {Q : Res → Mem → Prop} {σ : Mem} {x0 : Option Value} : X z 7 7 [x0] (st) cu σ Q = (X z 7 9 [x0] (.int (nI 103) :: st) cu σ Q) := by
  rw [x7_7]
  rfl
theorem v7_9 {z : P0} {st : List Value} {cu : Nat × Nat} {Q : Res → Mem → Prop} {σ : Mem} {x0 : Option Value} {u v : Int32} : X z 7 9 [x0] (.int v :: .int u :: st) cu σ Q = (if u = v then X z 7 24 [x0] (st) cu σ Q else X z 7 12 [x0] (st) cu σ Q) := by
  rw [x7_9]
  obtain ⟨K, I, R, L, sz, ex⟩ := σ
  exact br_ite
theorem v7_12 {z : P0} {st : List Value} {cu : Nat × Nat} {Q : Res → Mem → Prop} {σ : Mem} {u : Int32} : X z 7 12 [some (.int u)] (st) cu σ Q = (X z 7 13 [some (.int u)] (.int u :: st) cu σ Q) := by
  rw [x7_12]
  rfl
theorem v7_13 {z : P0} {st : List Value} {cu : Nat × Nat} {Q : Res → Mem → Prop} {σ : Mem} {x0 : Option Value} : X z 7 13 [x0] (st) cu σ Q = (X z 7 15 [x0] (.int (nI 119) :: st) cu σ Q) := by
  rw [x7_13]
  rfl
theorem v7_15 {z : P0} {st : List Value} {cu : Nat × Nat} {Q : Res → Mem → Prop} {σ : Mem} {x0 : Option Value} {u v : Int32} : X z 7 15 [x0] (.int v :: .int u :: st) cu σ Q = (if u = v then X z 7 24 [x0] (st) cu σ Q else X z 7 18 [x0] (st) cu σ Q) := by
  rw [x7_15]
  obtain ⟨K, I, R, L, sz, ex⟩ := σ
  exact br_ite
theorem v7_18 {z : P0} {st : List Value} {cu : Nat × Nat} {Q : Res → Mem → Prop} {σ : Mem} {u : Int32} : X z 7 18 [some (.int u)] (st) cu σ Q = (X z 7 19 [some (.int u)] (.int u :: st) cu σ Q) := by
  rw [x7_18]
  rfl
theorem v7_19 {z : P0} {st : List Value} {cu : Nat × Nat} {Q : Res → Mem → Prop} {σ : Mem} {x0 : Option Value} : X z 7 19 [x0] (st) cu σ Q = (X z 7 21 [x0] (.int (nI 99) :: st) cu σ Q) := by
  rw [x7_19]
  rfl
theorem v7_21 {z : P0} {st : List Value} {cu : Nat × Nat} {Q : Res → Mem → Prop} {σ : Mem} {x0 : Option Value} {u v : Int32} : X z 7 21 [x0] (.int v :: .int u :: st) cu σ Q = (if u = v then X z 7 24 [x0] (st) cu σ Q else X z 7 28 [x0] (st) cu σ Q) := by
  rw [x7_21]
  obtain ⟨K, I, R, L, sz, ex⟩ := σ
  exact br_ne
theorem v7_24 {z : P0} {st : List Value} {cu : Nat × Nat} {Q : Res → Mem → Prop} {σ : Mem} {x0 : Option Value} : X z 7 24 [x0] (st) cu σ Q = (X z 7 25 [x0] (.int (nI 1) :: st) cu σ Q) := by
  rw [x7_24]
  rfl
theorem v7_25 {z : P0} {st : List Value} {cu : Nat × Nat} {Q : Res → Mem → Prop} {σ : Mem} {x0 : Option Value} : X z 7 25 [x0] (st) cu σ Q = (X z 7 29 [x0] (st) cu σ Q) := by
  rw [x7_25]
  rfl
theorem v7_28 {z : P0} {st : List Value} {cu : Nat × Nat} {Q : Res → Mem → Prop} {σ : Mem} {x0 : Option Value} : X z 7 28 [x0] (st) cu σ Q = (X z 7 29 [x0] (.int (nI 0) :: st) cu σ Q) := by
  rw [x7_28]
  rfl
theorem v7_29 {z : P0} {cu : Nat × Nat} {Q : Res → Mem → Prop} {σ : Mem} {x0 : Option Value} {v : Int32} : X z 7 29 [x0] ([.int v]) cu σ Q = ((v = nI 0 ∨ v = nI 1) ∧ Q (.inl (some (.int v))) σ) := by
  rw [x7_29]
  rw [nI_0, one1]
  rfl
theorem v8_0 {z : P0} {st : List Value} {cu : Nat × Nat} {Q : Res → Mem → Prop} {σ : Mem} {u : Int32} : X z 8 0 [some (.int u)] (st) cu σ Q = (X z 8 1 [some (.int u)] (.int u :: st) cu σ Q) := by
  rw [x8_0]
  rfl
theorem u8_1 {z : P0} {ls : Lcs} {st : List Value} {K : Nat → Nat × Nat} {I : Nat → Nat → Int32} {R : Nat → Nat → Option Nat} {L : Nat → Nat → Int64} {sz : Nat} {ex : Bool} {Q : Res → Mem → Prop} {a0 : Int32} : X z 8 1 ls (.int a0 :: st) (0, 0) (K, I, R, L, sz, ex) Q = (wsum st ≤ 8 ∧ X z 88 0 [some (.int a0)] [] (0, 0) (K, I, R, L, sz, ex) (aftr (X z) mT 8 1 ls st (0, 0) Q)) := v8_1 (c := 0) (n := 0)
theorem v8_4 {z : P0} {st : List Value} {cu : Nat × Nat} {Q : Res → Mem → Prop} {σ : Mem} {x0 : Option Value} {u : Int32} : X z 8 4 [x0] (.int u :: st) cu σ Q = (if u = nI 0 then X z 8 7 [x0] (st) cu σ Q else X z 8 37 [x0] (st) cu σ Q) := by
  rw [x8_4]
  rw [nI_0]
  obtain ⟨K, I, R, L, sz, ex⟩ := σ
  exact br_ne
theorem v8_7 {z : P0} {st : List Value} {cu : Nat × Nat} {Q : Res → Mem → Prop} {σ : Mem} {u : Int32} : X z 8 7 [some (.int u)] (st) cu σ Q = (X z 8 8 [some (.int u)] (.int u :: st) cu σ Q) := by
  rw [x8_7]
  rfl
theorem v8_8 {z : P0} {st : List Value} {cu : Nat × Nat} {Q : Res → Mem → Prop} {σ : Mem} {x0 : Option Value} : X z 8 8 [x0] (st) cu σ Q = (X z 8 10 [x0] (.int (nI 95) :: st) cu σ Q) := by
  rw [x8_8]
  rfl
theorem v8_10 {z : P0} {st : List Value} {cu : Nat × Nat} {Q : Res → Mem → Prop} {σ : Mem} {x0 : Option Value} {u v : Int32} : X z 8 10 [x0] (.int v :: .int u :: st) cu σ Q = (if u = v then X z 8 37 [x0] (st) cu σ Q else X z 8 13 [x0] (st) cu σ Q) := by
  rw [x8_10]
  obtain ⟨K, I, R, L, sz, ex⟩ := σ
  exact br_ite
theorem v8_13 {z : P0} {st : List Value} {cu : Nat × Nat} {Q : Res → Mem → Prop} {σ : Mem} {u : Int32} : X z 8 13 [some (.int u)] (st) cu σ Q = (X z 8 14 [some (.int u)] (.int u :: st) cu σ Q) := by
  rw [x8_13]
  rfl
theorem v8_14 {z : P0} {st : List Value} {cu : Nat × Nat} {Q : Res → Mem → Prop} {σ : Mem} {x0 : Option Value} : X z 8 14 [x0] (st) cu σ Q = (X z 8 16 [x0] (.int (nI 44) :: st) cu σ Q) := by
  rw [x8_14]
  rfl
theorem v8_16 {z : P0} {st : List Value} {cu : Nat × Nat} {Q : Res → Mem → Prop} {σ : Mem} {x0 : Option Value} {u v : Int32} : X z 8 16 [x0] (.int v :: .int u :: st) cu σ Q = (if u = v then X z 8 37 [x0] (st) cu σ Q else X z 8 19 [x0] (st) cu σ Q) := by
  rw [x8_16]
  obtain ⟨K, I, R, L, sz, ex⟩ := σ
  exact br_ite
theorem v8_19 {z : P0} {st : List Value} {cu : Nat × Nat} {Q : Res → Mem → Prop} {σ : Mem} {u : Int32} : X z 8 19 [some (.int u)] (st) cu σ Q = (X z 8 20 [some (.int u)] (.int u :: st) cu σ Q) := by
  rw [x8_19]
  rfl
theorem v8_20 {z : P0} {st : List Value} {cu : Nat × Nat} {Q : Res → Mem → Prop} {σ : Mem} {x0 : Option Value} : X z 8 20 [x0] (st) cu σ Q = (X z 8 22 [x0] (.int (nI 46) :: st) cu σ Q) := by
  rw [x8_20]
  rfl
theorem v8_22 {z : P0} {st : List Value} {cu : Nat × Nat} {Q : Res → Mem → Prop} {σ : Mem} {x0 : Option Value} {u v : Int32} : X z 8 22 [x0] (.int v :: .int u :: st) cu σ Q = (if u = v then X z 8 37 [x0] (st) cu σ Q else X z 8 25 [x0] (st) cu σ Q) := by
  rw [x8_22]
  obtain ⟨K, I, R, L, sz, ex⟩ := σ
  exact br_ite
theorem v8_25 {z : P0} {st : List Value} {cu : Nat × Nat} {Q : Res → Mem → Prop} {σ : Mem} {u : Int32} : X z 8 25 [some (.int u)] (st) cu σ Q = (X z 8 26 [some (.int u)] (.int u :: st) cu σ Q) := by
  rw [x8_25]
  rfl
theorem v8_26 {z : P0} {st : List Value} {cu : Nat × Nat} {Q : Res → Mem → Prop} {σ : Mem} {x0 : Option Value} : X z 8 26 [x0] (st) cu σ Q = (X z 8 28 [x0] (.int (nI 47) :: st) cu σ Q) := by
  rw [x8_26]
  rfl
theorem v8_28 {z : P0} {st : List Value} {cu : Nat × Nat} {Q : Res → Mem → Prop} {σ : Mem} {x0 : Option Value} {u v : Int32} : X z 8 28 [x0] (.int v :: .int u :: st) cu σ Q = (if u = v then X z 8 37 [x0] (st) cu σ Q else X z 8 31 [x0] (st) cu σ Q) := by
  rw [x8_28]
  obtain ⟨K, I, R, L, sz, ex⟩ := σ
  exact br_ite
theorem v8_31 {z : P0} {st : List Value} {cu : Nat × Nat} {Q : Res → Mem → Prop} {σ : Mem} {u : Int32} : X z 8 31 [some (.int u)] (st) cu σ Q = (X z 8 32 [some (.int u)] (.int u :: st) cu σ Q) := by
  rw [x8_31]
  rfl
theorem v8_32 {z : P0} {st : List Value} {cu : Nat × Nat} {Q : Res → Mem → Prop} {σ : Mem} {x0 : Option Value} : X z 8 32 [x0] (st) cu σ Q = (X z 8 34 [x0] (.int (nI 124) :: st) cu σ Q) := by
  rw [x8_32]
  rfl
theorem v8_34 {z : P0} {st : List Value} {cu : Nat × Nat} {Q : Res → Mem → Prop} {σ : Mem} {x0 : Option Value} {u v : Int32} : X z 8 34 [x0] (.int v :: .int u :: st) cu σ Q = (if u = v then X z 8 37 [x0] (st) cu σ Q else X z 8 41 [x0] (st) cu σ Q) := by
  rw [x8_34]
  obtain ⟨K, I, R, L, sz, ex⟩ := σ
  exact br_ne
theorem v8_37 {z : P0} {st : List Value} {cu : Nat × Nat} {Q : Res → Mem → Prop} {σ : Mem} {x0 : Option Value} : X z 8 37 [x0] (st) cu σ Q = (X z 8 38 [x0] (.int (nI 1) :: st) cu σ Q) := by
  rw [x8_37]
  rfl
theorem v8_38 {z : P0} {st : List Value} {cu : Nat × Nat} {Q : Res → Mem → Prop} {σ : Mem} {x0 : Option Value} : X z 8 38 [x0] (st) cu σ Q = (X z 8 42 [x0] (st) cu σ Q) := by
  rw [x8_38]
  rfl
theorem v8_41 {z : P0} {st : List Value} {cu : Nat × Nat} {Q : Res → Mem → Prop} {σ : Mem} {x0 : Option Value} : X z 8 41 [x0] (st) cu σ Q = (X z 8 42 [x0] (.int (nI 0) :: st) cu σ Q) := by
  rw [x8_41]
  rfl
theorem v8_42 {z : P0} {cu : Nat × Nat} {Q : Res → Mem → Prop} {σ : Mem} {x0 : Option Value} {v : Int32} : X z 8 42 [x0] ([.int v]) cu σ Q = ((v = nI 0 ∨ v = nI 1) ∧ Q (.inl (some (.int v))) σ) := by
  rw [x8_42]
  rw [nI_0, one1]
  rfl
theorem v9_0 {z : P0} {st : List Value} {cu : Nat × Nat} {Q : Res → Mem → Prop} {σ : Mem} {u : Nat} : X z 9 0 [some (.ref u)] (st) cu σ Q = (X z 9 1 [some (.ref u)] (.ref u :: st) cu σ Q) := by
  rw [x9_0]
  rfl
theorem v9_1 {z : P0} {st : List Value} {cu : Nat × Nat} {Q : Res → Mem → Prop} {σ : Mem} {x0 : Option Value} {u : Nat} : X z 9 1 [x0] (.ref u :: st) cu σ Q = (wsum st ≤ 8 ∧ X z 9 4 [x0] (st) cu σ Q) := by
  rw [x9_1]
  exact propext ⟨fun h => h.2, fun h => ⟨rfl, h⟩⟩
theorem v9_4 {z : P0} {st : List Value} {cu : Nat × Nat} {Q : Res → Mem → Prop} {σ : Mem} {u : Nat} : X z 9 4 [some (.ref u)] (st) cu σ Q = (X z 9 5 [some (.ref u)] (.ref u :: st) cu σ Q) := by
  rw [x9_4]
  rfl
theorem v9_5 {z : P0} {st : List Value} {cu : Nat × Nat} {Q : Res → Mem → Prop} {σ : Mem} {x0 : Option Value} : X z 9 5 [x0] (st) cu σ Q = (X z 9 8 [x0] (.int (nI 1660) :: st) cu σ Q) := by
  rw [x9_5]
  rfl
theorem v9_8 {z : P0} {st : List Value} {Q : Res → Mem → Prop} {K : Nat → Nat × Nat} {I : Nat → Nat → Int32} {R : Nat → Nat → Option Nat} {L : Nat → Nat → Int64} {sz : Nat} {ex : Bool} {x0 : Option Value} {c n : Nat} {v : Int32} : X z 9 8 [x0] (.int v :: st) (c, n) (K, I, R, L, sz, ex) Q = (ex = true ∧ ¬ v < 0 ∧ v.toNatClampNeg ≤ 3000 ∧ (c + 1 ≤ 2 ∧ n + v.toNatClampNeg ≤ 1666) ∧ X z 9 10 [x0] (.ref sz :: st) (c + 1, n + v.toNatClampNeg) (upK K sz (20, v.toNatClampNeg), I, R, L, sz + 1, ex) Q) := by
  rw [x9_8]
  rfl
theorem v9_10 {z : P0} {st : List Value} {cu : Nat × Nat} {Q : Res → Mem → Prop} {K : Nat → Nat × Nat} {I : Nat → Nat → Int32} {R : Nat → Nat → Option Nat} {L : Nat → Nat → Int64} {sz : Nat} {ex : Bool} {x0 : Option Value} {u v : Nat} : X z 9 10 [x0] (.ref v :: .ref u :: st) cu (K, I, R, L, sz, ex) Q = ((K u).1 = 101 ∧ X z 9 13 [x0] (st) cu (K, I, up2 R u 0 (some v), L, sz, ex) Q) := by
  rw [x9_10]
  exact i_putA
theorem v9_13 {z : P0} {st : List Value} {cu : Nat × Nat} {Q : Res → Mem → Prop} {σ : Mem} {u : Nat} : X z 9 13 [some (.ref u)] (st) cu σ Q = (X z 9 14 [some (.ref u)] (.ref u :: st) cu σ Q) := by
  rw [x9_13]
  rfl
theorem v9_14 {z : P0} {st : List Value} {cu : Nat × Nat} {Q : Res → Mem → Prop} {σ : Mem} {x0 : Option Value} : X z 9 14 [x0] (st) cu σ Q = (X z 9 16 [x0] (.int (nI 6) :: st) cu σ Q) := by
  rw [x9_14]
  rfl
theorem v9_16 {z : P0} {st : List Value} {Q : Res → Mem → Prop} {K : Nat → Nat × Nat} {I : Nat → Nat → Int32} {R : Nat → Nat → Option Nat} {L : Nat → Nat → Int64} {sz : Nat} {ex : Bool} {x0 : Option Value} {c n : Nat} {v : Int32} : X z 9 16 [x0] (.int v :: st) (c, n) (K, I, R, L, sz, ex) Q = (ex = true ∧ ¬ v < 0 ∧ v.toNatClampNeg ≤ 3000 ∧ (c + 1 ≤ 2 ∧ n + v.toNatClampNeg ≤ 1666) ∧ X z 9 18 [x0] (.ref sz :: st) (c + 1, n + v.toNatClampNeg) (upK K sz (20, v.toNatClampNeg), I, R, L, sz + 1, ex) Q) := by
  rw [x9_16]
  rfl
theorem v9_18 {z : P0} {st : List Value} {cu : Nat × Nat} {Q : Res → Mem → Prop} {K : Nat → Nat × Nat} {I : Nat → Nat → Int32} {R : Nat → Nat → Option Nat} {L : Nat → Nat → Int64} {sz : Nat} {ex : Bool} {x0 : Option Value} {u v : Nat} : X z 9 18 [x0] (.ref v :: .ref u :: st) cu (K, I, R, L, sz, ex) Q = ((K u).1 = 101 ∧ X z 9 21 [x0] (st) cu (K, I, up2 R u 2 (some v), L, sz, ex) Q) := by
  rw [x9_18]
  exact i_putA
theorem v9_21 {z : P0} {cu : Nat × Nat} {Q : Res → Mem → Prop} {σ : Mem} {x0 : Option Value} : X z 9 21 [x0] ([]) cu σ Q = (Q (.inl none) σ) := by
  rw [x9_21]
  rfl
theorem v10_0 {z : P0} {st : List Value} {cu : Nat × Nat} {Q : Res → Mem → Prop} {σ : Mem} {x1 x2 x3 x4 x5 x6 : Option Value} {u : Nat} : X z 10 0 [some (.ref u), x1, x2, x3, x4, x5, x6] (st) cu σ Q = (X z 10 1 [some (.ref u), x1, x2, x3, x4, x5, x6] (.ref u :: st) cu σ Q) := by
  rw [x10_0]
  rfl
theorem v10_1 {z : P0} {st : List Value} {cu : Nat × Nat} {Q : Res → Mem → Prop} {σ : Mem} {x0 x1 x2 x3 x4 x5 x6 : Option Value} : X z 10 1 [x0, x1, x2, x3, x4, x5, x6] (st) cu σ Q = (X z 10 2 [x0, x1, x2, x3, x4, x5, x6] (.int (nI 0) :: st) cu σ Q) := by
  rw [x10_1]
  rfl
theorem v10_2 {z : P0} {st : List Value} {cu : Nat × Nat} {Q : Res → Mem → Prop} {K : Nat → Nat × Nat} {I : Nat → Nat → Int32} {R : Nat → Nat → Option Nat} {L : Nat → Nat → Int64} {sz : Nat} {ex : Bool} {x0 x1 x2 x3 x4 x5 x6 : Option Value} {u : Nat} {v : Int32} : X z 10 2 [x0, x1, x2, x3, x4, x5, x6] (.int v :: .ref u :: st) cu (K, I, R, L, sz, ex) Q = ((K u).1 = 101 ∧ X z 10 5 [x0, x1, x2, x3, x4, x5, x6] (st) cu (K, up2 I u 1 v, R, L, sz, ex) Q) := by
  rw [x10_2]
  exact i_putI
theorem v10_5 {z : P0} {st : List Value} {cu : Nat × Nat} {Q : Res → Mem → Prop} {σ : Mem} {x0 x2 x3 x4 x5 x6 : Option Value} {u : Nat} : X z 10 5 [x0, some (.ref u), x2, x3, x4, x5, x6] (st) cu σ Q = (X z 10 6 [x0, some (.ref u), x2, x3, x4, x5, x6] (.ref u :: st) cu σ Q) := by
  rw [x10_5]
  rfl
theorem v10_6 {z : P0} {st : List Value} {cu : Nat × Nat} {Q : Res → Mem → Prop} {K : Nat → Nat × Nat} {I : Nat → Nat → Int32} {R : Nat → Nat → Option Nat} {L : Nat → Nat → Int64} {sz : Nat} {ex : Bool} {x0 x1 x2 x3 x4 x5 x6 : Option Value} {u : Nat} : X z 10 6 [x0, x1, x2, x3, x4, x5, x6] (.ref u :: st) cu (K, I, R, L, sz, ex) Q = ((K u).1 = 108 ∧ X z 10 9 [x0, x1, x2, x3, x4, x5, x6] (va_rf (R u 4) :: st) cu (K, I, R, L, sz, ex) Q) := by
  rw [x10_6]
  rfl
theorem v10_9 {z : P0} {st : List Value} {cu : Nat × Nat} {Q : Res → Mem → Prop} {σ : Mem} {x0 x1 x2 x3 x4 x5 x6 : Option Value} {u : Nat} : X z 10 9 [x0, x1, x2, x3, x4, x5, x6] (.ref u :: st) cu σ Q = (cat2 x2 = false ∧ X z 10 10 [x0, x1, x2, some (.ref u), x4, x5, x6] (st) cu σ Q) := by
  rw [x10_9]
  obtain ⟨K, I, R, L, sz, ex⟩ := σ
  exact i_astore_n.trans sl_3
theorem v10_10 {z : P0} {st : List Value} {cu : Nat × Nat} {Q : Res → Mem → Prop} {σ : Mem} {x0 x1 x2 x3 x4 x5 x6 : Option Value} : X z 10 10 [x0, x1, x2, x3, x4, x5, x6] (st) cu σ Q = (X z 10 11 [x0, x1, x2, x3, x4, x5, x6] (.int (nI 0) :: st) cu σ Q) := by
  rw [x10_10]
  rfl
theorem v10_11 {z : P0} {st : List Value} {cu : Nat × Nat} {Q : Res → Mem → Prop} {σ : Mem} {x0 x1 x2 x3 x4 x5 x6 : Option Value} {u : Int32} : X z 10 11 [x0, x1, x2, x3, x4, x5, x6] (.int u :: st) cu σ Q = (cat2 x3 = false ∧ X z 10 13 [x0, x1, x2, x3, some (.int u), x5, x6] (st) cu σ Q) := by
  rw [x10_11]
  obtain ⟨K, I, R, L, sz, ex⟩ := σ
  exact i_istore.trans sl_4
theorem v10_13 {z : P0} {st : List Value} {cu : Nat × Nat} {Q : Res → Mem → Prop} {σ : Mem} {x0 x1 x2 x3 x4 x5 x6 : Option Value} : X z 10 13 [x0, x1, x2, x3, x4, x5, x6] (st) cu σ Q = (X z 10 14 [x0, x1, x2, x3, x4, x5, x6] (.int (nI 0) :: st) cu σ Q) := by
  rw [x10_13]
  rfl
theorem v10_14 {z : P0} {st : List Value} {cu : Nat × Nat} {Q : Res → Mem → Prop} {σ : Mem} {x0 x1 x2 x3 x4 x5 x6 : Option Value} {u : Int32} : X z 10 14 [x0, x1, x2, x3, x4, x5, x6] (.int u :: st) cu σ Q = (cat2 x4 = false ∧ X z 10 16 [x0, x1, x2, x3, x4, some (.int u), x6] (st) cu σ Q) := by
  rw [x10_14]
  obtain ⟨K, I, R, L, sz, ex⟩ := σ
  exact i_istore.trans sl_5
theorem v10_16 {z : P0} {st : List Value} {cu : Nat × Nat} {Q : Res → Mem → Prop} {σ : Mem} {x0 x1 x2 x3 x4 x6 : Option Value} {u : Int32} : X z 10 16 [x0, x1, x2, x3, x4, some (.int u), x6] (st) cu σ Q = (X z 10 18 [x0, x1, x2, x3, x4, some (.int u), x6] (.int u :: st) cu σ Q) := by
  rw [x10_16]
  rfl
theorem v10_18 {z : P0} {st : List Value} {cu : Nat × Nat} {Q : Res → Mem → Prop} {σ : Mem} {x0 x1 x2 x4 x5 x6 : Option Value} {u : Nat} : X z 10 18 [x0, x1, x2, some (.ref u), x4, x5, x6] (st) cu σ Q = (X z 10 19 [x0, x1, x2, some (.ref u), x4, x5, x6] (.ref u :: st) cu σ Q) := by
  rw [x10_18]
  rfl
theorem v10_19 {z : P0} {st : List Value} {cu : Nat × Nat} {Q : Res → Mem → Prop} {K : Nat → Nat × Nat} {I : Nat → Nat → Int32} {R : Nat → Nat → Option Nat} {L : Nat → Nat → Int64} {sz : Nat} {ex : Bool} {x0 x1 x2 x3 x4 x5 x6 : Option Value} {u : Nat} : X z 10 19 [x0, x1, x2, x3, x4, x5, x6] (.ref u :: st) cu (K, I, R, L, sz, ex) Q = ((K u).1 = 104 ∧ X z 10 22 [x0, x1, x2, x3, x4, x5, x6] (.int (I u 1) :: st) cu (K, I, R, L, sz, ex) Q) := by
  rw [x10_19]
  rfl
theorem v10_22 {z : P0} {st : List Value} {cu : Nat × Nat} {Q : Res → Mem → Prop} {σ : Mem} {x0 x1 x2 x3 x4 x5 x6 : Option Value} {u v : Int32} : X z 10 22 [x0, x1, x2, x3, x4, x5, x6] (.int v :: .int u :: st) cu σ Q = (if u < v then X z 10 25 [x0, x1, x2, x3, x4, x5, x6] (st) cu σ Q else X z 10 133 [x0, x1, x2, x3, x4, x5, x6] (st) cu σ Q) := by
  rw [x10_22]
  obtain ⟨K, I, R, L, sz, ex⟩ := σ
  exact br_ge
theorem v10_25 {z : P0} {st : List Value} {cu : Nat × Nat} {Q : Res → Mem → Prop} {σ : Mem} {x0 x1 x2 x4 x5 x6 : Option Value} {u : Nat} : X z 10 25 [x0, x1, x2, some (.ref u), x4, x5, x6] (st) cu σ Q = (X z 10 26 [x0, x1, x2, some (.ref u), x4, x5, x6] (.ref u :: st) cu σ Q) := by
  rw [x10_25]
  rfl
theorem v10_26 {z : P0} {st : List Value} {cu : Nat × Nat} {Q : Res → Mem → Prop} {K : Nat → Nat × Nat} {I : Nat → Nat → Int32} {R : Nat → Nat → Option Nat} {L : Nat → Nat → Int64} {sz : Nat} {ex : Bool} {x0 x1 x2 x3 x4 x5 x6 : Option Value} {u : Nat} : X z 10 26 [x0, x1, x2, x3, x4, x5, x6] (.ref u :: st) cu (K, I, R, L, sz, ex) Q = ((K u).1 = 104 ∧ X z 10 29 [x0, x1, x2, x3, x4, x5, x6] (va_rf (R u 0) :: st) cu (K, I, R, L, sz, ex) Q) := by
  rw [x10_26]
  rfl
theorem v10_29 {z : P0} {st : List Value} {cu : Nat × Nat} {Q : Res → Mem → Prop} {σ : Mem} {x0 x1 x2 x3 x4 x6 : Option Value} {u : Int32} : X z 10 29 [x0, x1, x2, x3, x4, some (.int u), x6] (st) cu σ Q = (X z 10 31 [x0, x1, x2, x3, x4, some (.int u), x6] (.int u :: st) cu σ Q) := by
  rw [x10_29]
  rfl
theorem v10_31 {z : P0} {st : List Value} {cu : Nat × Nat} {Q : Res → Mem → Prop} {K : Nat → Nat × Nat} {I : Nat → Nat → Int32} {R : Nat → Nat → Option Nat} {L : Nat → Nat → Int64} {sz : Nat} {ex : Bool} {x0 x1 x2 x3 x4 x5 x6 : Option Value} {u : Nat} {v : Int32} : X z 10 31 [x0, x1, x2, x3, x4, x5, x6] (.int v :: .ref u :: st) cu (K, I, R, L, sz, ex) Q = (((K u).1 = 20 ∨ (K u).1 = 50) ∧ vp_in v (K u).2 ∧ X z 10 32 [x0, x1, x2, x3, x4, x5, x6] (.int (I u v.toNatClampNeg) :: st) cu (K, I, R, L, sz, ex) Q) := by
  rw [x10_31]
  rfl
theorem v10_32 {z : P0} {st : List Value} {cu : Nat × Nat} {Q : Res → Mem → Prop} {σ : Mem} {x0 x1 x2 x3 x4 x5 x6 : Option Value} {u : Int32} : X z 10 32 [x0, x1, x2, x3, x4, x5, x6] (.int u :: st) cu σ Q = (cat2 x5 = false ∧ X z 10 34 [x0, x1, x2, x3, x4, x5, some (.int u)] (st) cu σ Q) := by
  rw [x10_32]
  obtain ⟨K, I, R, L, sz, ex⟩ := σ
  exact i_istore.trans sl_6
theorem v10_34 {z : P0} {st : List Value} {cu : Nat × Nat} {Q : Res → Mem → Prop} {σ : Mem} {x0 x1 x2 x3 x4 x5 : Option Value} {u : Int32} : X z 10 34 [x0, x1, x2, x3, x4, x5, some (.int u)] (st) cu σ Q = (X z 10 36 [x0, x1, x2, x3, x4, x5, some (.int u)] (.int u :: st) cu σ Q) := by
  rw [x10_34]
  rfl
theorem v10_36 {z : P0} {st : List Value} {cu : Nat × Nat} {Q : Res → Mem → Prop} {σ : Mem} {x0 x1 x2 x3 x4 x5 x6 : Option Value} : X z 10 36 [x0, x1, x2, x3, x4, x5, x6] (st) cu σ Q = (X z 10 38 [x0, x1, x2, x3, x4, x5, x6] (.int (nI 123) :: st) cu σ Q) := by
  rw [x10_36]
  rfl
theorem v10_38 {z : P0} {st : List Value} {cu : Nat × Nat} {Q : Res → Mem → Prop} {σ : Mem} {x0 x1 x2 x3 x4 x5 x6 : Option Value} {u v : Int32} : X z 10 38 [x0, x1, x2, x3, x4, x5, x6] (.int v :: .int u :: st) cu σ Q = (if u = v then X z 10 41 [x0, x1, x2, x3, x4, x5, x6] (st) cu σ Q else X z 10 59 [x0, x1, x2, x3, x4, x5, x6] (st) cu σ Q) := by
  rw [x10_38]
  obtain ⟨K, I, R, L, sz, ex⟩ := σ
  exact br_ne
theorem v10_41 {z : P0} {st : List Value} {cu : Nat × Nat} {Q : Res → Mem → Prop} {σ : Mem} {x0 x1 x3 x4 x5 x6 : Option Value} {u : Nat} : X z 10 41 [x0, x1, some (.ref u), x3, x4, x5, x6] (st) cu σ Q = (X z 10 42 [x0, x1, some (.ref u), x3, x4, x5, x6] (.ref u :: st) cu σ Q) := by
  rw [x10_41]
  rfl
theorem v10_42 {z : P0} {st : List Value} {cu : Nat × Nat} {Q : Res → Mem → Prop} {K : Nat → Nat × Nat} {I : Nat → Nat → Int32} {R : Nat → Nat → Option Nat} {L : Nat → Nat → Int64} {sz : Nat} {ex : Bool} {x0 x1 x2 x3 x4 x5 x6 : Option Value} {u : Nat} : X z 10 42 [x0, x1, x2, x3, x4, x5, x6] (.ref u :: st) cu (K, I, R, L, sz, ex) Q = ((K u).1 = 102 ∧ X z 10 45 [x0, x1, x2, x3, x4, x5, x6] (.int (I u 1) :: st) cu (K, I, R, L, sz, ex) Q) := by
  rw [x10_42]
  rfl
theorem v10_45 {z : P0} {st : List Value} {cu : Nat × Nat} {Q : Res → Mem → Prop} {σ : Mem} {x0 x1 x2 x3 x4 x5 x6 : Option Value} : X z 10 45 [x0, x1, x2, x3, x4, x5, x6] (st) cu σ Q = (X z 10 46 [x0, x1, x2, x3, x4, x5, x6] (.int (nI 2) :: st) cu σ Q) := by
  rw [x10_45]
  rfl
theorem v10_46 {z : P0} {st : List Value} {cu : Nat × Nat} {Q : Res → Mem → Prop} {σ : Mem} {x0 x1 x2 x3 x4 x5 x6 : Option Value} {u v : Int32} : X z 10 46 [x0, x1, x2, x3, x4, x5, x6] (.int v :: .int u :: st) cu σ Q = (if u < v then X z 10 49 [x0, x1, x2, x3, x4, x5, x6] (st) cu σ Q else X z 10 53 [x0, x1, x2, x3, x4, x5, x6] (st) cu σ Q) := by
  rw [x10_46]
  obtain ⟨K, I, R, L, sz, ex⟩ := σ
  exact br_ge
theorem v10_49 {z : P0} {st : List Value} {cu : Nat × Nat} {Q : Res → Mem → Prop} {σ : Mem} {x0 x1 x2 x3 x4 x5 x6 : Option Value} : X z 10 49 [x0, x1, x2, x3, x4, x5, x6] (st) cu σ Q = (X z 10 50 [x0, x1, x2, x3, x4, x5, x6] (.int (nI 1) :: st) cu σ Q) := by
  rw [x10_49]
  rfl
theorem v10_50 {z : P0} {st : List Value} {cu : Nat × Nat} {Q : Res → Mem → Prop} {σ : Mem} {x0 x1 x2 x3 x4 x5 x6 : Option Value} : X z 10 50 [x0, x1, x2, x3, x4, x5, x6] (st) cu σ Q = (X z 10 54 [x0, x1, x2, x3, x4, x5, x6] (st) cu σ Q) := by
  rw [x10_50]
  rfl
theorem v10_53 {z : P0} {st : List Value} {cu : Nat × Nat} {Q : Res → Mem → Prop} {σ : Mem} {x0 x1 x2 x3 x4 x5 x6 : Option Value} : X z 10 53 [x0, x1, x2, x3, x4, x5, x6] (st) cu σ Q = (X z 10 54 [x0, x1, x2, x3, x4, x5, x6] (.int (nI 0) :: st) cu σ Q) := by
  rw [x10_53]
  rfl
theorem v10_54 {z : P0} {st : List Value} {cu : Nat × Nat} {Q : Res → Mem → Prop} {σ : Mem} {x0 x1 x2 x3 x4 x5 x6 : Option Value} {u : Int32} : X z 10 54 [x0, x1, x2, x3, x4, x5, x6] (.int u :: st) cu σ Q = (cat2 x3 = false ∧ X z 10 56 [x0, x1, x2, x3, some (.int u), x5, x6] (st) cu σ Q) := by
  rw [x10_54]
  obtain ⟨K, I, R, L, sz, ex⟩ := σ
  exact i_istore.trans sl_4
theorem v10_56 {z : P0} {st : List Value} {cu : Nat × Nat} {Q : Res → Mem → Prop} {σ : Mem} {x0 x1 x2 x3 x4 x5 x6 : Option Value} : X z 10 56 [x0, x1, x2, x3, x4, x5, x6] (st) cu σ Q = (X z 10 127 [x0, x1, x2, x3, x4, x5, x6] (st) cu σ Q) := by
  rw [x10_56]
  rfl
theorem v10_59 {z : P0} {st : List Value} {cu : Nat × Nat} {Q : Res → Mem → Prop} {σ : Mem} {x0 x1 x2 x3 x4 x5 : Option Value} {u : Int32} : X z 10 59 [x0, x1, x2, x3, x4, x5, some (.int u)] (st) cu σ Q = (X z 10 61 [x0, x1, x2, x3, x4, x5, some (.int u)] (.int u :: st) cu σ Q) := by
  rw [x10_59]
  rfl
theorem v10_61 {z : P0} {st : List Value} {cu : Nat × Nat} {Q : Res → Mem → Prop} {σ : Mem} {x0 x1 x2 x3 x4 x5 x6 : Option Value} : X z 10 61 [x0, x1, x2, x3, x4, x5, x6] (st) cu σ Q = (X z 10 63 [x0, x1, x2, x3, x4, x5, x6] (.int (nI 125) :: st) cu σ Q) := by
  rw [x10_61]
  rfl
theorem v10_63 {z : P0} {st : List Value} {cu : Nat × Nat} {Q : Res → Mem → Prop} {σ : Mem} {x0 x1 x2 x3 x4 x5 x6 : Option Value} {u v : Int32} : X z 10 63 [x0, x1, x2, x3, x4, x5, x6] (.int v :: .int u :: st) cu σ Q = (if u = v then X z 10 66 [x0, x1, x2, x3, x4, x5, x6] (st) cu σ Q else X z 10 72 [x0, x1, x2, x3, x4, x5, x6] (st) cu σ Q) := by
  rw [x10_63]
  obtain ⟨K, I, R, L, sz, ex⟩ := σ
  exact br_ne
theorem v10_66 {z : P0} {st : List Value} {cu : Nat × Nat} {Q : Res → Mem → Prop} {σ : Mem} {x0 x1 x2 x3 x4 x5 x6 : Option Value} : X z 10 66 [x0, x1, x2, x3, x4, x5, x6] (st) cu σ Q = (X z 10 67 [x0, x1, x2, x3, x4, x5, x6] (.int (nI 0) :: st) cu σ Q) := by
  rw [x10_66]
  rfl
theorem v10_67 {z : P0} {st : List Value} {cu : Nat × Nat} {Q : Res → Mem → Prop} {σ : Mem} {x0 x1 x2 x3 x4 x5 x6 : Option Value} {u : Int32} : X z 10 67 [x0, x1, x2, x3, x4, x5, x6] (.int u :: st) cu σ Q = (cat2 x3 = false ∧ X z 10 69 [x0, x1, x2, x3, some (.int u), x5, x6] (st) cu σ Q) := by
  rw [x10_67]
  obtain ⟨K, I, R, L, sz, ex⟩ := σ
  exact i_istore.trans sl_4
theorem v10_69 {z : P0} {st : List Value} {cu : Nat × Nat} {Q : Res → Mem → Prop} {σ : Mem} {x0 x1 x2 x3 x4 x5 x6 : Option Value} : X z 10 69 [x0, x1, x2, x3, x4, x5, x6] (st) cu σ Q = (X z 10 127 [x0, x1, x2, x3, x4, x5, x6] (st) cu σ Q) := by
  rw [x10_69]
  rfl
theorem v10_72 {z : P0} {st : List Value} {cu : Nat × Nat} {Q : Res → Mem → Prop} {σ : Mem} {x0 x1 x2 x3 x4 x5 : Option Value} {u : Int32} : X z 10 72 [x0, x1, x2, x3, x4, x5, some (.int u)] (st) cu σ Q = (X z 10 74 [x0, x1, x2, x3, x4, x5, some (.int u)] (.int u :: st) cu σ Q) := by
  rw [x10_72]
  rfl
theorem v10_74 {z : P0} {st : List Value} {cu : Nat × Nat} {Q : Res → Mem → Prop} {σ : Mem} {x0 x1 x2 x3 x4 x5 x6 : Option Value} : X z 10 74 [x0, x1, x2, x3, x4, x5, x6] (st) cu σ Q = (X z 10 76 [x0, x1, x2, x3, x4, x5, x6] (.int (nI 60) :: st) cu σ Q) := by
  rw [x10_74]
  rfl
theorem v10_76 {z : P0} {st : List Value} {cu : Nat × Nat} {Q : Res → Mem → Prop} {σ : Mem} {x0 x1 x2 x3 x4 x5 x6 : Option Value} {u v : Int32} : X z 10 76 [x0, x1, x2, x3, x4, x5, x6] (.int v :: .int u :: st) cu σ Q = (if u = v then X z 10 79 [x0, x1, x2, x3, x4, x5, x6] (st) cu σ Q else X z 10 116 [x0, x1, x2, x3, x4, x5, x6] (st) cu σ Q) := by
  rw [x10_76]
  obtain ⟨K, I, R, L, sz, ex⟩ := σ
  exact br_ne
theorem v10_79 {z : P0} {st : List Value} {cu : Nat × Nat} {Q : Res → Mem → Prop} {σ : Mem} {x0 x1 x2 x3 x5 x6 : Option Value} {u : Int32} : X z 10 79 [x0, x1, x2, x3, some (.int u), x5, x6] (st) cu σ Q = (X z 10 81 [x0, x1, x2, x3, some (.int u), x5, x6] (.int u :: st) cu σ Q) := by
  rw [x10_79]
  rfl
theorem v10_81 {z : P0} {st : List Value} {cu : Nat × Nat} {Q : Res → Mem → Prop} {σ : Mem} {x0 x1 x2 x3 x4 x5 x6 : Option Value} {u : Int32} : X z 10 81 [x0, x1, x2, x3, x4, x5, x6] (.int u :: st) cu σ Q = (if u = nI 0 then X z 10 84 [x0, x1, x2, x3, x4, x5, x6] (st) cu σ Q else X z 10 110 [x0, x1, x2, x3, x4, x5, x6] (st) cu σ Q) := by
  rw [x10_81]
  rw [nI_0]
  obtain ⟨K, I, R, L, sz, ex⟩ := σ
  exact br_ne
theorem v10_84 {z : P0} {st : List Value} {cu : Nat × Nat} {Q : Res → Mem → Prop} {σ : Mem} {x0 x1 x2 x3 x4 x6 : Option Value} {u : Int32} : X z 10 84 [x0, x1, x2, x3, x4, some (.int u), x6] (st) cu σ Q = (X z 10 86 [x0, x1, x2, x3, x4, some (.int u), x6] (.int u :: st) cu σ Q) := by
  rw [x10_84]
  rfl
theorem v10_86 {z : P0} {st : List Value} {cu : Nat × Nat} {Q : Res → Mem → Prop} {σ : Mem} {x0 x1 x2 x3 x4 x5 x6 : Option Value} : X z 10 86 [x0, x1, x2, x3, x4, x5, x6] (st) cu σ Q = (X z 10 87 [x0, x1, x2, x3, x4, x5, x6] (.int (nI 1) :: st) cu σ Q) := by
  rw [x10_86]
  rfl
theorem v10_87 {z : P0} {st : List Value} {cu : Nat × Nat} {Q : Res → Mem → Prop} {σ : Mem} {x0 x1 x2 x3 x4 x5 x6 : Option Value} {u v : Int32} : X z 10 87 [x0, x1, x2, x3, x4, x5, x6] (.int v :: .int u :: st) cu σ Q = (X z 10 88 [x0, x1, x2, x3, x4, x5, x6] (.int (u + v) :: st) cu σ Q) := by
  rw [x10_87]
  rfl
theorem v10_88 {z : P0} {st : List Value} {cu : Nat × Nat} {Q : Res → Mem → Prop} {σ : Mem} {x0 x1 x2 x4 x5 x6 : Option Value} {u : Nat} : X z 10 88 [x0, x1, x2, some (.ref u), x4, x5, x6] (st) cu σ Q = (X z 10 89 [x0, x1, x2, some (.ref u), x4, x5, x6] (.ref u :: st) cu σ Q) := by
  rw [x10_88]
  rfl
theorem v10_89 {z : P0} {st : List Value} {cu : Nat × Nat} {Q : Res → Mem → Prop} {K : Nat → Nat × Nat} {I : Nat → Nat → Int32} {R : Nat → Nat → Option Nat} {L : Nat → Nat → Int64} {sz : Nat} {ex : Bool} {x0 x1 x2 x3 x4 x5 x6 : Option Value} {u : Nat} : X z 10 89 [x0, x1, x2, x3, x4, x5, x6] (.ref u :: st) cu (K, I, R, L, sz, ex) Q = ((K u).1 = 104 ∧ X z 10 92 [x0, x1, x2, x3, x4, x5, x6] (.int (I u 1) :: st) cu (K, I, R, L, sz, ex) Q) := by
  rw [x10_89]
  rfl
theorem v10_92 {z : P0} {st : List Value} {cu : Nat × Nat} {Q : Res → Mem → Prop} {σ : Mem} {x0 x1 x2 x3 x4 x5 x6 : Option Value} {u v : Int32} : X z 10 92 [x0, x1, x2, x3, x4, x5, x6] (.int v :: .int u :: st) cu σ Q = (if u < v then X z 10 95 [x0, x1, x2, x3, x4, x5, x6] (st) cu σ Q else X z 10 110 [x0, x1, x2, x3, x4, x5, x6] (st) cu σ Q) := by
  rw [x10_92]
  obtain ⟨K, I, R, L, sz, ex⟩ := σ
  exact br_ge
theorem v10_95 {z : P0} {st : List Value} {cu : Nat × Nat} {Q : Res → Mem → Prop} {σ : Mem} {x1 x2 x3 x4 x5 x6 : Option Value} {u : Nat} : X z 10 95 [some (.ref u), x1, x2, x3, x4, x5, x6] (st) cu σ Q = (X z 10 96 [some (.ref u), x1, x2, x3, x4, x5, x6] (.ref u :: st) cu σ Q) := by
  rw [x10_95]
  rfl
theorem v10_96 {z : P0} {st : List Value} {cu : Nat × Nat} {Q : Res → Mem → Prop} {σ : Mem} {x0 x1 x2 x4 x5 x6 : Option Value} {u : Nat} : X z 10 96 [x0, x1, x2, some (.ref u), x4, x5, x6] (st) cu σ Q = (X z 10 97 [x0, x1, x2, some (.ref u), x4, x5, x6] (.ref u :: st) cu σ Q) := by
  rw [x10_96]
  rfl
theorem v10_97 {z : P0} {st : List Value} {cu : Nat × Nat} {Q : Res → Mem → Prop} {K : Nat → Nat × Nat} {I : Nat → Nat → Int32} {R : Nat → Nat → Option Nat} {L : Nat → Nat → Int64} {sz : Nat} {ex : Bool} {x0 x1 x2 x3 x4 x5 x6 : Option Value} {u : Nat} : X z 10 97 [x0, x1, x2, x3, x4, x5, x6] (.ref u :: st) cu (K, I, R, L, sz, ex) Q = ((K u).1 = 104 ∧ X z 10 100 [x0, x1, x2, x3, x4, x5, x6] (va_rf (R u 0) :: st) cu (K, I, R, L, sz, ex) Q) := by
  rw [x10_97]
  rfl
theorem v10_100 {z : P0} {st : List Value} {cu : Nat × Nat} {Q : Res → Mem → Prop} {σ : Mem} {x0 x1 x2 x3 x4 x6 : Option Value} {u : Int32} : X z 10 100 [x0, x1, x2, x3, x4, some (.int u), x6] (st) cu σ Q = (X z 10 102 [x0, x1, x2, x3, x4, some (.int u), x6] (.int u :: st) cu σ Q) := by
  rw [x10_100]
  rfl
theorem v10_102 {z : P0} {st : List Value} {cu : Nat × Nat} {Q : Res → Mem → Prop} {σ : Mem} {x0 x1 x2 x3 x4 x5 x6 : Option Value} : X z 10 102 [x0, x1, x2, x3, x4, x5, x6] (st) cu σ Q = (X z 10 103 [x0, x1, x2, x3, x4, x5, x6] (.int (nI 1) :: st) cu σ Q) := by
  rw [x10_102]
  rfl
theorem v10_103 {z : P0} {st : List Value} {cu : Nat × Nat} {Q : Res → Mem → Prop} {σ : Mem} {x0 x1 x2 x3 x4 x5 x6 : Option Value} {u v : Int32} : X z 10 103 [x0, x1, x2, x3, x4, x5, x6] (.int v :: .int u :: st) cu σ Q = (X z 10 104 [x0, x1, x2, x3, x4, x5, x6] (.int (u + v) :: st) cu σ Q) := by
  rw [x10_103]
  rfl
theorem v10_104 {z : P0} {st : List Value} {cu : Nat × Nat} {Q : Res → Mem → Prop} {K : Nat → Nat × Nat} {I : Nat → Nat → Int32} {R : Nat → Nat → Option Nat} {L : Nat → Nat → Int64} {sz : Nat} {ex : Bool} {x0 x1 x2 x3 x4 x5 x6 : Option Value} {u : Nat} {v : Int32} : X z 10 104 [x0, x1, x2, x3, x4, x5, x6] (.int v :: .ref u :: st) cu (K, I, R, L, sz, ex) Q = (((K u).1 = 20 ∨ (K u).1 = 50) ∧ vp_in v (K u).2 ∧ X z 10 105 [x0, x1, x2, x3, x4, x5, x6] (.int (I u v.toNatClampNeg) :: st) cu (K, I, R, L, sz, ex) Q) := by
  rw [x10_104]
  rfl
theorem v10_105 {z : P0} {st : List Value} {cu : Nat × Nat} {Q : Res → Mem → Prop} {σ : Mem} {x0 x2 x3 x4 x5 x6 : Option Value} {u : Nat} : X z 10 105 [x0, some (.ref u), x2, x3, x4, x5, x6] (st) cu σ Q = (X z 10 106 [x0, some (.ref u), x2, x3, x4, x5, x6] (.ref u :: st) cu σ Q) := by
  rw [x10_105]
  rfl
theorem v10_106 {z : P0} {st : List Value} {cu : Nat × Nat} {Q : Res → Mem → Prop} {σ : Mem} {x0 x1 x3 x4 x5 x6 : Option Value} {u : Nat} : X z 10 106 [x0, x1, some (.ref u), x3, x4, x5, x6] (st) cu σ Q = (X z 10 107 [x0, x1, some (.ref u), x3, x4, x5, x6] (.ref u :: st) cu σ Q) := by
  rw [x10_106]
  rfl
theorem u10_107 {z : P0} {ls : Lcs} {st : List Value} {K : Nat → Nat × Nat} {I : Nat → Nat → Int32} {R : Nat → Nat → Option Nat} {L : Nat → Nat → Int64} {sz : Nat} {ex : Bool} {Q : Res → Mem → Prop} {x : Nat} {a0 : Int32} {a1 : Nat} {a2 : Nat} : X z 10 107 ls (.ref a2 :: .ref a1 :: .int a0 :: .ref x :: st) (0, 0) (K, I, R, L, sz, ex) Q = ((K x).1 = 101 ∧ wsum st ≤ 8 ∧ X z 11 0 [some (.ref x), some (.int a0), some (.ref a1), some (.ref a2)] [] (0, 0) (K, I, R, L, sz, ex) (aftr (X z) mT 10 107 ls st (0, 0) Q)) := v10_107 (c := 0) (n := 0)
theorem v10_110 {z : P0} {st : List Value} {cu : Nat × Nat} {Q : Res → Mem → Prop} {σ : Mem} {x0 x1 x2 x3 x4 x6 : Option Value} {u : Int32} : X z 10 110 [x0, x1, x2, x3, x4, some (.int u), x6] (st) cu σ Q = (cat2 x4 = false ∧ X z 10 113 [x0, x1, x2, x3, x4, some (.int (u + nI 2)), x6] (st) cu σ Q) := by
  rw [x10_110]
  obtain ⟨K, I, R, L, sz, ex⟩ := σ
  exact i_iinc.trans (gl_5.trans (ldI_i.trans sl_5))
theorem v10_113 {z : P0} {st : List Value} {cu : Nat × Nat} {Q : Res → Mem → Prop} {σ : Mem} {x0 x1 x2 x3 x4 x5 x6 : Option Value} : X z 10 113 [x0, x1, x2, x3, x4, x5, x6] (st) cu σ Q = (X z 10 127 [x0, x1, x2, x3, x4, x5, x6] (st) cu σ Q) := by
  rw [x10_113]
  rfl
theorem v10_116 {z : P0} {st : List Value} {cu : Nat × Nat} {Q : Res → Mem → Prop} {σ : Mem} {x0 x1 x2 x3 x5 x6 : Option Value} {u : Int32} : X z 10 116 [x0, x1, x2, x3, some (.int u), x5, x6] (st) cu σ Q = (X z 10 118 [x0, x1, x2, x3, some (.int u), x5, x6] (.int u :: st) cu σ Q) := by
  rw [x10_116]
  rfl
theorem v10_118 {z : P0} {st : List Value} {cu : Nat × Nat} {Q : Res → Mem → Prop} {σ : Mem} {x0 x1 x2 x3 x4 x5 x6 : Option Value} {u : Int32} : X z 10 118 [x0, x1, x2, x3, x4, x5, x6] (.int u :: st) cu σ Q = (if u = nI 0 then X z 10 121 [x0, x1, x2, x3, x4, x5, x6] (st) cu σ Q else X z 10 127 [x0, x1, x2, x3, x4, x5, x6] (st) cu σ Q) := by
  rw [x10_118]
  rw [nI_0]
  obtain ⟨K, I, R, L, sz, ex⟩ := σ
  exact br_ne
theorem v10_121 {z : P0} {st : List Value} {cu : Nat × Nat} {Q : Res → Mem → Prop} {σ : Mem} {x1 x2 x3 x4 x5 x6 : Option Value} {u : Nat} : X z 10 121 [some (.ref u), x1, x2, x3, x4, x5, x6] (st) cu σ Q = (X z 10 122 [some (.ref u), x1, x2, x3, x4, x5, x6] (.ref u :: st) cu σ Q) := by
  rw [x10_121]
  rfl
theorem v10_122 {z : P0} {st : List Value} {cu : Nat × Nat} {Q : Res → Mem → Prop} {σ : Mem} {x0 x1 x2 x3 x4 x5 : Option Value} {u : Int32} : X z 10 122 [x0, x1, x2, x3, x4, x5, some (.int u)] (st) cu σ Q = (X z 10 124 [x0, x1, x2, x3, x4, x5, some (.int u)] (.int u :: st) cu σ Q) := by
  rw [x10_122]
  rfl
theorem u10_124 {z : P0} {ls : Lcs} {st : List Value} {K : Nat → Nat × Nat} {I : Nat → Nat → Int32} {R : Nat → Nat → Option Nat} {L : Nat → Nat → Int64} {sz : Nat} {ex : Bool} {Q : Res → Mem → Prop} {x : Nat} {a0 : Int32} : X z 10 124 ls (.int a0 :: .ref x :: st) (0, 0) (K, I, R, L, sz, ex) Q = ((K x).1 = 101 ∧ wsum st ≤ 8 ∧ X z 19 0 [some (.ref x), some (.int a0)] [] (0, 0) (K, I, R, L, sz, ex) (aftr (X z) mT 10 124 ls st (0, 0) Q)) := v10_124 (c := 0) (n := 0)
theorem v10_127 {z : P0} {st : List Value} {cu : Nat × Nat} {Q : Res → Mem → Prop} {σ : Mem} {x0 x1 x2 x3 x4 x6 : Option Value} {u : Int32} : X z 10 127 [x0, x1, x2, x3, x4, some (.int u), x6] (st) cu σ Q = (cat2 x4 = false ∧ X z 10 130 [x0, x1, x2, x3, x4, some (.int (u + nI 1)), x6] (st) cu σ Q) := by
  rw [x10_127]
  obtain ⟨K, I, R, L, sz, ex⟩ := σ
  exact i_iinc.trans (gl_5.trans (ldI_i.trans sl_5))
theorem v10_130 {z : P0} {st : List Value} {cu : Nat × Nat} {Q : Res → Mem → Prop} {σ : Mem} {x0 x1 x2 x3 x4 x5 x6 : Option Value} : X z 10 130 [x0, x1, x2, x3, x4, x5, x6] (st) cu σ Q = (X z 10 16 [x0, x1, x2, x3, x4, x5, x6] (st) cu σ Q) := by
  rw [x10_130]
  rfl
theorem v10_133 {z : P0} {cu : Nat × Nat} {Q : Res → Mem → Prop} {σ : Mem} {x0 x1 x2 x3 x4 x5 x6 : Option Value} : X z 10 133 [x0, x1, x2, x3, x4, x5, x6] ([]) cu σ Q = (Q (.inl none) σ) := by
  rw [x10_133]
  rfl
theorem v11_0 {z : P0} {st : List Value} {cu : Nat × Nat} {Q : Res → Mem → Prop} {σ : Mem} {x0 x2 x3 : Option Value} {u : Int32} : X z 11 0 [x0, some (.int u), x2, x3] (st) cu σ Q = (X z 11 1 [x0, some (.int u), x2, x3] (.int u :: st) cu σ Q) := by
  rw [x11_0]
  rfl
theorem v11_1 {z : P0} {st : List Value} {cu : Nat × Nat} {Q : Res → Mem → Prop} {σ : Mem} {x0 x1 x2 x3 : Option Value} : X z 11 1 [x0, x1, x2, x3] (st) cu σ Q = (X z 11 3 [x0, x1, x2, x3] (.int (nI 110) :: st) cu σ Q) := by
  rw [x11_1]
  rfl
theorem v11_3 {z : P0} {st : List Value} {cu : Nat × Nat} {Q : Res → Mem → Prop} {σ : Mem} {x0 x1 x2 x3 : Option Value} {u v : Int32} : X z 11 3 [x0, x1, x2, x3] (.int v :: .int u :: st) cu σ Q = (if u = v then X z 11 6 [x0, x1, x2, x3] (st) cu σ Q else X z 11 15 [x0, x1, x2, x3] (st) cu σ Q) := by
  rw [x11_3]
  obtain ⟨K, I, R, L, sz, ex⟩ := σ
  exact br_ne
theorem v11_6 {z : P0} {st : List Value} {cu : Nat × Nat} {Q : Res → Mem → Prop} {σ : Mem} {x1 x2 x3 : Option Value} {u : Nat} : X z 11 6 [some (.ref u), x1, x2, x3] (st) cu σ Q = (X z 11 7 [some (.ref u), x1, x2, x3] (.ref u :: st) cu σ Q) := by
  rw [x11_6]
  rfl
theorem v11_7 {z : P0} {st : List Value} {cu : Nat × Nat} {Q : Res → Mem → Prop} {σ : Mem} {x0 x1 x3 : Option Value} {u : Nat} : X z 11 7 [x0, x1, some (.ref u), x3] (st) cu σ Q = (X z 11 8 [x0, x1, some (.ref u), x3] (.ref u :: st) cu σ Q) := by
  rw [x11_7]
  rfl
theorem v11_8 {z : P0} {st : List Value} {cu : Nat × Nat} {Q : Res → Mem → Prop} {σ : Mem} {x0 x1 x2 : Option Value} {u : Nat} : X z 11 8 [x0, x1, x2, some (.ref u)] (st) cu σ Q = (X z 11 9 [x0, x1, x2, some (.ref u)] (.ref u :: st) cu σ Q) := by
  rw [x11_8]
  rfl
theorem u11_9 {z : P0} {ls : Lcs} {st : List Value} {K : Nat → Nat × Nat} {I : Nat → Nat → Int32} {R : Nat → Nat → Option Nat} {L : Nat → Nat → Int64} {sz : Nat} {ex : Bool} {Q : Res → Mem → Prop} {x : Nat} {a0 : Nat} {a1 : Nat} : X z 11 9 ls (.ref a1 :: .ref a0 :: .ref x :: st) (0, 0) (K, I, R, L, sz, ex) Q = ((K x).1 = 101 ∧ wsum st ≤ 8 ∧ X z 12 0 [some (.ref x), some (.ref a0), some (.ref a1), none, none] [] (0, 0) (K, I, R, L, sz, ex) (aftr (X z) mT 11 9 ls st (0, 0) Q)) := v11_9 (c := 0) (n := 0)
theorem v11_12 {z : P0} {st : List Value} {cu : Nat × Nat} {Q : Res → Mem → Prop} {σ : Mem} {x0 x1 x2 x3 : Option Value} : X z 11 12 [x0, x1, x2, x3] (st) cu σ Q = (X z 11 56 [x0, x1, x2, x3] (st) cu σ Q) := by
  rw [x11_12]
  rfl
theorem v11_15 {z : P0} {st : List Value} {cu : Nat × Nat} {Q : Res → Mem → Prop} {σ : Mem} {x0 x2 x3 : Option Value} {u : Int32} : X z 11 15 [x0, some (.int u), x2, x3] (st) cu σ Q = (X z 11 16 [x0, some (.int u), x2, x3] (.int u :: st) cu σ Q) := by
  rw [x11_15]
  rfl
theorem v11_16 {z : P0} {st : List Value} {cu : Nat × Nat} {Q : Res → Mem → Prop} {σ : Mem} {x0 x1 x2 x3 : Option Value} : X z 11 16 [x0, x1, x2, x3] (st) cu σ Q = (X z 11 18 [x0, x1, x2, x3] (.int (nI 103) :: st) cu σ Q) := by
  rw [x11_16]
  rfl
theorem v11_18 {z : P0} {st : List Value} {cu : Nat × Nat} {Q : Res → Mem → Prop} {σ : Mem} {x0 x1 x2 x3 : Option Value} {u v : Int32} : X z 11 18 [x0, x1, x2, x3] (.int v :: .int u :: st) cu σ Q = (if u = v then X z 11 21 [x0, x1, x2, x3] (st) cu σ Q else X z 11 30 [x0, x1, x2, x3] (st) cu σ Q) := by
  rw [x11_18]
  obtain ⟨K, I, R, L, sz, ex⟩ := σ
  exact br_ne
theorem v11_21 {z : P0} {st : List Value} {cu : Nat × Nat} {Q : Res → Mem → Prop} {σ : Mem} {x1 x2 x3 : Option Value} {u : Nat} : X z 11 21 [some (.ref u), x1, x2, x3] (st) cu σ Q = (X z 11 22 [some (.ref u), x1, x2, x3] (.ref u :: st) cu σ Q) := by
  rw [x11_21]
  rfl
theorem v11_22 {z : P0} {st : List Value} {cu : Nat × Nat} {Q : Res → Mem → Prop} {σ : Mem} {x0 x1 x3 : Option Value} {u : Nat} : X z 11 22 [x0, x1, some (.ref u), x3] (st) cu σ Q = (X z 11 23 [x0, x1, some (.ref u), x3] (.ref u :: st) cu σ Q) := by
  rw [x11_22]
  rfl
theorem v11_23 {z : P0} {st : List Value} {cu : Nat × Nat} {Q : Res → Mem → Prop} {σ : Mem} {x0 x1 x2 : Option Value} {u : Nat} : X z 11 23 [x0, x1, x2, some (.ref u)] (st) cu σ Q = (X z 11 24 [x0, x1, x2, some (.ref u)] (.ref u :: st) cu σ Q) := by
  rw [x11_23]
  rfl
theorem u11_24 {z : P0} {ls : Lcs} {st : List Value} {K : Nat → Nat × Nat} {I : Nat → Nat → Int32} {R : Nat → Nat → Option Nat} {L : Nat → Nat → Int64} {sz : Nat} {ex : Bool} {Q : Res → Mem → Prop} {x : Nat} {a0 : Nat} {a1 : Nat} : X z 11 24 ls (.ref a1 :: .ref a0 :: .ref x :: st) (0, 0) (K, I, R, L, sz, ex) Q = ((K x).1 = 101 ∧ wsum st ≤ 8 ∧ X z 13 0 [some (.ref x), some (.ref a0), some (.ref a1), none, none] [] (0, 0) (K, I, R, L, sz, ex) (aftr (X z) mT 11 24 ls st (0, 0) Q)) := v11_24 (c := 0) (n := 0)
theorem v11_27 {z : P0} {st : List Value} {cu : Nat × Nat} {Q : Res → Mem → Prop} {σ : Mem} {x0 x1 x2 x3 : Option Value} : X z 11 27 [x0, x1, x2, x3] (st) cu σ Q = (X z 11 56 [x0, x1, x2, x3] (st) cu σ Q) := by
  rw [x11_27]
  rfl
theorem v11_30 {z : P0} {st : List Value} {cu : Nat × Nat} {Q : Res → Mem → Prop} {σ : Mem} {x0 x2 x3 : Option Value} {u : Int32} : X z 11 30 [x0, some (.int u), x2, x3] (st) cu σ Q = (X z 11 31 [x0, some (.int u), x2, x3] (.int u :: st) cu σ Q) := by
  rw [x11_30]
  rfl
theorem v11_31 {z : P0} {st : List Value} {cu : Nat × Nat} {Q : Res → Mem → Prop} {σ : Mem} {x0 x1 x2 x3 : Option Value} : X z 11 31 [x0, x1, x2, x3] (st) cu σ Q = (X z 11 33 [x0, x1, x2, x3] (.int (nI 119) :: st) cu σ Q) := by
  rw [x11_31]
  rfl
theorem v11_33 {z : P0} {st : List Value} {cu : Nat × Nat} {Q : Res → Mem → Prop} {σ : Mem} {x0 x1 x2 x3 : Option Value} {u v : Int32} : X z 11 33 [x0, x1, x2, x3] (.int v :: .int u :: st) cu σ Q = (if u = v then X z 11 36 [x0, x1, x2, x3] (st) cu σ Q else X z 11 45 [x0, x1, x2, x3] (st) cu σ Q) := by
  rw [x11_33]
  obtain ⟨K, I, R, L, sz, ex⟩ := σ
  exact br_ne
theorem v11_36 {z : P0} {st : List Value} {cu : Nat × Nat} {Q : Res → Mem → Prop} {σ : Mem} {x1 x2 x3 : Option Value} {u : Nat} : X z 11 36 [some (.ref u), x1, x2, x3] (st) cu σ Q = (X z 11 37 [some (.ref u), x1, x2, x3] (.ref u :: st) cu σ Q) := by
  rw [x11_36]
  rfl
theorem v11_37 {z : P0} {st : List Value} {cu : Nat × Nat} {Q : Res → Mem → Prop} {σ : Mem} {x0 x1 x3 : Option Value} {u : Nat} : X z 11 37 [x0, x1, some (.ref u), x3] (st) cu σ Q = (X z 11 38 [x0, x1, some (.ref u), x3] (.ref u :: st) cu σ Q) := by
  rw [x11_37]
  rfl
theorem v11_38 {z : P0} {st : List Value} {cu : Nat × Nat} {Q : Res → Mem → Prop} {σ : Mem} {x0 x1 x2 : Option Value} {u : Nat} : X z 11 38 [x0, x1, x2, some (.ref u)] (st) cu σ Q = (X z 11 39 [x0, x1, x2, some (.ref u)] (.ref u :: st) cu σ Q) := by
  rw [x11_38]
  rfl
theorem u11_39 {z : P0} {ls : Lcs} {st : List Value} {K : Nat → Nat × Nat} {I : Nat → Nat → Int32} {R : Nat → Nat → Option Nat} {L : Nat → Nat → Int64} {sz : Nat} {ex : Bool} {Q : Res → Mem → Prop} {x : Nat} {a0 : Nat} {a1 : Nat} : X z 11 39 ls (.ref a1 :: .ref a0 :: .ref x :: st) (0, 0) (K, I, R, L, sz, ex) Q = ((K x).1 = 101 ∧ wsum st ≤ 8 ∧ X z 15 0 [some (.ref x), some (.ref a0), some (.ref a1), none, none, none] [] (0, 0) (K, I, R, L, sz, ex) (aftr (X z) mT 11 39 ls st (0, 0) Q)) := v11_39 (c := 0) (n := 0)
theorem v11_42 {z : P0} {st : List Value} {cu : Nat × Nat} {Q : Res → Mem → Prop} {σ : Mem} {x0 x1 x2 x3 : Option Value} : X z 11 42 [x0, x1, x2, x3] (st) cu σ Q = (X z 11 56 [x0, x1, x2, x3] (st) cu σ Q) := by
  rw [x11_42]
  rfl
theorem v11_45 {z : P0} {st : List Value} {cu : Nat × Nat} {Q : Res → Mem → Prop} {σ : Mem} {x1 x2 x3 : Option Value} {u : Nat} : X z 11 45 [some (.ref u), x1, x2, x3] (st) cu σ Q = (X z 11 46 [some (.ref u), x1, x2, x3] (.ref u :: st) cu σ Q) := by
  rw [x11_45]
  rfl
theorem v11_46 {z : P0} {st : List Value} {cu : Nat × Nat} {Q : Res → Mem → Prop} {σ : Mem} {x0 x1 x2 x3 : Option Value} : X z 11 46 [x0, x1, x2, x3] (st) cu σ Q = (X z 11 48 [x0, x1, x2, x3] (.int (nI 48) :: st) cu σ Q) := by
  rw [x11_46]
  rfl
theorem v11_48 {z : P0} {st : List Value} {cu : Nat × Nat} {Q : Res → Mem → Prop} {σ : Mem} {x0 x1 x2 : Option Value} {u : Nat} : X z 11 48 [x0, x1, x2, some (.ref u)] (st) cu σ Q = (X z 11 49 [x0, x1, x2, some (.ref u)] (.ref u :: st) cu σ Q) := by
  rw [x11_48]
  rfl
theorem v11_49 {z : P0} {st : List Value} {cu : Nat × Nat} {Q : Res → Mem → Prop} {K : Nat → Nat × Nat} {I : Nat → Nat → Int32} {R : Nat → Nat → Option Nat} {L : Nat → Nat → Int64} {sz : Nat} {ex : Bool} {x0 x1 x2 x3 : Option Value} {u : Nat} : X z 11 49 [x0, x1, x2, x3] (.ref u :: st) cu (K, I, R, L, sz, ex) Q = ((K u).1 = 102 ∧ X z 11 52 [x0, x1, x2, x3] (.int (I u 1) :: st) cu (K, I, R, L, sz, ex) Q) := by
  rw [x11_49]
  rfl
theorem v11_52 {z : P0} {st : List Value} {cu : Nat × Nat} {Q : Res → Mem → Prop} {σ : Mem} {x0 x1 x2 x3 : Option Value} {u v : Int32} : X z 11 52 [x0, x1, x2, x3] (.int v :: .int u :: st) cu σ Q = (X z 11 53 [x0, x1, x2, x3] (.int (u + v) :: st) cu σ Q) := by
  rw [x11_52]
  rfl
theorem u11_53 {z : P0} {ls : Lcs} {st : List Value} {K : Nat → Nat × Nat} {I : Nat → Nat → Int32} {R : Nat → Nat → Option Nat} {L : Nat → Nat → Int64} {sz : Nat} {ex : Bool} {Q : Res → Mem → Prop} {x : Nat} {a0 : Int32} : X z 11 53 ls (.int a0 :: .ref x :: st) (0, 0) (K, I, R, L, sz, ex) Q = ((K x).1 = 101 ∧ wsum st ≤ 8 ∧ X z 19 0 [some (.ref x), some (.int a0)] [] (0, 0) (K, I, R, L, sz, ex) (aftr (X z) mT 11 53 ls st (0, 0) Q)) := v11_53 (c := 0) (n := 0)
theorem v11_56 {z : P0} {cu : Nat × Nat} {Q : Res → Mem → Prop} {σ : Mem} {x0 x1 x2 x3 : Option Value} : X z 11 56 [x0, x1, x2, x3] ([]) cu σ Q = (Q (.inl none) σ) := by
  rw [x11_56]
  rfl
theorem v12_0 {z : P0} {st : List Value} {cu : Nat × Nat} {Q : Res → Mem → Prop} {σ : Mem} {x0 x1 x2 x3 x4 : Option Value} : X z 12 0 [x0, x1, x2, x3, x4] (st) cu σ Q = (X z 12 1 [x0, x1, x2, x3, x4] (.int (nI 0) :: st) cu σ Q) := by
  rw [x12_0]
  rfl
theorem v12_1 {z : P0} {st : List Value} {cu : Nat × Nat} {Q : Res → Mem → Prop} {σ : Mem} {x0 x1 x2 x3 x4 : Option Value} {u : Int32} : X z 12 1 [x0, x1, x2, x3, x4] (.int u :: st) cu σ Q = (cat2 x2 = false ∧ X z 12 2 [x0, x1, x2, some (.int u), x4] (st) cu σ Q) := by
  rw [x12_1]
  obtain ⟨K, I, R, L, sz, ex⟩ := σ
  exact i_istore_n.trans sl_3
theorem v12_2 {z : P0} {st : List Value} {cu : Nat × Nat} {Q : Res → Mem → Prop} {σ : Mem} {x0 x1 x2 x4 : Option Value} {u : Int32} : X z 12 2 [x0, x1, x2, some (.int u), x4] (st) cu σ Q = (X z 12 3 [x0, x1, x2, some (.int u), x4] (.int u :: st) cu σ Q) := by
  rw [x12_2]
  rfl
theorem v12_3 {z : P0} {st : List Value} {cu : Nat × Nat} {Q : Res → Mem → Prop} {σ : Mem} {x0 x1 x3 x4 : Option Value} {u : Nat} : X z 12 3 [x0, x1, some (.ref u), x3, x4] (st) cu σ Q = (X z 12 4 [x0, x1, some (.ref u), x3, x4] (.ref u :: st) cu σ Q) := by
  rw [x12_3]
  rfl
theorem v12_4 {z : P0} {st : List Value} {cu : Nat × Nat} {Q : Res → Mem → Prop} {K : Nat → Nat × Nat} {I : Nat → Nat → Int32} {R : Nat → Nat → Option Nat} {L : Nat → Nat → Int64} {sz : Nat} {ex : Bool} {x0 x1 x2 x3 x4 : Option Value} {u : Nat} : X z 12 4 [x0, x1, x2, x3, x4] (.ref u :: st) cu (K, I, R, L, sz, ex) Q = ((K u).1 = 102 ∧ X z 12 7 [x0, x1, x2, x3, x4] (.int (I u 1) :: st) cu (K, I, R, L, sz, ex) Q) := by
  rw [x12_4]
  rfl
theorem v12_7 {z : P0} {st : List Value} {cu : Nat × Nat} {Q : Res → Mem → Prop} {σ : Mem} {x0 x1 x2 x3 x4 : Option Value} {u v : Int32} : X z 12 7 [x0, x1, x2, x3, x4] (.int v :: .int u :: st) cu σ Q = (if u < v then X z 12 10 [x0, x1, x2, x3, x4] (st) cu σ Q else X z 12 68 [x0, x1, x2, x3, x4] (st) cu σ Q) := by
  rw [x12_7]
  obtain ⟨K, I, R, L, sz, ex⟩ := σ
  exact br_ge
theorem v12_10 {z : P0} {st : List Value} {cu : Nat × Nat} {Q : Res → Mem → Prop} {σ : Mem} {x0 x2 x3 x4 : Option Value} {u : Nat} : X z 12 10 [x0, some (.ref u), x2, x3, x4] (st) cu σ Q = (X z 12 11 [x0, some (.ref u), x2, x3, x4] (.ref u :: st) cu σ Q) := by
  rw [x12_10]
  rfl
theorem v12_11 {z : P0} {st : List Value} {cu : Nat × Nat} {Q : Res → Mem → Prop} {K : Nat → Nat × Nat} {I : Nat → Nat → Int32} {R : Nat → Nat → Option Nat} {L : Nat → Nat → Int64} {sz : Nat} {ex : Bool} {x0 x1 x2 x3 x4 : Option Value} {u : Nat} : X z 12 11 [x0, x1, x2, x3, x4] (.ref u :: st) cu (K, I, R, L, sz, ex) Q = ((K u).1 = 108 ∧ X z 12 14 [x0, x1, x2, x3, x4] (va_rf (R u 0) :: st) cu (K, I, R, L, sz, ex) Q) := by
  rw [x12_11]
  rfl
theorem v12_14 {z : P0} {st : List Value} {cu : Nat × Nat} {Q : Res → Mem → Prop} {σ : Mem} {x0 x1 x3 x4 : Option Value} {u : Nat} : X z 12 14 [x0, x1, some (.ref u), x3, x4] (st) cu σ Q = (X z 12 15 [x0, x1, some (.ref u), x3, x4] (.ref u :: st) cu σ Q) := by
  rw [x12_14]
  rfl
theorem v12_15 {z : P0} {st : List Value} {cu : Nat × Nat} {Q : Res → Mem → Prop} {K : Nat → Nat × Nat} {I : Nat → Nat → Int32} {R : Nat → Nat → Option Nat} {L : Nat → Nat → Int64} {sz : Nat} {ex : Bool} {x0 x1 x2 x3 x4 : Option Value} {u : Nat} : X z 12 15 [x0, x1, x2, x3, x4] (.ref u :: st) cu (K, I, R, L, sz, ex) Q = ((K u).1 = 102 ∧ X z 12 18 [x0, x1, x2, x3, x4] (va_rf (R u 0) :: st) cu (K, I, R, L, sz, ex) Q) := by
  rw [x12_15]
  rfl
theorem v12_18 {z : P0} {st : List Value} {cu : Nat × Nat} {Q : Res → Mem → Prop} {σ : Mem} {x0 x1 x2 x4 : Option Value} {u : Int32} : X z 12 18 [x0, x1, x2, some (.int u), x4] (st) cu σ Q = (X z 12 19 [x0, x1, x2, some (.int u), x4] (.int u :: st) cu σ Q) := by
  rw [x12_18]
  rfl
theorem v12_19 {z : P0} {st : List Value} {cu : Nat × Nat} {Q : Res → Mem → Prop} {K : Nat → Nat × Nat} {I : Nat → Nat → Int32} {R : Nat → Nat → Option Nat} {L : Nat → Nat → Int64} {sz : Nat} {ex : Bool} {x0 x1 x2 x3 x4 : Option Value} {u : Nat} {v : Int32} : X z 12 19 [x0, x1, x2, x3, x4] (.int v :: .ref u :: st) cu (K, I, R, L, sz, ex) Q = (((K u).1 = 20 ∨ (K u).1 = 50) ∧ vp_in v (K u).2 ∧ X z 12 20 [x0, x1, x2, x3, x4] (.int (I u v.toNatClampNeg) :: st) cu (K, I, R, L, sz, ex) Q) := by
  rw [x12_19]
  rfl
theorem v12_20 {z : P0} {st : List Value} {cu : Nat × Nat} {Q : Res → Mem → Prop} {K : Nat → Nat × Nat} {I : Nat → Nat → Int32} {R : Nat → Nat → Option Nat} {L : Nat → Nat → Int64} {sz : Nat} {ex : Bool} {x0 x1 x2 x3 x4 : Option Value} {u : Nat} {v : Int32} : X z 12 20 [x0, x1, x2, x3, x4] (.int v :: .ref u :: st) cu (K, I, R, L, sz, ex) Q = (((K u).1 = 22 ∨ (K u).1 = 23 ∨ (K u).1 = 24 ∨ (K u).1 = 25) ∧ vp_in v (K u).2 ∧ X z 12 21 [x0, x1, x2, x3, x4] (va_rf (R u v.toNatClampNeg) :: st) cu (K, I, R, L, sz, ex) Q) := by
  rw [x12_20]
  rfl
theorem v12_21 {z : P0} {st : List Value} {cu : Nat × Nat} {Q : Res → Mem → Prop} {σ : Mem} {x0 x1 x2 x3 x4 : Option Value} {u : Nat} : X z 12 21 [x0, x1, x2, x3, x4] (.ref u :: st) cu σ Q = (cat2 x3 = false ∧ X z 12 23 [x0, x1, x2, x3, some (.ref u)] (st) cu σ Q) := by
  rw [x12_21]
  obtain ⟨K, I, R, L, sz, ex⟩ := σ
  exact i_astore.trans sl_4
theorem v12_23 {z : P0} {st : List Value} {cu : Nat × Nat} {Q : Res → Mem → Prop} {σ : Mem} {x0 x1 x2 x4 : Option Value} {u : Int32} : X z 12 23 [x0, x1, x2, some (.int u), x4] (st) cu σ Q = (X z 12 24 [x0, x1, x2, some (.int u), x4] (.int u :: st) cu σ Q) := by
  rw [x12_23]
  rfl
theorem v12_24 {z : P0} {st : List Value} {cu : Nat × Nat} {Q : Res → Mem → Prop} {σ : Mem} {x0 x1 x2 x3 x4 : Option Value} {u : Int32} : X z 12 24 [x0, x1, x2, x3, x4] (.int u :: st) cu σ Q = (if nI 0 < u then X z 12 27 [x0, x1, x2, x3, x4] (st) cu σ Q else X z 12 48 [x0, x1, x2, x3, x4] (st) cu σ Q) := by
  rw [x12_24]
  rw [nI_0]
  obtain ⟨K, I, R, L, sz, ex⟩ := σ
  exact br_ge
theorem v12_27 {z : P0} {st : List Value} {cu : Nat × Nat} {Q : Res → Mem → Prop} {σ : Mem} {x1 x2 x3 x4 : Option Value} {u : Nat} : X z 12 27 [some (.ref u), x1, x2, x3, x4] (st) cu σ Q = (X z 12 28 [some (.ref u), x1, x2, x3, x4] (.ref u :: st) cu σ Q) := by
  rw [x12_27]
  rfl
theorem v12_28 {z : P0} {st : List Value} {cu : Nat × Nat} {Q : Res → Mem → Prop} {σ : Mem} {x0 x1 x2 x4 : Option Value} {u : Int32} : X z 12 28 [x0, x1, x2, some (.int u), x4] (st) cu σ Q = (X z 12 29 [x0, x1, x2, some (.int u), x4] (.int u :: st) cu σ Q) := by
  rw [x12_28]
  rfl
theorem v12_29 {z : P0} {st : List Value} {cu : Nat × Nat} {Q : Res → Mem → Prop} {σ : Mem} {x0 x1 x3 x4 : Option Value} {u : Nat} : X z 12 29 [x0, x1, some (.ref u), x3, x4] (st) cu σ Q = (X z 12 30 [x0, x1, some (.ref u), x3, x4] (.ref u :: st) cu σ Q) := by
  rw [x12_29]
  rfl
theorem v12_30 {z : P0} {st : List Value} {cu : Nat × Nat} {Q : Res → Mem → Prop} {K : Nat → Nat × Nat} {I : Nat → Nat → Int32} {R : Nat → Nat → Option Nat} {L : Nat → Nat → Int64} {sz : Nat} {ex : Bool} {x0 x1 x2 x3 x4 : Option Value} {u : Nat} : X z 12 30 [x0, x1, x2, x3, x4] (.ref u :: st) cu (K, I, R, L, sz, ex) Q = ((K u).1 = 102 ∧ X z 12 33 [x0, x1, x2, x3, x4] (.int (I u 1) :: st) cu (K, I, R, L, sz, ex) Q) := by
  rw [x12_30]
  rfl
theorem v12_33 {z : P0} {st : List Value} {cu : Nat × Nat} {Q : Res → Mem → Prop} {σ : Mem} {x0 x1 x2 x3 x4 : Option Value} : X z 12 33 [x0, x1, x2, x3, x4] (st) cu σ Q = (X z 12 34 [x0, x1, x2, x3, x4] (.int (nI 1) :: st) cu σ Q) := by
  rw [x12_33]
  rfl
theorem v12_34 {z : P0} {st : List Value} {cu : Nat × Nat} {Q : Res → Mem → Prop} {σ : Mem} {x0 x1 x2 x3 x4 : Option Value} {u v : Int32} : X z 12 34 [x0, x1, x2, x3, x4] (.int v :: .int u :: st) cu σ Q = (X z 12 35 [x0, x1, x2, x3, x4] (.int (u - v) :: st) cu σ Q) := by
  rw [x12_34]
  rfl
theorem v12_35 {z : P0} {st : List Value} {cu : Nat × Nat} {Q : Res → Mem → Prop} {σ : Mem} {x0 x1 x2 x3 x4 : Option Value} {u v : Int32} : X z 12 35 [x0, x1, x2, x3, x4] (.int v :: .int u :: st) cu σ Q = (if u = v then X z 12 38 [x0, x1, x2, x3, x4] (st) cu σ Q else X z 12 43 [x0, x1, x2, x3, x4] (st) cu σ Q) := by
  rw [x12_35]
  obtain ⟨K, I, R, L, sz, ex⟩ := σ
  exact br_ne
theorem v12_38 {z : P0} {st : List Value} {cu : Nat × Nat} {Q : Res → Mem → Prop} {σ : Mem} {x0 x1 x2 x3 x4 : Option Value} : X z 12 38 [x0, x1, x2, x3, x4] (st) cu σ Q = (X z 12 40 [x0, x1, x2, x3, x4] (.int (nI 38) :: st) cu σ Q) := by
  rw [x12_38]
  rfl
theorem v12_40 {z : P0} {st : List Value} {cu : Nat × Nat} {Q : Res → Mem → Prop} {σ : Mem} {x0 x1 x2 x3 x4 : Option Value} : X z 12 40 [x0, x1, x2, x3, x4] (st) cu σ Q = (X z 12 45 [x0, x1, x2, x3, x4] (st) cu σ Q) := by
  rw [x12_40]
  rfl
theorem v12_43 {z : P0} {st : List Value} {cu : Nat × Nat} {Q : Res → Mem → Prop} {σ : Mem} {x0 x1 x2 x3 x4 : Option Value} : X z 12 43 [x0, x1, x2, x3, x4] (st) cu σ Q = (X z 12 45 [x0, x1, x2, x3, x4] (.int (nI 44) :: st) cu σ Q) := by
  rw [x12_43]
  rfl
theorem u12_45 {z : P0} {ls : Lcs} {st : List Value} {K : Nat → Nat × Nat} {I : Nat → Nat → Int32} {R : Nat → Nat → Option Nat} {L : Nat → Nat → Int64} {sz : Nat} {ex : Bool} {Q : Res → Mem → Prop} {x : Nat} {a0 : Int32} : X z 12 45 ls (.int a0 :: .ref x :: st) (0, 0) (K, I, R, L, sz, ex) Q = ((K x).1 = 101 ∧ wsum st ≤ 8 ∧ X z 19 0 [some (.ref x), some (.int a0)] [] (0, 0) (K, I, R, L, sz, ex) (aftr (X z) mT 12 45 ls st (0, 0) Q)) := v12_45 (c := 0) (n := 0)
theorem v12_48 {z : P0} {st : List Value} {cu : Nat × Nat} {Q : Res → Mem → Prop} {σ : Mem} {x1 x2 x3 x4 : Option Value} {u : Nat} : X z 12 48 [some (.ref u), x1, x2, x3, x4] (st) cu σ Q = (X z 12 49 [some (.ref u), x1, x2, x3, x4] (.ref u :: st) cu σ Q) := by
  rw [x12_48]
  rfl
theorem v12_49 {z : P0} {st : List Value} {cu : Nat × Nat} {Q : Res → Mem → Prop} {σ : Mem} {x0 x1 x2 x3 : Option Value} {u : Nat} : X z 12 49 [x0, x1, x2, x3, some (.ref u)] (st) cu σ Q = (X z 12 51 [x0, x1, x2, x3, some (.ref u)] (.ref u :: st) cu σ Q) := by
  rw [x12_49]
  rfl
theorem v12_51 {z : P0} {st : List Value} {cu : Nat × Nat} {Q : Res → Mem → Prop} {K : Nat → Nat × Nat} {I : Nat → Nat → Int32} {R : Nat → Nat → Option Nat} {L : Nat → Nat → Int64} {sz : Nat} {ex : Bool} {x0 x1 x2 x3 x4 : Option Value} {u : Nat} : X z 12 51 [x0, x1, x2, x3, x4] (.ref u :: st) cu (K, I, R, L, sz, ex) Q = ((K u).1 = 107 ∧ X z 12 54 [x0, x1, x2, x3, x4] (va_rf (R u 0) :: st) cu (K, I, R, L, sz, ex) Q) := by
  rw [x12_51]
  rfl
theorem v12_54 {z : P0} {st : List Value} {cu : Nat × Nat} {Q : Res → Mem → Prop} {σ : Mem} {x0 x1 x2 x3 : Option Value} {u : Nat} : X z 12 54 [x0, x1, x2, x3, some (.ref u)] (st) cu σ Q = (X z 12 56 [x0, x1, x2, x3, some (.ref u)] (.ref u :: st) cu σ Q) := by
  rw [x12_54]
  rfl
theorem v12_56 {z : P0} {st : List Value} {cu : Nat × Nat} {Q : Res → Mem → Prop} {K : Nat → Nat × Nat} {I : Nat → Nat → Int32} {R : Nat → Nat → Option Nat} {L : Nat → Nat → Int64} {sz : Nat} {ex : Bool} {x0 x1 x2 x3 x4 : Option Value} {u : Nat} : X z 12 56 [x0, x1, x2, x3, x4] (.ref u :: st) cu (K, I, R, L, sz, ex) Q = ((K u).1 = 107 ∧ X z 12 59 [x0, x1, x2, x3, x4] (.int (I u 1) :: st) cu (K, I, R, L, sz, ex) Q) := by
  rw [x12_56]
  rfl
theorem u12_59 {z : P0} {ls : Lcs} {st : List Value} {K : Nat → Nat × Nat} {I : Nat → Nat → Int32} {R : Nat → Nat → Option Nat} {L : Nat → Nat → Int64} {sz : Nat} {ex : Bool} {Q : Res → Mem → Prop} {x : Nat} {a0 : Nat} {a1 : Int32} : X z 12 59 ls (.int a1 :: .ref a0 :: .ref x :: st) (0, 0) (K, I, R, L, sz, ex) Q = ((K x).1 = 101 ∧ wsum st ≤ 8 ∧ X z 17 0 [some (.ref x), some (.ref a0), some (.int a1), none] [] (0, 0) (K, I, R, L, sz, ex) (aftr (X z) mT 12 59 ls st (0, 0) Q)) := v12_59 (c := 0) (n := 0)
theorem v12_62 {z : P0} {st : List Value} {cu : Nat × Nat} {Q : Res → Mem → Prop} {σ : Mem} {x0 x1 x2 x4 : Option Value} {u : Int32} : X z 12 62 [x0, x1, x2, some (.int u), x4] (st) cu σ Q = (cat2 x2 = false ∧ X z 12 65 [x0, x1, x2, some (.int (u + nI 1)), x4] (st) cu σ Q) := by
  rw [x12_62]
  obtain ⟨K, I, R, L, sz, ex⟩ := σ
  exact i_iinc.trans (gl_3.trans (ldI_i.trans sl_3))
theorem v12_65 {z : P0} {st : List Value} {cu : Nat × Nat} {Q : Res → Mem → Prop} {σ : Mem} {x0 x1 x2 x3 x4 : Option Value} : X z 12 65 [x0, x1, x2, x3, x4] (st) cu σ Q = (X z 12 2 [x0, x1, x2, x3, x4] (st) cu σ Q) := by
  rw [x12_65]
  rfl
theorem v12_68 {z : P0} {cu : Nat × Nat} {Q : Res → Mem → Prop} {σ : Mem} {x0 x1 x2 x3 x4 : Option Value} : X z 12 68 [x0, x1, x2, x3, x4] ([]) cu σ Q = (Q (.inl none) σ) := by
  rw [x12_68]
  rfl
theorem v13_0 {z : P0} {st : List Value} {cu : Nat × Nat} {Q : Res → Mem → Prop} {σ : Mem} {x0 x2 x3 x4 : Option Value} {u : Nat} : X z 13 0 [x0, some (.ref u), x2, x3, x4] (st) cu σ Q = (X z 13 1 [x0, some (.ref u), x2, x3, x4] (.ref u :: st) cu σ Q) := by
  rw [x13_0]
  rfl
theorem v13_1 {z : P0} {st : List Value} {cu : Nat × Nat} {Q : Res → Mem → Prop} {K : Nat → Nat × Nat} {I : Nat → Nat → Int32} {R : Nat → Nat → Option Nat} {L : Nat → Nat → Int64} {sz : Nat} {ex : Bool} {x0 x1 x2 x3 x4 : Option Value} {u : Nat} : X z 13 1 [x0, x1, x2, x3, x4] (.ref u :: st) cu (K, I, R, L, sz, ex) Q = ((K u).1 = 108 ∧ X z 13 4 [x0, x1, x2, x3, x4] (va_rf (R u 0) :: st) cu (K, I, R, L, sz, ex) Q) := by
  rw [x13_1]
  rfl
theorem v13_4 {z : P0} {st : List Value} {cu : Nat × Nat} {Q : Res → Mem → Prop} {σ : Mem} {x0 x1 x3 x4 : Option Value} {u : Nat} : X z 13 4 [x0, x1, some (.ref u), x3, x4] (st) cu σ Q = (X z 13 5 [x0, x1, some (.ref u), x3, x4] (.ref u :: st) cu σ Q) := by
  rw [x13_4]
  rfl
theorem v13_5 {z : P0} {st : List Value} {cu : Nat × Nat} {Q : Res → Mem → Prop} {K : Nat → Nat × Nat} {I : Nat → Nat → Int32} {R : Nat → Nat → Option Nat} {L : Nat → Nat → Int64} {sz : Nat} {ex : Bool} {x0 x1 x2 x3 x4 : Option Value} {u : Nat} : X z 13 5 [x0, x1, x2, x3, x4] (.ref u :: st) cu (K, I, R, L, sz, ex) Q = ((K u).1 = 102 ∧ X z 13 8 [x0, x1, x2, x3, x4] (va_rf (R u 0) :: st) cu (K, I, R, L, sz, ex) Q) := by
  rw [x13_5]
  rfl
theorem v13_8 {z : P0} {st : List Value} {cu : Nat × Nat} {Q : Res → Mem → Prop} {σ : Mem} {x0 x1 x2 x3 x4 : Option Value} : X z 13 8 [x0, x1, x2, x3, x4] (st) cu σ Q = (X z 13 9 [x0, x1, x2, x3, x4] (.int (nI 0) :: st) cu σ Q) := by
  rw [x13_8]
  rfl
theorem v13_9 {z : P0} {st : List Value} {cu : Nat × Nat} {Q : Res → Mem → Prop} {K : Nat → Nat × Nat} {I : Nat → Nat → Int32} {R : Nat → Nat → Option Nat} {L : Nat → Nat → Int64} {sz : Nat} {ex : Bool} {x0 x1 x2 x3 x4 : Option Value} {u : Nat} {v : Int32} : X z 13 9 [x0, x1, x2, x3, x4] (.int v :: .ref u :: st) cu (K, I, R, L, sz, ex) Q = (((K u).1 = 20 ∨ (K u).1 = 50) ∧ vp_in v (K u).2 ∧ X z 13 10 [x0, x1, x2, x3, x4] (.int (I u v.toNatClampNeg) :: st) cu (K, I, R, L, sz, ex) Q) := by
  rw [x13_9]
  rfl
theorem v13_10 {z : P0} {st : List Value} {cu : Nat × Nat} {Q : Res → Mem → Prop} {K : Nat → Nat × Nat} {I : Nat → Nat → Int32} {R : Nat → Nat → Option Nat} {L : Nat → Nat → Int64} {sz : Nat} {ex : Bool} {x0 x1 x2 x3 x4 : Option Value} {u : Nat} {v : Int32} : X z 13 10 [x0, x1, x2, x3, x4] (.int v :: .ref u :: st) cu (K, I, R, L, sz, ex) Q = (((K u).1 = 22 ∨ (K u).1 = 23 ∨ (K u).1 = 24 ∨ (K u).1 = 25) ∧ vp_in v (K u).2 ∧ X z 13 11 [x0, x1, x2, x3, x4] (va_rf (R u v.toNatClampNeg) :: st) cu (K, I, R, L, sz, ex) Q) := by
  rw [x13_10]
  rfl
theorem v13_11 {z : P0} {st : List Value} {cu : Nat × Nat} {Q : Res → Mem → Prop} {K : Nat → Nat × Nat} {I : Nat → Nat → Int32} {R : Nat → Nat → Option Nat} {L : Nat → Nat → Int64} {sz : Nat} {ex : Bool} {x0 x1 x2 x3 x4 : Option Value} {u : Nat} : X z 13 11 [x0, x1, x2, x3, x4] (.ref u :: st) cu (K, I, R, L, sz, ex) Q = ((K u).1 = 107 ∧ X z 13 14 [x0, x1, x2, x3, x4] (.int (I u 3) :: st) cu (K, I, R, L, sz, ex) Q) := by
  rw [x13_11]
  rfl
theorem v13_14 {z : P0} {st : List Value} {cu : Nat × Nat} {Q : Res → Mem → Prop} {σ : Mem} {x0 x1 x2 x3 x4 : Option Value} {u : Int32} : X z 13 14 [x0, x1, x2, x3, x4] (.int u :: st) cu σ Q = (cat2 x2 = false ∧ X z 13 15 [x0, x1, x2, some (.int u), x4] (st) cu σ Q) := by
  rw [x13_14]
  obtain ⟨K, I, R, L, sz, ex⟩ := σ
  exact i_istore_n.trans sl_3
theorem v13_15 {z : P0} {st : List Value} {cu : Nat × Nat} {Q : Res → Mem → Prop} {σ : Mem} {x0 x1 x2 x3 x4 : Option Value} : X z 13 15 [x0, x1, x2, x3, x4] (st) cu σ Q = (X z 13 16 [x0, x1, x2, x3, x4] (.int (nI 1) :: st) cu σ Q) := by
  rw [x13_15]
  rfl
theorem v13_16 {z : P0} {st : List Value} {cu : Nat × Nat} {Q : Res → Mem → Prop} {σ : Mem} {x0 x1 x2 x3 x4 : Option Value} {u : Int32} : X z 13 16 [x0, x1, x2, x3, x4] (.int u :: st) cu σ Q = (cat2 x3 = false ∧ X z 13 18 [x0, x1, x2, x3, some (.int u)] (st) cu σ Q) := by
  rw [x13_16]
  obtain ⟨K, I, R, L, sz, ex⟩ := σ
  exact i_istore.trans sl_4
theorem v13_18 {z : P0} {st : List Value} {cu : Nat × Nat} {Q : Res → Mem → Prop} {σ : Mem} {x0 x1 x2 x3 : Option Value} {u : Int32} : X z 13 18 [x0, x1, x2, x3, some (.int u)] (st) cu σ Q = (X z 13 20 [x0, x1, x2, x3, some (.int u)] (.int u :: st) cu σ Q) := by
  rw [x13_18]
  rfl
theorem v13_20 {z : P0} {st : List Value} {cu : Nat × Nat} {Q : Res → Mem → Prop} {σ : Mem} {x0 x1 x3 x4 : Option Value} {u : Nat} : X z 13 20 [x0, x1, some (.ref u), x3, x4] (st) cu σ Q = (X z 13 21 [x0, x1, some (.ref u), x3, x4] (.ref u :: st) cu σ Q) := by
  rw [x13_20]
  rfl
theorem v13_21 {z : P0} {st : List Value} {cu : Nat × Nat} {Q : Res → Mem → Prop} {K : Nat → Nat × Nat} {I : Nat → Nat → Int32} {R : Nat → Nat → Option Nat} {L : Nat → Nat → Int64} {sz : Nat} {ex : Bool} {x0 x1 x2 x3 x4 : Option Value} {u : Nat} : X z 13 21 [x0, x1, x2, x3, x4] (.ref u :: st) cu (K, I, R, L, sz, ex) Q = ((K u).1 = 102 ∧ X z 13 24 [x0, x1, x2, x3, x4] (.int (I u 1) :: st) cu (K, I, R, L, sz, ex) Q) := by
  rw [x13_21]
  rfl
theorem v13_24 {z : P0} {st : List Value} {cu : Nat × Nat} {Q : Res → Mem → Prop} {σ : Mem} {x0 x1 x2 x3 x4 : Option Value} {u v : Int32} : X z 13 24 [x0, x1, x2, x3, x4] (.int v :: .int u :: st) cu σ Q = (if u < v then X z 13 27 [x0, x1, x2, x3, x4] (st) cu σ Q else X z 13 59 [x0, x1, x2, x3, x4] (st) cu σ Q) := by
  rw [x13_24]
  obtain ⟨K, I, R, L, sz, ex⟩ := σ
  exact br_ge
theorem v13_27 {z : P0} {st : List Value} {cu : Nat × Nat} {Q : Res → Mem → Prop} {σ : Mem} {x0 x2 x3 x4 : Option Value} {u : Nat} : X z 13 27 [x0, some (.ref u), x2, x3, x4] (st) cu σ Q = (X z 13 28 [x0, some (.ref u), x2, x3, x4] (.ref u :: st) cu σ Q) := by
  rw [x13_27]
  rfl
theorem v13_28 {z : P0} {st : List Value} {cu : Nat × Nat} {Q : Res → Mem → Prop} {K : Nat → Nat × Nat} {I : Nat → Nat → Int32} {R : Nat → Nat → Option Nat} {L : Nat → Nat → Int64} {sz : Nat} {ex : Bool} {x0 x1 x2 x3 x4 : Option Value} {u : Nat} : X z 13 28 [x0, x1, x2, x3, x4] (.ref u :: st) cu (K, I, R, L, sz, ex) Q = ((K u).1 = 108 ∧ X z 13 31 [x0, x1, x2, x3, x4] (va_rf (R u 0) :: st) cu (K, I, R, L, sz, ex) Q) := by
  rw [x13_28]
  rfl
theorem v13_31 {z : P0} {st : List Value} {cu : Nat × Nat} {Q : Res → Mem → Prop} {σ : Mem} {x0 x1 x3 x4 : Option Value} {u : Nat} : X z 13 31 [x0, x1, some (.ref u), x3, x4] (st) cu σ Q = (X z 13 32 [x0, x1, some (.ref u), x3, x4] (.ref u :: st) cu σ Q) := by
  rw [x13_31]
  rfl
theorem v13_32 {z : P0} {st : List Value} {cu : Nat × Nat} {Q : Res → Mem → Prop} {K : Nat → Nat × Nat} {I : Nat → Nat → Int32} {R : Nat → Nat → Option Nat} {L : Nat → Nat → Int64} {sz : Nat} {ex : Bool} {x0 x1 x2 x3 x4 : Option Value} {u : Nat} : X z 13 32 [x0, x1, x2, x3, x4] (.ref u :: st) cu (K, I, R, L, sz, ex) Q = ((K u).1 = 102 ∧ X z 13 35 [x0, x1, x2, x3, x4] (va_rf (R u 0) :: st) cu (K, I, R, L, sz, ex) Q) := by
  rw [x13_32]
  rfl
theorem v13_35 {z : P0} {st : List Value} {cu : Nat × Nat} {Q : Res → Mem → Prop} {σ : Mem} {x0 x1 x2 x3 : Option Value} {u : Int32} : X z 13 35 [x0, x1, x2, x3, some (.int u)] (st) cu σ Q = (X z 13 37 [x0, x1, x2, x3, some (.int u)] (.int u :: st) cu σ Q) := by
  rw [x13_35]
  rfl
theorem v13_37 {z : P0} {st : List Value} {cu : Nat × Nat} {Q : Res → Mem → Prop} {K : Nat → Nat × Nat} {I : Nat → Nat → Int32} {R : Nat → Nat → Option Nat} {L : Nat → Nat → Int64} {sz : Nat} {ex : Bool} {x0 x1 x2 x3 x4 : Option Value} {u : Nat} {v : Int32} : X z 13 37 [x0, x1, x2, x3, x4] (.int v :: .ref u :: st) cu (K, I, R, L, sz, ex) Q = (((K u).1 = 20 ∨ (K u).1 = 50) ∧ vp_in v (K u).2 ∧ X z 13 38 [x0, x1, x2, x3, x4] (.int (I u v.toNatClampNeg) :: st) cu (K, I, R, L, sz, ex) Q) := by
  rw [x13_37]
  rfl
theorem v13_38 {z : P0} {st : List Value} {cu : Nat × Nat} {Q : Res → Mem → Prop} {K : Nat → Nat × Nat} {I : Nat → Nat → Int32} {R : Nat → Nat → Option Nat} {L : Nat → Nat → Int64} {sz : Nat} {ex : Bool} {x0 x1 x2 x3 x4 : Option Value} {u : Nat} {v : Int32} : X z 13 38 [x0, x1, x2, x3, x4] (.int v :: .ref u :: st) cu (K, I, R, L, sz, ex) Q = (((K u).1 = 22 ∨ (K u).1 = 23 ∨ (K u).1 = 24 ∨ (K u).1 = 25) ∧ vp_in v (K u).2 ∧ X z 13 39 [x0, x1, x2, x3, x4] (va_rf (R u v.toNatClampNeg) :: st) cu (K, I, R, L, sz, ex) Q) := by
  rw [x13_38]
  rfl
theorem v13_39 {z : P0} {st : List Value} {cu : Nat × Nat} {Q : Res → Mem → Prop} {K : Nat → Nat × Nat} {I : Nat → Nat → Int32} {R : Nat → Nat → Option Nat} {L : Nat → Nat → Int64} {sz : Nat} {ex : Bool} {x0 x1 x2 x3 x4 : Option Value} {u : Nat} : X z 13 39 [x0, x1, x2, x3, x4] (.ref u :: st) cu (K, I, R, L, sz, ex) Q = ((K u).1 = 107 ∧ X z 13 42 [x0, x1, x2, x3, x4] (.int (I u 3) :: st) cu (K, I, R, L, sz, ex) Q) := by
  rw [x13_39]
  rfl
theorem v13_42 {z : P0} {st : List Value} {cu : Nat × Nat} {Q : Res → Mem → Prop} {σ : Mem} {x0 x1 x2 x4 : Option Value} {u : Int32} : X z 13 42 [x0, x1, x2, some (.int u), x4] (st) cu σ Q = (X z 13 43 [x0, x1, x2, some (.int u), x4] (.int u :: st) cu σ Q) := by
  rw [x13_42]
  rfl
theorem v13_43 {z : P0} {st : List Value} {cu : Nat × Nat} {Q : Res → Mem → Prop} {σ : Mem} {x0 x1 x2 x3 x4 : Option Value} {u v : Int32} : X z 13 43 [x0, x1, x2, x3, x4] (.int v :: .int u :: st) cu σ Q = (if u = v then X z 13 53 [x0, x1, x2, x3, x4] (st) cu σ Q else X z 13 46 [x0, x1, x2, x3, x4] (st) cu σ Q) := by
  rw [x13_43]
  obtain ⟨K, I, R, L, sz, ex⟩ := σ
  exact br_ite
theorem v13_46 {z : P0} {st : List Value} {cu : Nat × Nat} {Q : Res → Mem → Prop} {σ : Mem} {x1 x2 x3 x4 : Option Value} {u : Nat} : X z 13 46 [some (.ref u), x1, x2, x3, x4] (st) cu σ Q = (X z 13 47 [some (.ref u), x1, x2, x3, x4] (.ref u :: st) cu σ Q) := by
  rw [x13_46]
  rfl
theorem v13_47 {z : P0} {st : List Value} {cu : Nat × Nat} {Q : Res → Mem → Prop} {σ : Mem} {x0 x1 x2 x3 x4 : Option Value} : X z 13 47 [x0, x1, x2, x3, x4] (st) cu σ Q = (X z 13 49 [x0, x1, x2, x3, x4] (.ref (z.1 100) :: st) cu σ Q) := by
  rw [x13_47]
  obtain ⟨K, I, R, L, sz, ex⟩ := σ
  exact i_ldc
theorem u13_49 {z : P0} {ls : Lcs} {st : List Value} {K : Nat → Nat × Nat} {I : Nat → Nat → Int32} {R : Nat → Nat → Option Nat} {L : Nat → Nat → Int64} {sz : Nat} {ex : Bool} {Q : Res → Mem → Prop} {x : Nat} {a0 : Nat} : X z 13 49 ls (.ref a0 :: .ref x :: st) (0, 0) (K, I, R, L, sz, ex) Q = ((K x).1 = 101 ∧ wsum st ≤ 8 ∧ X z 18 0 [some (.ref x), some (.ref a0), none] [] (0, 0) (K, I, R, L, sz, ex) (aftr (X z) mT 13 49 ls st (0, 0) Q)) := v13_49 (c := 0) (n := 0)
theorem v13_52 {z : P0} {cu : Nat × Nat} {Q : Res → Mem → Prop} {σ : Mem} {x0 x1 x2 x3 x4 : Option Value} : X z 13 52 [x0, x1, x2, x3, x4] ([]) cu σ Q = (Q (.inl none) σ) := by
  rw [x13_52]
  rfl
theorem v13_53 {z : P0} {st : List Value} {cu : Nat × Nat} {Q : Res → Mem → Prop} {σ : Mem} {x0 x1 x2 x3 : Option Value} {u : Int32} : X z 13 53 [x0, x1, x2, x3, some (.int u)] (st) cu σ Q = (cat2 x3 = false ∧ X z 13 56 [x0, x1, x2, x3, some (.int (u + nI 1))] (st) cu σ Q) := by
  rw [x13_53]
  obtain ⟨K, I, R, L, sz, ex⟩ := σ
  exact i_iinc.trans (gl_4.trans (ldI_i.trans sl_4))
theorem v13_56 {z : P0} {st : List Value} {cu : Nat × Nat} {Q : Res → Mem → Prop} {σ : Mem} {x0 x1 x2 x3 x4 : Option Value} : X z 13 56 [x0, x1, x2, x3, x4] (st) cu σ Q = (X z 13 18 [x0, x1, x2, x3, x4] (st) cu σ Q) := by
  rw [x13_56]
  rfl
theorem v13_59 {z : P0} {st : List Value} {cu : Nat × Nat} {Q : Res → Mem → Prop} {σ : Mem} {x1 x2 x3 x4 : Option Value} {u : Nat} : X z 13 59 [some (.ref u), x1, x2, x3, x4] (st) cu σ Q = (X z 13 60 [some (.ref u), x1, x2, x3, x4] (.ref u :: st) cu σ Q) := by
  rw [x13_59]
  rfl
theorem v13_60 {z : P0} {st : List Value} {cu : Nat × Nat} {Q : Res → Mem → Prop} {σ : Mem} {x0 x1 x2 x4 : Option Value} {u : Int32} : X z 13 60 [x0, x1, x2, some (.int u), x4] (st) cu σ Q = (X z 13 61 [x0, x1, x2, some (.int u), x4] (.int u :: st) cu σ Q) := by
  rw [x13_60]
  rfl
theorem u13_61 {z : P0} {ls : Lcs} {st : List Value} {K : Nat → Nat × Nat} {I : Nat → Nat → Int32} {R : Nat → Nat → Option Nat} {L : Nat → Nat → Int64} {sz : Nat} {ex : Bool} {Q : Res → Mem → Prop} {a0 : Int32} : X z 13 61 ls (.int a0 :: st) (0, 0) (K, I, R, L, sz, ex) Q = (wsum st ≤ 8 ∧ X z 14 0 [some (.int a0)] [] (0, 0) (K, I, R, L, sz, ex) (aftr (X z) mT 13 61 ls st (0, 0) Q)) := v13_61 (c := 0) (n := 0)
theorem u13_64 {z : P0} {ls : Lcs} {st : List Value} {K : Nat → Nat × Nat} {I : Nat → Nat → Int32} {R : Nat → Nat → Option Nat} {L : Nat → Nat → Int64} {sz : Nat} {ex : Bool} {Q : Res → Mem → Prop} {x : Nat} {a0 : Int32} : X z 13 64 ls (.int a0 :: .ref x :: st) (0, 0) (K, I, R, L, sz, ex) Q = ((K x).1 = 101 ∧ wsum st ≤ 8 ∧ X z 19 0 [some (.ref x), some (.int a0)] [] (0, 0) (K, I, R, L, sz, ex) (aftr (X z) mT 13 64 ls st (0, 0) Q)) := v13_64 (c := 0) (n := 0)
theorem v13_67 {z : P0} {st : List Value} {cu : Nat × Nat} {Q : Res → Mem → Prop} {σ : Mem} {x0 x1 x3 x4 : Option Value} {u : Nat} : X z 13 67 [x0, x1, some (.ref u), x3, x4] (st) cu σ Q = (X z 13 68 [x0, x1, some (.ref u), x3, x4] (.ref u :: st) cu σ Q) := by
  rw [x13_67]
  rfl
theorem v13_68 {z : P0} {st : List Value} {cu : Nat × Nat} {Q : Res → Mem → Prop} {K : Nat → Nat × Nat} {I : Nat → Nat → Int32} {R : Nat → Nat → Option Nat} {L : Nat → Nat → Int64} {sz : Nat} {ex : Bool} {x0 x1 x2 x3 x4 : Option Value} {u : Nat} : X z 13 68 [x0, x1, x2, x3, x4] (.ref u :: st) cu (K, I, R, L, sz, ex) Q = ((K u).1 = 102 ∧ X z 13 71 [x0, x1, x2, x3, x4] (.int (I u 1) :: st) cu (K, I, R, L, sz, ex) Q) := by
  rw [x13_68]
  rfl
theorem v13_71 {z : P0} {st : List Value} {cu : Nat × Nat} {Q : Res → Mem → Prop} {σ : Mem} {x0 x1 x2 x3 x4 : Option Value} : X z 13 71 [x0, x1, x2, x3, x4] (st) cu σ Q = (X z 13 72 [x0, x1, x2, x3, x4] (.int (nI 1) :: st) cu σ Q) := by
  rw [x13_71]
  rfl
theorem v13_72 {z : P0} {st : List Value} {cu : Nat × Nat} {Q : Res → Mem → Prop} {σ : Mem} {x0 x1 x2 x3 x4 : Option Value} {u v : Int32} : X z 13 72 [x0, x1, x2, x3, x4] (.int v :: .int u :: st) cu σ Q = (if v < u then X z 13 75 [x0, x1, x2, x3, x4] (st) cu σ Q else X z 13 81 [x0, x1, x2, x3, x4] (st) cu σ Q) := by
  rw [x13_72]
  obtain ⟨K, I, R, L, sz, ex⟩ := σ
  exact br_ge
theorem v13_75 {z : P0} {st : List Value} {cu : Nat × Nat} {Q : Res → Mem → Prop} {σ : Mem} {x1 x2 x3 x4 : Option Value} {u : Nat} : X z 13 75 [some (.ref u), x1, x2, x3, x4] (st) cu σ Q = (X z 13 76 [some (.ref u), x1, x2, x3, x4] (.ref u :: st) cu σ Q) := by
  rw [x13_75]
  rfl
theorem v13_76 {z : P0} {st : List Value} {cu : Nat × Nat} {Q : Res → Mem → Prop} {σ : Mem} {x0 x1 x2 x3 x4 : Option Value} : X z 13 76 [x0, x1, x2, x3, x4] (st) cu σ Q = (X z 13 78 [x0, x1, x2, x3, x4] (.int (nI 115) :: st) cu σ Q) := by
  rw [x13_76]
  rfl
theorem u13_78 {z : P0} {ls : Lcs} {st : List Value} {K : Nat → Nat × Nat} {I : Nat → Nat → Int32} {R : Nat → Nat → Option Nat} {L : Nat → Nat → Int64} {sz : Nat} {ex : Bool} {Q : Res → Mem → Prop} {x : Nat} {a0 : Int32} : X z 13 78 ls (.int a0 :: .ref x :: st) (0, 0) (K, I, R, L, sz, ex) Q = ((K x).1 = 101 ∧ wsum st ≤ 8 ∧ X z 19 0 [some (.ref x), some (.int a0)] [] (0, 0) (K, I, R, L, sz, ex) (aftr (X z) mT 13 78 ls st (0, 0) Q)) := v13_78 (c := 0) (n := 0)
theorem v13_81 {z : P0} {cu : Nat × Nat} {Q : Res → Mem → Prop} {σ : Mem} {x0 x1 x2 x3 x4 : Option Value} : X z 13 81 [x0, x1, x2, x3, x4] ([]) cu σ Q = (Q (.inl none) σ) := by
  rw [x13_81]
  rfl
theorem v14_0 {z : P0} {st : List Value} {cu : Nat × Nat} {Q : Res → Mem → Prop} {σ : Mem} {u : Int32} : X z 14 0 [some (.int u)] (st) cu σ Q = (X z 14 1 [some (.int u)] (.int u :: st) cu σ Q) := by
  rw [x14_0]
  rfl
theorem v14_1 {z : P0} {st : List Value} {cu : Nat × Nat} {Q : Res → Mem → Prop} {σ : Mem} {x0 : Option Value} {u : Int32} : X z 14 1 [x0] (.int u :: st) cu σ Q = (if u = nI 0 then X z 14 4 [x0] (st) cu σ Q else X z 14 7 [x0] (st) cu σ Q) := by
  rw [x14_1]
  rw [nI_0]
  obtain ⟨K, I, R, L, sz, ex⟩ := σ
  exact br_ne
theorem v14_4 {z : P0} {st : List Value} {cu : Nat × Nat} {Q : Res → Mem → Prop} {σ : Mem} {x0 : Option Value} : X z 14 4 [x0] (st) cu σ Q = (X z 14 6 [x0] (.int (nI 102) :: st) cu σ Q) := by
  rw [x14_4]
  rfl
theorem v14_6 {z : P0} {cu : Nat × Nat} {Q : Res → Mem → Prop} {σ : Mem} {x0 : Option Value} {v : Int32} : X z 14 6 [x0] ([.int v]) cu σ Q = (Q (.inl (some (.int v))) σ) := by
  rw [x14_6]
  exact propext ⟨fun h => h.2, fun h => ⟨trivial, h⟩⟩
theorem v14_7 {z : P0} {st : List Value} {cu : Nat × Nat} {Q : Res → Mem → Prop} {σ : Mem} {u : Int32} : X z 14 7 [some (.int u)] (st) cu σ Q = (X z 14 8 [some (.int u)] (.int u :: st) cu σ Q) := by
  rw [x14_7]
  rfl
theorem v14_8 {z : P0} {st : List Value} {cu : Nat × Nat} {Q : Res → Mem → Prop} {σ : Mem} {x0 : Option Value} : X z 14 8 [x0] (st) cu σ Q = (X z 14 9 [x0] (.int (nI 1) :: st) cu σ Q) := by
  rw [x14_8]
  rfl
theorem v14_9 {z : P0} {st : List Value} {cu : Nat × Nat} {Q : Res → Mem → Prop} {σ : Mem} {x0 : Option Value} {u v : Int32} : X z 14 9 [x0] (.int v :: .int u :: st) cu σ Q = (if u = v then X z 14 12 [x0] (st) cu σ Q else X z 14 17 [x0] (st) cu σ Q) := by
  rw [x14_9]
  obtain ⟨K, I, R, L, sz, ex⟩ := σ
  exact br_ne
theorem v14_12 {z : P0} {st : List Value} {cu : Nat × Nat} {Q : Res → Mem → Prop} {σ : Mem} {x0 : Option Value} : X z 14 12 [x0] (st) cu σ Q = (X z 14 14 [x0] (.int (nI 109) :: st) cu σ Q) := by
  rw [x14_12]
  rfl
theorem v14_14 {z : P0} {st : List Value} {cu : Nat × Nat} {Q : Res → Mem → Prop} {σ : Mem} {x0 : Option Value} : X z 14 14 [x0] (st) cu σ Q = (X z 14 19 [x0] (st) cu σ Q) := by
  rw [x14_14]
  rfl
theorem v14_17 {z : P0} {st : List Value} {cu : Nat × Nat} {Q : Res → Mem → Prop} {σ : Mem} {x0 : Option Value} : X z 14 17 [x0] (st) cu σ Q = (X z 14 19 [x0] (.int (nI 120) :: st) cu σ Q) := by
  rw [x14_17]
  rfl
theorem v14_19 {z : P0} {cu : Nat × Nat} {Q : Res → Mem → Prop} {σ : Mem} {x0 : Option Value} {v : Int32} : X z 14 19 [x0] ([.int v]) cu σ Q = (Q (.inl (some (.int v))) σ) := by
  rw [x14_19]
  exact propext ⟨fun h => h.2, fun h => ⟨trivial, h⟩⟩
theorem v15_0 {z : P0} {st : List Value} {cu : Nat × Nat} {Q : Res → Mem → Prop} {σ : Mem} {x1 x2 x3 x4 x5 : Option Value} {u : Nat} : X z 15 0 [some (.ref u), x1, x2, x3, x4, x5] (st) cu σ Q = (X z 15 1 [some (.ref u), x1, x2, x3, x4, x5] (.ref u :: st) cu σ Q) := by
  rw [x15_0]
  rfl
theorem v15_1 {z : P0} {st : List Value} {cu : Nat × Nat} {Q : Res → Mem → Prop} {σ : Mem} {x0 x2 x3 x4 x5 : Option Value} {u : Nat} : X z 15 1 [x0, some (.ref u), x2, x3, x4, x5] (st) cu σ Q = (X z 15 2 [x0, some (.ref u), x2, x3, x4, x5] (.ref u :: st) cu σ Q) := by
  rw [x15_1]
  rfl
theorem v15_2 {z : P0} {st : List Value} {cu : Nat × Nat} {Q : Res → Mem → Prop} {σ : Mem} {x0 x1 x3 x4 x5 : Option Value} {u : Nat} : X z 15 2 [x0, x1, some (.ref u), x3, x4, x5] (st) cu σ Q = (X z 15 3 [x0, x1, some (.ref u), x3, x4, x5] (.ref u :: st) cu σ Q) := by
  rw [x15_2]
  rfl
theorem u15_3 {z : P0} {ls : Lcs} {st : List Value} {K : Nat → Nat × Nat} {I : Nat → Nat → Int32} {R : Nat → Nat → Option Nat} {L : Nat → Nat → Int64} {sz : Nat} {ex : Bool} {Q : Res → Mem → Prop} {x : Nat} {a0 : Nat} {a1 : Nat} : X z 15 3 ls (.ref a1 :: .ref a0 :: .ref x :: st) (0, 0) (K, I, R, L, sz, ex) Q = ((K x).1 = 101 ∧ wsum st ≤ 8 ∧ X z 16 0 [some (.ref x), some (.ref a0), some (.ref a1), none, none, none, none] [] (0, 0) (K, I, R, L, sz, ex) (aftr (X z) mT 15 3 ls st (0, 0) Q)) := v15_3 (c := 0) (n := 0)
theorem v15_6 {z : P0} {st : List Value} {cu : Nat × Nat} {Q : Res → Mem → Prop} {σ : Mem} {x0 x1 x2 x3 x4 x5 : Option Value} {u : Int32} : X z 15 6 [x0, x1, x2, x3, x4, x5] (.int u :: st) cu σ Q = (cat2 x2 = false ∧ X z 15 7 [x0, x1, x2, some (.int u), x4, x5] (st) cu σ Q) := by
  rw [x15_6]
  obtain ⟨K, I, R, L, sz, ex⟩ := σ
  exact i_istore_n.trans sl_3
theorem v15_7 {z : P0} {st : List Value} {cu : Nat × Nat} {Q : Res → Mem → Prop} {σ : Mem} {x0 x1 x2 x3 x4 x5 : Option Value} : X z 15 7 [x0, x1, x2, x3, x4, x5] (st) cu σ Q = (X z 15 8 [x0, x1, x2, x3, x4, x5] (.int (nI 0) :: st) cu σ Q) := by
  rw [x15_7]
  rfl
theorem v15_8 {z : P0} {st : List Value} {cu : Nat × Nat} {Q : Res → Mem → Prop} {σ : Mem} {x0 x1 x2 x3 x4 x5 : Option Value} {u : Int32} : X z 15 8 [x0, x1, x2, x3, x4, x5] (.int u :: st) cu σ Q = (cat2 x3 = false ∧ X z 15 10 [x0, x1, x2, x3, some (.int u), x5] (st) cu σ Q) := by
  rw [x15_8]
  obtain ⟨K, I, R, L, sz, ex⟩ := σ
  exact i_istore.trans sl_4
theorem v15_10 {z : P0} {st : List Value} {cu : Nat × Nat} {Q : Res → Mem → Prop} {σ : Mem} {x0 x1 x2 x3 x5 : Option Value} {u : Int32} : X z 15 10 [x0, x1, x2, x3, some (.int u), x5] (st) cu σ Q = (X z 15 12 [x0, x1, x2, x3, some (.int u), x5] (.int u :: st) cu σ Q) := by
  rw [x15_10]
  rfl
theorem v15_12 {z : P0} {st : List Value} {cu : Nat × Nat} {Q : Res → Mem → Prop} {σ : Mem} {x0 x1 x2 x4 x5 : Option Value} {u : Int32} : X z 15 12 [x0, x1, x2, some (.int u), x4, x5] (st) cu σ Q = (X z 15 13 [x0, x1, x2, some (.int u), x4, x5] (.int u :: st) cu σ Q) := by
  rw [x15_12]
  rfl
theorem v15_13 {z : P0} {st : List Value} {cu : Nat × Nat} {Q : Res → Mem → Prop} {σ : Mem} {x0 x1 x2 x3 x4 x5 : Option Value} {u v : Int32} : X z 15 13 [x0, x1, x2, x3, x4, x5] (.int v :: .int u :: st) cu σ Q = (if u < v then X z 15 16 [x0, x1, x2, x3, x4, x5] (st) cu σ Q else X z 15 89 [x0, x1, x2, x3, x4, x5] (st) cu σ Q) := by
  rw [x15_13]
  obtain ⟨K, I, R, L, sz, ex⟩ := σ
  exact br_ge
theorem v15_16 {z : P0} {st : List Value} {cu : Nat × Nat} {Q : Res → Mem → Prop} {σ : Mem} {x0 x2 x3 x4 x5 : Option Value} {u : Nat} : X z 15 16 [x0, some (.ref u), x2, x3, x4, x5] (st) cu σ Q = (X z 15 17 [x0, some (.ref u), x2, x3, x4, x5] (.ref u :: st) cu σ Q) := by
  rw [x15_16]
  rfl
theorem v15_17 {z : P0} {st : List Value} {cu : Nat × Nat} {Q : Res → Mem → Prop} {K : Nat → Nat × Nat} {I : Nat → Nat → Int32} {R : Nat → Nat → Option Nat} {L : Nat → Nat → Int64} {sz : Nat} {ex : Bool} {x0 x1 x2 x3 x4 x5 : Option Value} {u : Nat} : X z 15 17 [x0, x1, x2, x3, x4, x5] (.ref u :: st) cu (K, I, R, L, sz, ex) Q = ((K u).1 = 108 ∧ X z 15 20 [x0, x1, x2, x3, x4, x5] (va_rf (R u 2) :: st) cu (K, I, R, L, sz, ex) Q) := by
  rw [x15_17]
  rfl
theorem v15_20 {z : P0} {st : List Value} {cu : Nat × Nat} {Q : Res → Mem → Prop} {σ : Mem} {x1 x2 x3 x4 x5 : Option Value} {u : Nat} : X z 15 20 [some (.ref u), x1, x2, x3, x4, x5] (st) cu σ Q = (X z 15 21 [some (.ref u), x1, x2, x3, x4, x5] (.ref u :: st) cu σ Q) := by
  rw [x15_20]
  rfl
theorem v15_21 {z : P0} {st : List Value} {cu : Nat × Nat} {Q : Res → Mem → Prop} {K : Nat → Nat × Nat} {I : Nat → Nat → Int32} {R : Nat → Nat → Option Nat} {L : Nat → Nat → Int64} {sz : Nat} {ex : Bool} {x0 x1 x2 x3 x4 x5 : Option Value} {u : Nat} : X z 15 21 [x0, x1, x2, x3, x4, x5] (.ref u :: st) cu (K, I, R, L, sz, ex) Q = ((K u).1 = 101 ∧ X z 15 24 [x0, x1, x2, x3, x4, x5] (va_rf (R u 2) :: st) cu (K, I, R, L, sz, ex) Q) := by
  rw [x15_21]
  rfl
theorem v15_24 {z : P0} {st : List Value} {cu : Nat × Nat} {Q : Res → Mem → Prop} {σ : Mem} {x0 x1 x2 x3 x5 : Option Value} {u : Int32} : X z 15 24 [x0, x1, x2, x3, some (.int u), x5] (st) cu σ Q = (X z 15 26 [x0, x1, x2, x3, some (.int u), x5] (.int u :: st) cu σ Q) := by
  rw [x15_24]
  rfl
theorem v15_26 {z : P0} {st : List Value} {cu : Nat × Nat} {Q : Res → Mem → Prop} {K : Nat → Nat × Nat} {I : Nat → Nat → Int32} {R : Nat → Nat → Option Nat} {L : Nat → Nat → Int64} {sz : Nat} {ex : Bool} {x0 x1 x2 x3 x4 x5 : Option Value} {u : Nat} {v : Int32} : X z 15 26 [x0, x1, x2, x3, x4, x5] (.int v :: .ref u :: st) cu (K, I, R, L, sz, ex) Q = (((K u).1 = 20 ∨ (K u).1 = 50) ∧ vp_in v (K u).2 ∧ X z 15 27 [x0, x1, x2, x3, x4, x5] (.int (I u v.toNatClampNeg) :: st) cu (K, I, R, L, sz, ex) Q) := by
  rw [x15_26]
  rfl
theorem v15_27 {z : P0} {st : List Value} {cu : Nat × Nat} {Q : Res → Mem → Prop} {K : Nat → Nat × Nat} {I : Nat → Nat → Int32} {R : Nat → Nat → Option Nat} {L : Nat → Nat → Int64} {sz : Nat} {ex : Bool} {x0 x1 x2 x3 x4 x5 : Option Value} {u : Nat} {v : Int32} : X z 15 27 [x0, x1, x2, x3, x4, x5] (.int v :: .ref u :: st) cu (K, I, R, L, sz, ex) Q = (((K u).1 = 22 ∨ (K u).1 = 23 ∨ (K u).1 = 24 ∨ (K u).1 = 25) ∧ vp_in v (K u).2 ∧ X z 15 28 [x0, x1, x2, x3, x4, x5] (va_rf (R u v.toNatClampNeg) :: st) cu (K, I, R, L, sz, ex) Q) := by
  rw [x15_27]
  rfl
theorem v15_28 {z : P0} {st : List Value} {cu : Nat × Nat} {Q : Res → Mem → Prop} {σ : Mem} {x0 x1 x2 x3 x4 x5 : Option Value} {u : Nat} : X z 15 28 [x0, x1, x2, x3, x4, x5] (.ref u :: st) cu σ Q = (cat2 x4 = false ∧ X z 15 30 [x0, x1, x2, x3, x4, some (.ref u)] (st) cu σ Q) := by
  rw [x15_28]
  obtain ⟨K, I, R, L, sz, ex⟩ := σ
  exact i_astore.trans sl_5
theorem v15_30 {z : P0} {st : List Value} {cu : Nat × Nat} {Q : Res → Mem → Prop} {σ : Mem} {x0 x1 x2 x3 x5 : Option Value} {u : Int32} : X z 15 30 [x0, x1, x2, x3, some (.int u), x5] (st) cu σ Q = (X z 15 32 [x0, x1, x2, x3, some (.int u), x5] (.int u :: st) cu σ Q) := by
  rw [x15_30]
  rfl
theorem v15_32 {z : P0} {st : List Value} {cu : Nat × Nat} {Q : Res → Mem → Prop} {σ : Mem} {x0 x1 x2 x3 x4 x5 : Option Value} {u : Int32} : X z 15 32 [x0, x1, x2, x3, x4, x5] (.int u :: st) cu σ Q = (if nI 0 < u then X z 15 35 [x0, x1, x2, x3, x4, x5] (st) cu σ Q else X z 15 54 [x0, x1, x2, x3, x4, x5] (st) cu σ Q) := by
  rw [x15_32]
  rw [nI_0]
  obtain ⟨K, I, R, L, sz, ex⟩ := σ
  exact br_ge
theorem v15_35 {z : P0} {st : List Value} {cu : Nat × Nat} {Q : Res → Mem → Prop} {σ : Mem} {x1 x2 x3 x4 x5 : Option Value} {u : Nat} : X z 15 35 [some (.ref u), x1, x2, x3, x4, x5] (st) cu σ Q = (X z 15 36 [some (.ref u), x1, x2, x3, x4, x5] (.ref u :: st) cu σ Q) := by
  rw [x15_35]
  rfl
theorem v15_36 {z : P0} {st : List Value} {cu : Nat × Nat} {Q : Res → Mem → Prop} {σ : Mem} {x0 x1 x2 x3 x5 : Option Value} {u : Int32} : X z 15 36 [x0, x1, x2, x3, some (.int u), x5] (st) cu σ Q = (X z 15 38 [x0, x1, x2, x3, some (.int u), x5] (.int u :: st) cu σ Q) := by
  rw [x15_36]
  rfl
theorem v15_38 {z : P0} {st : List Value} {cu : Nat × Nat} {Q : Res → Mem → Prop} {σ : Mem} {x0 x1 x2 x4 x5 : Option Value} {u : Int32} : X z 15 38 [x0, x1, x2, some (.int u), x4, x5] (st) cu σ Q = (X z 15 39 [x0, x1, x2, some (.int u), x4, x5] (.int u :: st) cu σ Q) := by
  rw [x15_38]
  rfl
theorem v15_39 {z : P0} {st : List Value} {cu : Nat × Nat} {Q : Res → Mem → Prop} {σ : Mem} {x0 x1 x2 x3 x4 x5 : Option Value} : X z 15 39 [x0, x1, x2, x3, x4, x5] (st) cu σ Q = (X z 15 40 [x0, x1, x2, x3, x4, x5] (.int (nI 1) :: st) cu σ Q) := by
  rw [x15_39]
  rfl
theorem v15_40 {z : P0} {st : List Value} {cu : Nat × Nat} {Q : Res → Mem → Prop} {σ : Mem} {x0 x1 x2 x3 x4 x5 : Option Value} {u v : Int32} : X z 15 40 [x0, x1, x2, x3, x4, x5] (.int v :: .int u :: st) cu σ Q = (X z 15 41 [x0, x1, x2, x3, x4, x5] (.int (u - v) :: st) cu σ Q) := by
  rw [x15_40]
  rfl
theorem v15_41 {z : P0} {st : List Value} {cu : Nat × Nat} {Q : Res → Mem → Prop} {σ : Mem} {x0 x1 x2 x3 x4 x5 : Option Value} {u v : Int32} : X z 15 41 [x0, x1, x2, x3, x4, x5] (.int v :: .int u :: st) cu σ Q = (if u = v then X z 15 44 [x0, x1, x2, x3, x4, x5] (st) cu σ Q else X z 15 49 [x0, x1, x2, x3, x4, x5] (st) cu σ Q) := by
  rw [x15_41]
  obtain ⟨K, I, R, L, sz, ex⟩ := σ
  exact br_ne
theorem v15_44 {z : P0} {st : List Value} {cu : Nat × Nat} {Q : Res → Mem → Prop} {σ : Mem} {x0 x1 x2 x3 x4 x5 : Option Value} : X z 15 44 [x0, x1, x2, x3, x4, x5] (st) cu σ Q = (X z 15 46 [x0, x1, x2, x3, x4, x5] (.int (nI 38) :: st) cu σ Q) := by
  rw [x15_44]
  rfl
theorem v15_46 {z : P0} {st : List Value} {cu : Nat × Nat} {Q : Res → Mem → Prop} {σ : Mem} {x0 x1 x2 x3 x4 x5 : Option Value} : X z 15 46 [x0, x1, x2, x3, x4, x5] (st) cu σ Q = (X z 15 51 [x0, x1, x2, x3, x4, x5] (st) cu σ Q) := by
  rw [x15_46]
  rfl
theorem v15_49 {z : P0} {st : List Value} {cu : Nat × Nat} {Q : Res → Mem → Prop} {σ : Mem} {x0 x1 x2 x3 x4 x5 : Option Value} : X z 15 49 [x0, x1, x2, x3, x4, x5] (st) cu σ Q = (X z 15 51 [x0, x1, x2, x3, x4, x5] (.int (nI 44) :: st) cu σ Q) := by
  rw [x15_49]
  rfl
theorem u15_51 {z : P0} {ls : Lcs} {st : List Value} {K : Nat → Nat × Nat} {I : Nat → Nat → Int32} {R : Nat → Nat → Option Nat} {L : Nat → Nat → Int64} {sz : Nat} {ex : Bool} {Q : Res → Mem → Prop} {x : Nat} {a0 : Int32} : X z 15 51 ls (.int a0 :: .ref x :: st) (0, 0) (K, I, R, L, sz, ex) Q = ((K x).1 = 101 ∧ wsum st ≤ 8 ∧ X z 19 0 [some (.ref x), some (.int a0)] [] (0, 0) (K, I, R, L, sz, ex) (aftr (X z) mT 15 51 ls st (0, 0) Q)) := v15_51 (c := 0) (n := 0)
theorem v15_54 {z : P0} {st : List Value} {cu : Nat × Nat} {Q : Res → Mem → Prop} {σ : Mem} {x1 x2 x3 x4 x5 : Option Value} {u : Nat} : X z 15 54 [some (.ref u), x1, x2, x3, x4, x5] (st) cu σ Q = (X z 15 55 [some (.ref u), x1, x2, x3, x4, x5] (.ref u :: st) cu σ Q) := by
  rw [x15_54]
  rfl
theorem v15_55 {z : P0} {st : List Value} {cu : Nat × Nat} {Q : Res → Mem → Prop} {σ : Mem} {x0 x1 x2 x3 x4 : Option Value} {u : Nat} : X z 15 55 [x0, x1, x2, x3, x4, some (.ref u)] (st) cu σ Q = (X z 15 57 [x0, x1, x2, x3, x4, some (.ref u)] (.ref u :: st) cu σ Q) := by
  rw [x15_55]
  rfl
theorem u15_57 {z : P0} {ls : Lcs} {st : List Value} {K : Nat → Nat × Nat} {I : Nat → Nat → Int32} {R : Nat → Nat → Option Nat} {L : Nat → Nat → Int64} {sz : Nat} {ex : Bool} {Q : Res → Mem → Prop} {x : Nat} : X z 15 57 ls (.ref x :: st) (0, 0) (K, I, R, L, sz, ex) Q = ((K x).1 = 109 ∧ wsum st ≤ 8 ∧ X z 56 0 [some (.ref x), none, none] [] (0, 0) (K, I, R, L, sz, ex) (aftr (X z) mT 15 57 ls st (0, 0) Q)) := v15_57 (c := 0) (n := 0)
theorem u15_60 {z : P0} {ls : Lcs} {st : List Value} {K : Nat → Nat × Nat} {I : Nat → Nat → Int32} {R : Nat → Nat → Option Nat} {L : Nat → Nat → Int64} {sz : Nat} {ex : Bool} {Q : Res → Mem → Prop} {x : Nat} {a0 : Nat} : X z 15 60 ls (.ref a0 :: .ref x :: st) (0, 0) (K, I, R, L, sz, ex) Q = ((K x).1 = 101 ∧ wsum st ≤ 8 ∧ X z 18 0 [some (.ref x), some (.ref a0), none] [] (0, 0) (K, I, R, L, sz, ex) (aftr (X z) mT 15 60 ls st (0, 0) Q)) := v15_60 (c := 0) (n := 0)
theorem v15_63 {z : P0} {st : List Value} {cu : Nat × Nat} {Q : Res → Mem → Prop} {σ : Mem} {x1 x2 x3 x4 x5 : Option Value} {u : Nat} : X z 15 63 [some (.ref u), x1, x2, x3, x4, x5] (st) cu σ Q = (X z 15 64 [some (.ref u), x1, x2, x3, x4, x5] (.ref u :: st) cu σ Q) := by
  rw [x15_63]
  rfl
theorem v15_64 {z : P0} {st : List Value} {cu : Nat × Nat} {Q : Res → Mem → Prop} {σ : Mem} {x0 x1 x2 x3 x4 x5 : Option Value} : X z 15 64 [x0, x1, x2, x3, x4, x5] (st) cu σ Q = (X z 15 66 [x0, x1, x2, x3, x4, x5] (.int (nI 95) :: st) cu σ Q) := by
  rw [x15_64]
  rfl
theorem u15_66 {z : P0} {ls : Lcs} {st : List Value} {K : Nat → Nat × Nat} {I : Nat → Nat → Int32} {R : Nat → Nat → Option Nat} {L : Nat → Nat → Int64} {sz : Nat} {ex : Bool} {Q : Res → Mem → Prop} {x : Nat} {a0 : Int32} : X z 15 66 ls (.int a0 :: .ref x :: st) (0, 0) (K, I, R, L, sz, ex) Q = ((K x).1 = 101 ∧ wsum st ≤ 8 ∧ X z 19 0 [some (.ref x), some (.int a0)] [] (0, 0) (K, I, R, L, sz, ex) (aftr (X z) mT 15 66 ls st (0, 0) Q)) := v15_66 (c := 0) (n := 0)
theorem v15_69 {z : P0} {st : List Value} {cu : Nat × Nat} {Q : Res → Mem → Prop} {σ : Mem} {x1 x2 x3 x4 x5 : Option Value} {u : Nat} : X z 15 69 [some (.ref u), x1, x2, x3, x4, x5] (st) cu σ Q = (X z 15 70 [some (.ref u), x1, x2, x3, x4, x5] (.ref u :: st) cu σ Q) := by
  rw [x15_69]
  rfl
theorem v15_70 {z : P0} {st : List Value} {cu : Nat × Nat} {Q : Res → Mem → Prop} {σ : Mem} {x0 x1 x2 x3 x4 : Option Value} {u : Nat} : X z 15 70 [x0, x1, x2, x3, x4, some (.ref u)] (st) cu σ Q = (X z 15 72 [x0, x1, x2, x3, x4, some (.ref u)] (.ref u :: st) cu σ Q) := by
  rw [x15_70]
  rfl
theorem v15_72 {z : P0} {st : List Value} {cu : Nat × Nat} {Q : Res → Mem → Prop} {K : Nat → Nat × Nat} {I : Nat → Nat → Int32} {R : Nat → Nat → Option Nat} {L : Nat → Nat → Int64} {sz : Nat} {ex : Bool} {x0 x1 x2 x3 x4 x5 : Option Value} {u : Nat} : X z 15 72 [x0, x1, x2, x3, x4, x5] (.ref u :: st) cu (K, I, R, L, sz, ex) Q = ((K u).1 = 109 ∧ X z 15 75 [x0, x1, x2, x3, x4, x5] (va_rf (R u 0) :: st) cu (K, I, R, L, sz, ex) Q) := by
  rw [x15_72]
  rfl
theorem v15_75 {z : P0} {st : List Value} {cu : Nat × Nat} {Q : Res → Mem → Prop} {σ : Mem} {x0 x1 x2 x3 x4 : Option Value} {u : Nat} : X z 15 75 [x0, x1, x2, x3, x4, some (.ref u)] (st) cu σ Q = (X z 15 77 [x0, x1, x2, x3, x4, some (.ref u)] (.ref u :: st) cu σ Q) := by
  rw [x15_75]
  rfl
theorem v15_77 {z : P0} {st : List Value} {cu : Nat × Nat} {Q : Res → Mem → Prop} {K : Nat → Nat × Nat} {I : Nat → Nat → Int32} {R : Nat → Nat → Option Nat} {L : Nat → Nat → Int64} {sz : Nat} {ex : Bool} {x0 x1 x2 x3 x4 x5 : Option Value} {u : Nat} : X z 15 77 [x0, x1, x2, x3, x4, x5] (.ref u :: st) cu (K, I, R, L, sz, ex) Q = ((K u).1 = 109 ∧ X z 15 80 [x0, x1, x2, x3, x4, x5] (.int (I u 1) :: st) cu (K, I, R, L, sz, ex) Q) := by
  rw [x15_77]
  rfl
theorem u15_80 {z : P0} {ls : Lcs} {st : List Value} {K : Nat → Nat × Nat} {I : Nat → Nat → Int32} {R : Nat → Nat → Option Nat} {L : Nat → Nat → Int64} {sz : Nat} {ex : Bool} {Q : Res → Mem → Prop} {x : Nat} {a0 : Nat} {a1 : Int32} : X z 15 80 ls (.int a1 :: .ref a0 :: .ref x :: st) (0, 0) (K, I, R, L, sz, ex) Q = ((K x).1 = 101 ∧ wsum st ≤ 8 ∧ X z 17 0 [some (.ref x), some (.ref a0), some (.int a1), none] [] (0, 0) (K, I, R, L, sz, ex) (aftr (X z) mT 15 80 ls st (0, 0) Q)) := v15_80 (c := 0) (n := 0)
theorem v15_83 {z : P0} {st : List Value} {cu : Nat × Nat} {Q : Res → Mem → Prop} {σ : Mem} {x0 x1 x2 x3 x5 : Option Value} {u : Int32} : X z 15 83 [x0, x1, x2, x3, some (.int u), x5] (st) cu σ Q = (cat2 x3 = false ∧ X z 15 86 [x0, x1, x2, x3, some (.int (u + nI 1)), x5] (st) cu σ Q) := by
  rw [x15_83]
  obtain ⟨K, I, R, L, sz, ex⟩ := σ
  exact i_iinc.trans (gl_4.trans (ldI_i.trans sl_4))
theorem v15_86 {z : P0} {st : List Value} {cu : Nat × Nat} {Q : Res → Mem → Prop} {σ : Mem} {x0 x1 x2 x3 x4 x5 : Option Value} : X z 15 86 [x0, x1, x2, x3, x4, x5] (st) cu σ Q = (X z 15 10 [x0, x1, x2, x3, x4, x5] (st) cu σ Q) := by
  rw [x15_86]
  rfl
theorem v15_89 {z : P0} {cu : Nat × Nat} {Q : Res → Mem → Prop} {σ : Mem} {x0 x1 x2 x3 x4 x5 : Option Value} : X z 15 89 [x0, x1, x2, x3, x4, x5] ([]) cu σ Q = (Q (.inl none) σ) := by
  rw [x15_89]
  rfl
theorem v16_0 {z : P0} {st : List Value} {cu : Nat × Nat} {Q : Res → Mem → Prop} {σ : Mem} {x0 x1 x2 x3 x4 x5 x6 : Option Value} : X z 16 0 [x0, x1, x2, x3, x4, x5, x6] (st) cu σ Q = (X z 16 1 [x0, x1, x2, x3, x4, x5, x6] (.int (nI 0) :: st) cu σ Q) := by
  rw [x16_0]
  rfl
theorem v16_1 {z : P0} {st : List Value} {cu : Nat × Nat} {Q : Res → Mem → Prop} {σ : Mem} {x0 x1 x2 x3 x4 x5 x6 : Option Value} {u : Int32} : X z 16 1 [x0, x1, x2, x3, x4, x5, x6] (.int u :: st) cu σ Q = (cat2 x2 = false ∧ X z 16 2 [x0, x1, x2, some (.int u), x4, x5, x6] (st) cu σ Q) := by
  rw [x16_1]
  obtain ⟨K, I, R, L, sz, ex⟩ := σ
  exact i_istore_n.trans sl_3
theorem v16_2 {z : P0} {st : List Value} {cu : Nat × Nat} {Q : Res → Mem → Prop} {σ : Mem} {x0 x1 x2 x3 x4 x5 x6 : Option Value} : X z 16 2 [x0, x1, x2, x3, x4, x5, x6] (st) cu σ Q = (X z 16 3 [x0, x1, x2, x3, x4, x5, x6] (.int (nI 0) :: st) cu σ Q) := by
  rw [x16_2]
  rfl
theorem v16_3 {z : P0} {st : List Value} {cu : Nat × Nat} {Q : Res → Mem → Prop} {σ : Mem} {x0 x1 x2 x3 x4 x5 x6 : Option Value} {u : Int32} : X z 16 3 [x0, x1, x2, x3, x4, x5, x6] (.int u :: st) cu σ Q = (cat2 x3 = false ∧ X z 16 5 [x0, x1, x2, x3, some (.int u), x5, x6] (st) cu σ Q) := by
  rw [x16_3]
  obtain ⟨K, I, R, L, sz, ex⟩ := σ
  exact i_istore.trans sl_4
theorem v16_5 {z : P0} {st : List Value} {cu : Nat × Nat} {Q : Res → Mem → Prop} {σ : Mem} {x0 x1 x2 x3 x4 x5 x6 : Option Value} : X z 16 5 [x0, x1, x2, x3, x4, x5, x6] (st) cu σ Q = (X z 16 6 [x0, x1, x2, x3, x4, x5, x6] (.int (nI 0) :: st) cu σ Q) := by
  rw [x16_5]
  rfl
theorem v16_6 {z : P0} {st : List Value} {cu : Nat × Nat} {Q : Res → Mem → Prop} {σ : Mem} {x0 x1 x2 x3 x4 x5 x6 : Option Value} {u : Int32} : X z 16 6 [x0, x1, x2, x3, x4, x5, x6] (.int u :: st) cu σ Q = (cat2 x4 = false ∧ X z 16 8 [x0, x1, x2, x3, x4, some (.int u), x6] (st) cu σ Q) := by
  rw [x16_6]
  obtain ⟨K, I, R, L, sz, ex⟩ := σ
  exact i_istore.trans sl_5
theorem v16_8 {z : P0} {st : List Value} {cu : Nat × Nat} {Q : Res → Mem → Prop} {σ : Mem} {x0 x1 x2 x3 x4 x6 : Option Value} {u : Int32} : X z 16 8 [x0, x1, x2, x3, x4, some (.int u), x6] (st) cu σ Q = (X z 16 10 [x0, x1, x2, x3, x4, some (.int u), x6] (.int u :: st) cu σ Q) := by
  rw [x16_8]
  rfl
theorem v16_10 {z : P0} {st : List Value} {cu : Nat × Nat} {Q : Res → Mem → Prop} {σ : Mem} {x0 x1 x3 x4 x5 x6 : Option Value} {u : Nat} : X z 16 10 [x0, x1, some (.ref u), x3, x4, x5, x6] (st) cu σ Q = (X z 16 11 [x0, x1, some (.ref u), x3, x4, x5, x6] (.ref u :: st) cu σ Q) := by
  rw [x16_10]
  rfl
theorem v16_11 {z : P0} {st : List Value} {cu : Nat × Nat} {Q : Res → Mem → Prop} {K : Nat → Nat × Nat} {I : Nat → Nat → Int32} {R : Nat → Nat → Option Nat} {L : Nat → Nat → Int64} {sz : Nat} {ex : Bool} {x0 x1 x2 x3 x4 x5 x6 : Option Value} {u : Nat} : X z 16 11 [x0, x1, x2, x3, x4, x5, x6] (.ref u :: st) cu (K, I, R, L, sz, ex) Q = ((K u).1 = 102 ∧ X z 16 14 [x0, x1, x2, x3, x4, x5, x6] (.int (I u 1) :: st) cu (K, I, R, L, sz, ex) Q) := by
  rw [x16_11]
  rfl
theorem v16_14 {z : P0} {st : List Value} {cu : Nat × Nat} {Q : Res → Mem → Prop} {σ : Mem} {x0 x1 x2 x3 x4 x5 x6 : Option Value} {u v : Int32} : X z 16 14 [x0, x1, x2, x3, x4, x5, x6] (.int v :: .int u :: st) cu σ Q = (if u < v then X z 16 17 [x0, x1, x2, x3, x4, x5, x6] (st) cu σ Q else X z 16 84 [x0, x1, x2, x3, x4, x5, x6] (st) cu σ Q) := by
  rw [x16_14]
  obtain ⟨K, I, R, L, sz, ex⟩ := σ
  exact br_ge
theorem v16_17 {z : P0} {st : List Value} {cu : Nat × Nat} {Q : Res → Mem → Prop} {σ : Mem} {x0 x2 x3 x4 x5 x6 : Option Value} {u : Nat} : X z 16 17 [x0, some (.ref u), x2, x3, x4, x5, x6] (st) cu σ Q = (X z 16 18 [x0, some (.ref u), x2, x3, x4, x5, x6] (.ref u :: st) cu σ Q) := by
  rw [x16_17]
  rfl
theorem v16_18 {z : P0} {st : List Value} {cu : Nat × Nat} {Q : Res → Mem → Prop} {K : Nat → Nat × Nat} {I : Nat → Nat → Int32} {R : Nat → Nat → Option Nat} {L : Nat → Nat → Int64} {sz : Nat} {ex : Bool} {x0 x1 x2 x3 x4 x5 x6 : Option Value} {u : Nat} : X z 16 18 [x0, x1, x2, x3, x4, x5, x6] (.ref u :: st) cu (K, I, R, L, sz, ex) Q = ((K u).1 = 108 ∧ X z 16 21 [x0, x1, x2, x3, x4, x5, x6] (va_rf (R u 0) :: st) cu (K, I, R, L, sz, ex) Q) := by
  rw [x16_18]
  rfl
theorem v16_21 {z : P0} {st : List Value} {cu : Nat × Nat} {Q : Res → Mem → Prop} {σ : Mem} {x0 x1 x3 x4 x5 x6 : Option Value} {u : Nat} : X z 16 21 [x0, x1, some (.ref u), x3, x4, x5, x6] (st) cu σ Q = (X z 16 22 [x0, x1, some (.ref u), x3, x4, x5, x6] (.ref u :: st) cu σ Q) := by
  rw [x16_21]
  rfl
theorem v16_22 {z : P0} {st : List Value} {cu : Nat × Nat} {Q : Res → Mem → Prop} {K : Nat → Nat × Nat} {I : Nat → Nat → Int32} {R : Nat → Nat → Option Nat} {L : Nat → Nat → Int64} {sz : Nat} {ex : Bool} {x0 x1 x2 x3 x4 x5 x6 : Option Value} {u : Nat} : X z 16 22 [x0, x1, x2, x3, x4, x5, x6] (.ref u :: st) cu (K, I, R, L, sz, ex) Q = ((K u).1 = 102 ∧ X z 16 25 [x0, x1, x2, x3, x4, x5, x6] (va_rf (R u 0) :: st) cu (K, I, R, L, sz, ex) Q) := by
  rw [x16_22]
  rfl
theorem v16_25 {z : P0} {st : List Value} {cu : Nat × Nat} {Q : Res → Mem → Prop} {σ : Mem} {x0 x1 x2 x3 x4 x6 : Option Value} {u : Int32} : X z 16 25 [x0, x1, x2, x3, x4, some (.int u), x6] (st) cu σ Q = (X z 16 27 [x0, x1, x2, x3, x4, some (.int u), x6] (.int u :: st) cu σ Q) := by
  rw [x16_25]
  rfl
theorem v16_27 {z : P0} {st : List Value} {cu : Nat × Nat} {Q : Res → Mem → Prop} {K : Nat → Nat × Nat} {I : Nat → Nat → Int32} {R : Nat → Nat → Option Nat} {L : Nat → Nat → Int64} {sz : Nat} {ex : Bool} {x0 x1 x2 x3 x4 x5 x6 : Option Value} {u : Nat} {v : Int32} : X z 16 27 [x0, x1, x2, x3, x4, x5, x6] (.int v :: .ref u :: st) cu (K, I, R, L, sz, ex) Q = (((K u).1 = 20 ∨ (K u).1 = 50) ∧ vp_in v (K u).2 ∧ X z 16 28 [x0, x1, x2, x3, x4, x5, x6] (.int (I u v.toNatClampNeg) :: st) cu (K, I, R, L, sz, ex) Q) := by
  rw [x16_27]
  rfl
theorem v16_28 {z : P0} {st : List Value} {cu : Nat × Nat} {Q : Res → Mem → Prop} {K : Nat → Nat × Nat} {I : Nat → Nat → Int32} {R : Nat → Nat → Option Nat} {L : Nat → Nat → Int64} {sz : Nat} {ex : Bool} {x0 x1 x2 x3 x4 x5 x6 : Option Value} {u : Nat} {v : Int32} : X z 16 28 [x0, x1, x2, x3, x4, x5, x6] (.int v :: .ref u :: st) cu (K, I, R, L, sz, ex) Q = (((K u).1 = 22 ∨ (K u).1 = 23 ∨ (K u).1 = 24 ∨ (K u).1 = 25) ∧ vp_in v (K u).2 ∧ X z 16 29 [x0, x1, x2, x3, x4, x5, x6] (va_rf (R u v.toNatClampNeg) :: st) cu (K, I, R, L, sz, ex) Q) := by
  rw [x16_28]
  rfl
theorem v16_29 {z : P0} {st : List Value} {cu : Nat × Nat} {Q : Res → Mem → Prop} {K : Nat → Nat × Nat} {I : Nat → Nat → Int32} {R : Nat → Nat → Option Nat} {L : Nat → Nat → Int64} {sz : Nat} {ex : Bool} {x0 x1 x2 x3 x4 x5 x6 : Option Value} {u : Nat} : X z 16 29 [x0, x1, x2, x3, x4, x5, x6] (.ref u :: st) cu (K, I, R, L, sz, ex) Q = ((K u).1 = 107 ∧ X z 16 32 [x0, x1, x2, x3, x4, x5, x6] (.int (I u 4) :: st) cu (K, I, R, L, sz, ex) Q) := by
  rw [x16_29]
  rfl
theorem v16_32 {z : P0} {st : List Value} {cu : Nat × Nat} {Q : Res → Mem → Prop} {σ : Mem} {x0 x1 x2 x3 x4 x5 x6 : Option Value} {u : Int32} : X z 16 32 [x0, x1, x2, x3, x4, x5, x6] (.int u :: st) cu σ Q = (cat2 x5 = false ∧ X z 16 34 [x0, x1, x2, x3, x4, x5, some (.int u)] (st) cu σ Q) := by
  rw [x16_32]
  obtain ⟨K, I, R, L, sz, ex⟩ := σ
  exact i_istore.trans sl_6
theorem v16_34 {z : P0} {st : List Value} {cu : Nat × Nat} {Q : Res → Mem → Prop} {σ : Mem} {x0 x1 x2 x3 x4 x5 : Option Value} {u : Int32} : X z 16 34 [x0, x1, x2, x3, x4, x5, some (.int u)] (st) cu σ Q = (X z 16 36 [x0, x1, x2, x3, x4, x5, some (.int u)] (.int u :: st) cu σ Q) := by
  rw [x16_34]
  rfl
theorem v16_36 {z : P0} {st : List Value} {cu : Nat × Nat} {Q : Res → Mem → Prop} {σ : Mem} {x0 x1 x2 x3 x4 x5 x6 : Option Value} {u : Int32} : X z 16 36 [x0, x1, x2, x3, x4, x5, x6] (.int u :: st) cu σ Q = (if u < nI 0 then X z 16 78 [x0, x1, x2, x3, x4, x5, x6] (st) cu σ Q else X z 16 39 [x0, x1, x2, x3, x4, x5, x6] (st) cu σ Q) := by
  rw [x16_36]
  rw [nI_0]
  obtain ⟨K, I, R, L, sz, ex⟩ := σ
  exact br_ite
theorem v16_39 {z : P0} {st : List Value} {cu : Nat × Nat} {Q : Res → Mem → Prop} {σ : Mem} {x0 x1 x2 x3 x4 x5 : Option Value} {u : Int32} : X z 16 39 [x0, x1, x2, x3, x4, x5, some (.int u)] (st) cu σ Q = (X z 16 41 [x0, x1, x2, x3, x4, x5, some (.int u)] (.int u :: st) cu σ Q) := by
  rw [x16_39]
  rfl
theorem v16_41 {z : P0} {st : List Value} {cu : Nat × Nat} {Q : Res → Mem → Prop} {σ : Mem} {x0 x2 x3 x4 x5 x6 : Option Value} {u : Nat} : X z 16 41 [x0, some (.ref u), x2, x3, x4, x5, x6] (st) cu σ Q = (X z 16 42 [x0, some (.ref u), x2, x3, x4, x5, x6] (.ref u :: st) cu σ Q) := by
  rw [x16_41]
  rfl
theorem v16_42 {z : P0} {st : List Value} {cu : Nat × Nat} {Q : Res → Mem → Prop} {K : Nat → Nat × Nat} {I : Nat → Nat → Int32} {R : Nat → Nat → Option Nat} {L : Nat → Nat → Int64} {sz : Nat} {ex : Bool} {x0 x1 x2 x3 x4 x5 x6 : Option Value} {u : Nat} : X z 16 42 [x0, x1, x2, x3, x4, x5, x6] (.ref u :: st) cu (K, I, R, L, sz, ex) Q = ((K u).1 = 108 ∧ X z 16 45 [x0, x1, x2, x3, x4, x5, x6] (.int (I u 3) :: st) cu (K, I, R, L, sz, ex) Q) := by
  rw [x16_42]
  rfl
theorem v16_45 {z : P0} {st : List Value} {cu : Nat × Nat} {Q : Res → Mem → Prop} {σ : Mem} {x0 x1 x2 x3 x4 x5 x6 : Option Value} {u v : Int32} : X z 16 45 [x0, x1, x2, x3, x4, x5, x6] (.int v :: .int u :: st) cu σ Q = (if u < v then X z 16 48 [x0, x1, x2, x3, x4, x5, x6] (st) cu σ Q else X z 16 78 [x0, x1, x2, x3, x4, x5, x6] (st) cu σ Q) := by
  rw [x16_45]
  obtain ⟨K, I, R, L, sz, ex⟩ := σ
  exact br_ge
theorem v16_48 {z : P0} {st : List Value} {cu : Nat × Nat} {Q : Res → Mem → Prop} {σ : Mem} {x0 x1 x2 x3 x5 x6 : Option Value} {u : Int32} : X z 16 48 [x0, x1, x2, x3, some (.int u), x5, x6] (st) cu σ Q = (X z 16 50 [x0, x1, x2, x3, some (.int u), x5, x6] (.int u :: st) cu σ Q) := by
  rw [x16_48]
  rfl
theorem v16_50 {z : P0} {st : List Value} {cu : Nat × Nat} {Q : Res → Mem → Prop} {σ : Mem} {x0 x1 x2 x3 x4 x5 x6 : Option Value} : X z 16 50 [x0, x1, x2, x3, x4, x5, x6] (st) cu σ Q = (X z 16 51 [x0, x1, x2, x3, x4, x5, x6] (.int (nI 1) :: st) cu σ Q) := by
  rw [x16_50]
  rfl
theorem v16_51 {z : P0} {st : List Value} {cu : Nat × Nat} {Q : Res → Mem → Prop} {σ : Mem} {x0 x1 x2 x3 x4 x5 : Option Value} {u : Int32} : X z 16 51 [x0, x1, x2, x3, x4, x5, some (.int u)] (st) cu σ Q = (X z 16 53 [x0, x1, x2, x3, x4, x5, some (.int u)] (.int u :: st) cu σ Q) := by
  rw [x16_51]
  rfl
theorem v16_53 {z : P0} {st : List Value} {cu : Nat × Nat} {Q : Res → Mem → Prop} {σ : Mem} {x0 x1 x2 x3 x4 x5 x6 : Option Value} {u v : Int32} : X z 16 53 [x0, x1, x2, x3, x4, x5, x6] (.int v :: .int u :: st) cu σ Q = (X z 16 54 [x0, x1, x2, x3, x4, x5, x6] (.int (u <<< (v &&& 31)) :: st) cu σ Q) := by
  rw [x16_53]
  rfl
theorem v16_54 {z : P0} {st : List Value} {cu : Nat × Nat} {Q : Res → Mem → Prop} {σ : Mem} {x0 x1 x2 x3 x4 x5 x6 : Option Value} {u v : Int32} : X z 16 54 [x0, x1, x2, x3, x4, x5, x6] (.int v :: .int u :: st) cu σ Q = (X z 16 55 [x0, x1, x2, x3, x4, x5, x6] (.int (u &&& v) :: st) cu σ Q) := by
  rw [x16_54]
  rfl
theorem v16_55 {z : P0} {st : List Value} {cu : Nat × Nat} {Q : Res → Mem → Prop} {σ : Mem} {x0 x1 x2 x3 x4 x5 x6 : Option Value} {u : Int32} : X z 16 55 [x0, x1, x2, x3, x4, x5, x6] (.int u :: st) cu σ Q = (if u = nI 0 then X z 16 58 [x0, x1, x2, x3, x4, x5, x6] (st) cu σ Q else X z 16 78 [x0, x1, x2, x3, x4, x5, x6] (st) cu σ Q) := by
  rw [x16_55]
  rw [nI_0]
  obtain ⟨K, I, R, L, sz, ex⟩ := σ
  exact br_ne
theorem v16_58 {z : P0} {st : List Value} {cu : Nat × Nat} {Q : Res → Mem → Prop} {σ : Mem} {x0 x1 x2 x3 x5 x6 : Option Value} {u : Int32} : X z 16 58 [x0, x1, x2, x3, some (.int u), x5, x6] (st) cu σ Q = (X z 16 60 [x0, x1, x2, x3, some (.int u), x5, x6] (.int u :: st) cu σ Q) := by
  rw [x16_58]
  rfl
theorem v16_60 {z : P0} {st : List Value} {cu : Nat × Nat} {Q : Res → Mem → Prop} {σ : Mem} {x0 x1 x2 x3 x4 x5 x6 : Option Value} : X z 16 60 [x0, x1, x2, x3, x4, x5, x6] (st) cu σ Q = (X z 16 61 [x0, x1, x2, x3, x4, x5, x6] (.int (nI 1) :: st) cu σ Q) := by
  rw [x16_60]
  rfl
theorem v16_61 {z : P0} {st : List Value} {cu : Nat × Nat} {Q : Res → Mem → Prop} {σ : Mem} {x0 x1 x2 x3 x4 x5 : Option Value} {u : Int32} : X z 16 61 [x0, x1, x2, x3, x4, x5, some (.int u)] (st) cu σ Q = (X z 16 63 [x0, x1, x2, x3, x4, x5, some (.int u)] (.int u :: st) cu σ Q) := by
  rw [x16_61]
  rfl
theorem v16_63 {z : P0} {st : List Value} {cu : Nat × Nat} {Q : Res → Mem → Prop} {σ : Mem} {x0 x1 x2 x3 x4 x5 x6 : Option Value} {u v : Int32} : X z 16 63 [x0, x1, x2, x3, x4, x5, x6] (.int v :: .int u :: st) cu σ Q = (X z 16 64 [x0, x1, x2, x3, x4, x5, x6] (.int (u <<< (v &&& 31)) :: st) cu σ Q) := by
  rw [x16_63]
  rfl
theorem v16_64 {z : P0} {st : List Value} {cu : Nat × Nat} {Q : Res → Mem → Prop} {σ : Mem} {x0 x1 x2 x3 x4 x5 x6 : Option Value} {u v : Int32} : X z 16 64 [x0, x1, x2, x3, x4, x5, x6] (.int v :: .int u :: st) cu σ Q = (X z 16 65 [x0, x1, x2, x3, x4, x5, x6] (.int (u ||| v) :: st) cu σ Q) := by
  rw [x16_64]
  rfl
theorem v16_65 {z : P0} {st : List Value} {cu : Nat × Nat} {Q : Res → Mem → Prop} {σ : Mem} {x0 x1 x2 x3 x4 x5 x6 : Option Value} {u : Int32} : X z 16 65 [x0, x1, x2, x3, x4, x5, x6] (.int u :: st) cu σ Q = (cat2 x3 = false ∧ X z 16 67 [x0, x1, x2, x3, some (.int u), x5, x6] (st) cu σ Q) := by
  rw [x16_65]
  obtain ⟨K, I, R, L, sz, ex⟩ := σ
  exact i_istore.trans sl_4
theorem v16_67 {z : P0} {st : List Value} {cu : Nat × Nat} {Q : Res → Mem → Prop} {σ : Mem} {x1 x2 x3 x4 x5 x6 : Option Value} {u : Nat} : X z 16 67 [some (.ref u), x1, x2, x3, x4, x5, x6] (st) cu σ Q = (X z 16 68 [some (.ref u), x1, x2, x3, x4, x5, x6] (.ref u :: st) cu σ Q) := by
  rw [x16_67]
  rfl
theorem v16_68 {z : P0} {st : List Value} {cu : Nat × Nat} {Q : Res → Mem → Prop} {K : Nat → Nat × Nat} {I : Nat → Nat → Int32} {R : Nat → Nat → Option Nat} {L : Nat → Nat → Int64} {sz : Nat} {ex : Bool} {x0 x1 x2 x3 x4 x5 x6 : Option Value} {u : Nat} : X z 16 68 [x0, x1, x2, x3, x4, x5, x6] (.ref u :: st) cu (K, I, R, L, sz, ex) Q = ((K u).1 = 101 ∧ X z 16 71 [x0, x1, x2, x3, x4, x5, x6] (va_rf (R u 2) :: st) cu (K, I, R, L, sz, ex) Q) := by
  rw [x16_68]
  rfl
theorem v16_71 {z : P0} {st : List Value} {cu : Nat × Nat} {Q : Res → Mem → Prop} {σ : Mem} {x0 x1 x2 x4 x5 x6 : Option Value} {u : Int32} : X z 16 71 [x0, x1, x2, some (.int u), x4, x5, x6] (st) cu σ Q = (X z 16 72 [x0, x1, x2, some (.int u), x4, x5, x6] (.int u :: st) cu σ Q) := by
  rw [x16_71]
  rfl
theorem v16_72 {z : P0} {st : List Value} {cu : Nat × Nat} {Q : Res → Mem → Prop} {σ : Mem} {x0 x1 x2 x3 x4 x5 : Option Value} {u : Int32} : X z 16 72 [x0, x1, x2, x3, x4, x5, some (.int u)] (st) cu σ Q = (X z 16 74 [x0, x1, x2, x3, x4, x5, some (.int u)] (.int u :: st) cu σ Q) := by
  rw [x16_72]
  rfl
theorem v16_74 {z : P0} {st : List Value} {cu : Nat × Nat} {Q : Res → Mem → Prop} {K : Nat → Nat × Nat} {I : Nat → Nat → Int32} {R : Nat → Nat → Option Nat} {L : Nat → Nat → Int64} {sz : Nat} {ex : Bool} {x0 x1 x2 x3 x4 x5 x6 : Option Value} {u : Nat} {j v : Int32} : X z 16 74 [x0, x1, x2, x3, x4, x5, x6] (.int v :: .int j :: .ref u :: st) cu (K, I, R, L, sz, ex) Q = ((K u).1 = 20 ∧ vp_in j (K u).2 ∧ X z 16 75 [x0, x1, x2, x3, x4, x5, x6] (st) cu (K, up2 I u j.toNatClampNeg v, R, L, sz, ex) Q) := by
  rw [x16_74]
  rfl
theorem v16_75 {z : P0} {st : List Value} {cu : Nat × Nat} {Q : Res → Mem → Prop} {σ : Mem} {x0 x1 x2 x4 x5 x6 : Option Value} {u : Int32} : X z 16 75 [x0, x1, x2, some (.int u), x4, x5, x6] (st) cu σ Q = (cat2 x2 = false ∧ X z 16 78 [x0, x1, x2, some (.int (u + nI 1)), x4, x5, x6] (st) cu σ Q) := by
  rw [x16_75]
  obtain ⟨K, I, R, L, sz, ex⟩ := σ
  exact i_iinc.trans (gl_3.trans (ldI_i.trans sl_3))
theorem v16_78 {z : P0} {st : List Value} {cu : Nat × Nat} {Q : Res → Mem → Prop} {σ : Mem} {x0 x1 x2 x3 x4 x6 : Option Value} {u : Int32} : X z 16 78 [x0, x1, x2, x3, x4, some (.int u), x6] (st) cu σ Q = (cat2 x4 = false ∧ X z 16 81 [x0, x1, x2, x3, x4, some (.int (u + nI 1)), x6] (st) cu σ Q) := by
  rw [x16_78]
  obtain ⟨K, I, R, L, sz, ex⟩ := σ
  exact i_iinc.trans (gl_5.trans (ldI_i.trans sl_5))
theorem v16_81 {z : P0} {st : List Value} {cu : Nat × Nat} {Q : Res → Mem → Prop} {σ : Mem} {x0 x1 x2 x3 x4 x5 x6 : Option Value} : X z 16 81 [x0, x1, x2, x3, x4, x5, x6] (st) cu σ Q = (X z 16 8 [x0, x1, x2, x3, x4, x5, x6] (st) cu σ Q) := by
  rw [x16_81]
  rfl
theorem v16_84 {z : P0} {st : List Value} {cu : Nat × Nat} {Q : Res → Mem → Prop} {σ : Mem} {x0 x1 x2 x4 x5 x6 : Option Value} {u : Int32} : X z 16 84 [x0, x1, x2, some (.int u), x4, x5, x6] (st) cu σ Q = (X z 16 85 [x0, x1, x2, some (.int u), x4, x5, x6] (.int u :: st) cu σ Q) := by
  rw [x16_84]
  rfl
theorem v16_85 {z : P0} {cu : Nat × Nat} {Q : Res → Mem → Prop} {σ : Mem} {x0 x1 x2 x3 x4 x5 x6 : Option Value} {v : Int32} : X z 16 85 [x0, x1, x2, x3, x4, x5, x6] ([.int v]) cu σ Q = (Q (.inl (some (.int v))) σ) := by
  rw [x16_85]
  exact propext ⟨fun h => h.2, fun h => ⟨trivial, h⟩⟩
theorem v17_0 {z : P0} {st : List Value} {cu : Nat × Nat} {Q : Res → Mem → Prop} {σ : Mem} {x0 x1 x2 x3 : Option Value} : X z 17 0 [x0, x1, x2, x3] (st) cu σ Q = (X z 17 1 [x0, x1, x2, x3] (.int (nI 0) :: st) cu σ Q) := by
  rw [x17_0]
  rfl
theorem v17_1 {z : P0} {st : List Value} {cu : Nat × Nat} {Q : Res → Mem → Prop} {σ : Mem} {x0 x1 x2 x3 : Option Value} {u : Int32} : X z 17 1 [x0, x1, x2, x3] (.int u :: st) cu σ Q = (cat2 x2 = false ∧ X z 17 2 [x0, x1, x2, some (.int u)] (st) cu σ Q) := by
  rw [x17_1]
  obtain ⟨K, I, R, L, sz, ex⟩ := σ
  exact i_istore_n.trans sl_3
theorem v17_2 {z : P0} {st : List Value} {cu : Nat × Nat} {Q : Res → Mem → Prop} {σ : Mem} {x0 x1 x2 : Option Value} {u : Int32} : X z 17 2 [x0, x1, x2, some (.int u)] (st) cu σ Q = (X z 17 3 [x0, x1, x2, some (.int u)] (.int u :: st) cu σ Q) := by
  rw [x17_2]
  rfl
theorem v17_3 {z : P0} {st : List Value} {cu : Nat × Nat} {Q : Res → Mem → Prop} {σ : Mem} {x0 x1 x3 : Option Value} {u : Int32} : X z 17 3 [x0, x1, some (.int u), x3] (st) cu σ Q = (X z 17 4 [x0, x1, some (.int u), x3] (.int u :: st) cu σ Q) := by
  rw [x17_3]
  rfl
theorem v17_4 {z : P0} {st : List Value} {cu : Nat × Nat} {Q : Res → Mem → Prop} {σ : Mem} {x0 x1 x2 x3 : Option Value} {u v : Int32} : X z 17 4 [x0, x1, x2, x3] (.int v :: .int u :: st) cu σ Q = (if u < v then X z 17 7 [x0, x1, x2, x3] (st) cu σ Q else X z 17 45 [x0, x1, x2, x3] (st) cu σ Q) := by
  rw [x17_4]
  obtain ⟨K, I, R, L, sz, ex⟩ := σ
  exact br_ge
theorem v17_7 {z : P0} {st : List Value} {cu : Nat × Nat} {Q : Res → Mem → Prop} {σ : Mem} {x1 x2 x3 : Option Value} {u : Nat} : X z 17 7 [some (.ref u), x1, x2, x3] (st) cu σ Q = (X z 17 8 [some (.ref u), x1, x2, x3] (.ref u :: st) cu σ Q) := by
  rw [x17_7]
  rfl
theorem v17_8 {z : P0} {st : List Value} {cu : Nat × Nat} {Q : Res → Mem → Prop} {K : Nat → Nat × Nat} {I : Nat → Nat → Int32} {R : Nat → Nat → Option Nat} {L : Nat → Nat → Int64} {sz : Nat} {ex : Bool} {x0 x1 x2 x3 : Option Value} {u : Nat} : X z 17 8 [x0, x1, x2, x3] (.ref u :: st) cu (K, I, R, L, sz, ex) Q = ((K u).1 = 101 ∧ X z 17 11 [x0, x1, x2, x3] (.int (I u 1) :: st) cu (K, I, R, L, sz, ex) Q) := by
  rw [x17_8]
  rfl
theorem v17_11 {z : P0} {st : List Value} {cu : Nat × Nat} {Q : Res → Mem → Prop} {σ : Mem} {x0 x1 x2 x3 : Option Value} : X z 17 11 [x0, x1, x2, x3] (st) cu σ Q = (X z 17 14 [x0, x1, x2, x3] (.int (nI 1660) :: st) cu σ Q) := by
  rw [x17_11]
  rfl
theorem v17_14 {z : P0} {st : List Value} {cu : Nat × Nat} {Q : Res → Mem → Prop} {σ : Mem} {x0 x1 x2 x3 : Option Value} {u v : Int32} : X z 17 14 [x0, x1, x2, x3] (.int v :: .int u :: st) cu σ Q = (if u < v then X z 17 17 [x0, x1, x2, x3] (st) cu σ Q else X z 17 45 [x0, x1, x2, x3] (st) cu σ Q) := by
  rw [x17_14]
  obtain ⟨K, I, R, L, sz, ex⟩ := σ
  exact br_ge
theorem v17_17 {z : P0} {st : List Value} {cu : Nat × Nat} {Q : Res → Mem → Prop} {σ : Mem} {x1 x2 x3 : Option Value} {u : Nat} : X z 17 17 [some (.ref u), x1, x2, x3] (st) cu σ Q = (X z 17 18 [some (.ref u), x1, x2, x3] (.ref u :: st) cu σ Q) := by
  rw [x17_17]
  rfl
theorem v17_18 {z : P0} {st : List Value} {cu : Nat × Nat} {Q : Res → Mem → Prop} {K : Nat → Nat × Nat} {I : Nat → Nat → Int32} {R : Nat → Nat → Option Nat} {L : Nat → Nat → Int64} {sz : Nat} {ex : Bool} {x0 x1 x2 x3 : Option Value} {u : Nat} : X z 17 18 [x0, x1, x2, x3] (.ref u :: st) cu (K, I, R, L, sz, ex) Q = ((K u).1 = 101 ∧ X z 17 21 [x0, x1, x2, x3] (va_rf (R u 0) :: st) cu (K, I, R, L, sz, ex) Q) := by
  rw [x17_18]
  rfl
theorem v17_21 {z : P0} {st : List Value} {cu : Nat × Nat} {Q : Res → Mem → Prop} {σ : Mem} {x1 x2 x3 : Option Value} {u : Nat} : X z 17 21 [some (.ref u), x1, x2, x3] (st) cu σ Q = (X z 17 22 [some (.ref u), x1, x2, x3] (.ref u :: st) cu σ Q) := by
  rw [x17_21]
  rfl
theorem v17_22 {z : P0} {st : List Value} {cu : Nat × Nat} {Q : Res → Mem → Prop} {K : Nat → Nat × Nat} {I : Nat → Nat → Int32} {R : Nat → Nat → Option Nat} {L : Nat → Nat → Int64} {sz : Nat} {ex : Bool} {x0 x1 x2 x3 : Option Value} {u : Nat} : X z 17 22 [x0, x1, x2, x3] (.ref u :: st) cu (K, I, R, L, sz, ex) Q = ((K u).1 = 101 ∧ X z 17 25 [x0, x1, x2, x3] (.int (I u 1) :: st) cu (K, I, R, L, sz, ex) Q) := by
  rw [x17_22]
  rfl
theorem v17_25 {z : P0} {st : List Value} {cu : Nat × Nat} {Q : Res → Mem → Prop} {σ : Mem} {x0 x2 x3 : Option Value} {u : Nat} : X z 17 25 [x0, some (.ref u), x2, x3] (st) cu σ Q = (X z 17 26 [x0, some (.ref u), x2, x3] (.ref u :: st) cu σ Q) := by
  rw [x17_25]
  rfl
theorem v17_26 {z : P0} {st : List Value} {cu : Nat × Nat} {Q : Res → Mem → Prop} {σ : Mem} {x0 x1 x2 : Option Value} {u : Int32} : X z 17 26 [x0, x1, x2, some (.int u)] (st) cu σ Q = (X z 17 27 [x0, x1, x2, some (.int u)] (.int u :: st) cu σ Q) := by
  rw [x17_26]
  rfl
theorem v17_27 {z : P0} {st : List Value} {cu : Nat × Nat} {Q : Res → Mem → Prop} {K : Nat → Nat × Nat} {I : Nat → Nat → Int32} {R : Nat → Nat → Option Nat} {L : Nat → Nat → Int64} {sz : Nat} {ex : Bool} {x0 x1 x2 x3 : Option Value} {u : Nat} {v : Int32} : X z 17 27 [x0, x1, x2, x3] (.int v :: .ref u :: st) cu (K, I, R, L, sz, ex) Q = (((K u).1 = 20 ∨ (K u).1 = 50) ∧ vp_in v (K u).2 ∧ X z 17 28 [x0, x1, x2, x3] (.int (I u v.toNatClampNeg) :: st) cu (K, I, R, L, sz, ex) Q) := by
  rw [x17_27]
  rfl
theorem v17_28 {z : P0} {st : List Value} {cu : Nat × Nat} {Q : Res → Mem → Prop} {K : Nat → Nat × Nat} {I : Nat → Nat → Int32} {R : Nat → Nat → Option Nat} {L : Nat → Nat → Int64} {sz : Nat} {ex : Bool} {x0 x1 x2 x3 : Option Value} {u : Nat} {j v : Int32} : X z 17 28 [x0, x1, x2, x3] (.int v :: .int j :: .ref u :: st) cu (K, I, R, L, sz, ex) Q = ((K u).1 = 20 ∧ vp_in j (K u).2 ∧ X z 17 29 [x0, x1, x2, x3] (st) cu (K, up2 I u j.toNatClampNeg v, R, L, sz, ex) Q) := by
  rw [x17_28]
  rfl
theorem v17_29 {z : P0} {st : List Value} {cu : Nat × Nat} {Q : Res → Mem → Prop} {σ : Mem} {x1 x2 x3 : Option Value} {u : Nat} : X z 17 29 [some (.ref u), x1, x2, x3] (st) cu σ Q = (X z 17 30 [some (.ref u), x1, x2, x3] (.ref u :: st) cu σ Q) := by
  rw [x17_29]
  rfl
theorem v17_30 {z : P0} {st : List Value} {cu : Nat × Nat} {Q : Res → Mem → Prop} {σ : Mem} {x0 x1 x2 x3 : Option Value} {u : Nat} : X z 17 30 [x0, x1, x2, x3] (.ref u :: st) cu σ Q = (X z 17 31 [x0, x1, x2, x3] (.ref u :: .ref u :: st) cu σ Q) := by
  rw [x17_30]
  exact propext ⟨fun h => h.2, fun h => ⟨rfl, h⟩⟩
theorem v17_30i {z : P0} {st : List Value} {cu : Nat × Nat} {Q : Res → Mem → Prop} {σ : Mem} {x0 x1 x2 x3 : Option Value} {u : Int32} : X z 17 30 [x0, x1, x2, x3] (.int u :: st) cu σ Q = (X z 17 31 [x0, x1, x2, x3] (.int u :: .int u :: st) cu σ Q) := by
  rw [x17_30]
  exact propext ⟨fun h => h.2, fun h => ⟨rfl, h⟩⟩
theorem v17_31 {z : P0} {st : List Value} {cu : Nat × Nat} {Q : Res → Mem → Prop} {K : Nat → Nat × Nat} {I : Nat → Nat → Int32} {R : Nat → Nat → Option Nat} {L : Nat → Nat → Int64} {sz : Nat} {ex : Bool} {x0 x1 x2 x3 : Option Value} {u : Nat} : X z 17 31 [x0, x1, x2, x3] (.ref u :: st) cu (K, I, R, L, sz, ex) Q = ((K u).1 = 101 ∧ X z 17 34 [x0, x1, x2, x3] (.int (I u 1) :: st) cu (K, I, R, L, sz, ex) Q) := by
  rw [x17_31]
  rfl
theorem v17_34 {z : P0} {st : List Value} {cu : Nat × Nat} {Q : Res → Mem → Prop} {σ : Mem} {x0 x1 x2 x3 : Option Value} : X z 17 34 [x0, x1, x2, x3] (st) cu σ Q = (X z 17 35 [x0, x1, x2, x3] (.int (nI 1) :: st) cu σ Q) := by
  rw [x17_34]
  rfl
theorem v17_35 {z : P0} {st : List Value} {cu : Nat × Nat} {Q : Res → Mem → Prop} {σ : Mem} {x0 x1 x2 x3 : Option Value} {u v : Int32} : X z 17 35 [x0, x1, x2, x3] (.int v :: .int u :: st) cu σ Q = (X z 17 36 [x0, x1, x2, x3] (.int (u + v) :: st) cu σ Q) := by
  rw [x17_35]
  rfl
theorem v17_36 {z : P0} {st : List Value} {cu : Nat × Nat} {Q : Res → Mem → Prop} {K : Nat → Nat × Nat} {I : Nat → Nat → Int32} {R : Nat → Nat → Option Nat} {L : Nat → Nat → Int64} {sz : Nat} {ex : Bool} {x0 x1 x2 x3 : Option Value} {u : Nat} {v : Int32} : X z 17 36 [x0, x1, x2, x3] (.int v :: .ref u :: st) cu (K, I, R, L, sz, ex) Q = ((K u).1 = 101 ∧ X z 17 39 [x0, x1, x2, x3] (st) cu (K, up2 I u 1 v, R, L, sz, ex) Q) := by
  rw [x17_36]
  exact i_putI
theorem v17_39 {z : P0} {st : List Value} {cu : Nat × Nat} {Q : Res → Mem → Prop} {σ : Mem} {x0 x1 x2 : Option Value} {u : Int32} : X z 17 39 [x0, x1, x2, some (.int u)] (st) cu σ Q = (cat2 x2 = false ∧ X z 17 42 [x0, x1, x2, some (.int (u + nI 1))] (st) cu σ Q) := by
  rw [x17_39]
  obtain ⟨K, I, R, L, sz, ex⟩ := σ
  exact i_iinc.trans (gl_3.trans (ldI_i.trans sl_3))
theorem v17_42 {z : P0} {st : List Value} {cu : Nat × Nat} {Q : Res → Mem → Prop} {σ : Mem} {x0 x1 x2 x3 : Option Value} : X z 17 42 [x0, x1, x2, x3] (st) cu σ Q = (X z 17 2 [x0, x1, x2, x3] (st) cu σ Q) := by
  rw [x17_42]
  rfl
theorem v17_45 {z : P0} {cu : Nat × Nat} {Q : Res → Mem → Prop} {σ : Mem} {x0 x1 x2 x3 : Option Value} : X z 17 45 [x0, x1, x2, x3] ([]) cu σ Q = (Q (.inl none) σ) := by
  rw [x17_45]
  rfl
theorem v18_0 {z : P0} {st : List Value} {cu : Nat × Nat} {Q : Res → Mem → Prop} {σ : Mem} {x0 x1 x2 : Option Value} : X z 18 0 [x0, x1, x2] (st) cu σ Q = (X z 18 1 [x0, x1, x2] (.int (nI 0) :: st) cu σ Q) := by
  rw [x18_0]
  rfl
theorem v18_1 {z : P0} {st : List Value} {cu : Nat × Nat} {Q : Res → Mem → Prop} {σ : Mem} {x0 x1 x2 : Option Value} {u : Int32} : X z 18 1 [x0, x1, x2] (.int u :: st) cu σ Q = (cat2 x1 = false ∧ X z 18 2 [x0, x1, some (.int u)] (st) cu σ Q) := by
  rw [x18_1]
  obtain ⟨K, I, R, L, sz, ex⟩ := σ
  exact i_istore_n.trans sl_2
theorem v18_2 {z : P0} {st : List Value} {cu : Nat × Nat} {Q : Res → Mem → Prop} {σ : Mem} {x0 x1 : Option Value} {u : Int32} : X z 18 2 [x0, x1, some (.int u)] (st) cu σ Q = (X z 18 3 [x0, x1, some (.int u)] (.int u :: st) cu σ Q) := by
  rw [x18_2]
  rfl
theorem v18_3 {z : P0} {st : List Value} {cu : Nat × Nat} {Q : Res → Mem → Prop} {σ : Mem} {x0 x2 : Option Value} {u : Nat} : X z 18 3 [x0, some (.ref u), x2] (st) cu σ Q = (X z 18 4 [x0, some (.ref u), x2] (.ref u :: st) cu σ Q) := by
  rw [x18_3]
  rfl
theorem u18_4 {z : P0} {ls : Lcs} {st : List Value} {K : Nat → Nat × Nat} {I : Nat → Nat → Int32} {R : Nat → Nat → Option Nat} {L : Nat → Nat → Int64} {sz : Nat} {ex : Bool} {Q : Res → Mem → Prop} {x : Nat} : X z 18 4 ls (.ref x :: st) (0, 0) (K, I, R, L, sz, ex) Q = ((K x).1 = 52 ∧ wsum st ≤ 8 ∧ X z 185 0 [some (.ref x)] [] (0, 0) (K, I, R, L, sz, ex) (aftr (X z) mT 18 4 ls st (0, 0) Q)) := v18_4 (c := 0) (n := 0)
theorem v18_7 {z : P0} {st : List Value} {cu : Nat × Nat} {Q : Res → Mem → Prop} {σ : Mem} {x0 x1 x2 : Option Value} {u v : Int32} : X z 18 7 [x0, x1, x2] (.int v :: .int u :: st) cu σ Q = (if u < v then X z 18 10 [x0, x1, x2] (st) cu σ Q else X z 18 50 [x0, x1, x2] (st) cu σ Q) := by
  rw [x18_7]
  obtain ⟨K, I, R, L, sz, ex⟩ := σ
  exact br_ge
theorem v18_10 {z : P0} {st : List Value} {cu : Nat × Nat} {Q : Res → Mem → Prop} {σ : Mem} {x1 x2 : Option Value} {u : Nat} : X z 18 10 [some (.ref u), x1, x2] (st) cu σ Q = (X z 18 11 [some (.ref u), x1, x2] (.ref u :: st) cu σ Q) := by
  rw [x18_10]
  rfl
theorem v18_11 {z : P0} {st : List Value} {cu : Nat × Nat} {Q : Res → Mem → Prop} {K : Nat → Nat × Nat} {I : Nat → Nat → Int32} {R : Nat → Nat → Option Nat} {L : Nat → Nat → Int64} {sz : Nat} {ex : Bool} {x0 x1 x2 : Option Value} {u : Nat} : X z 18 11 [x0, x1, x2] (.ref u :: st) cu (K, I, R, L, sz, ex) Q = ((K u).1 = 101 ∧ X z 18 14 [x0, x1, x2] (.int (I u 1) :: st) cu (K, I, R, L, sz, ex) Q) := by
  rw [x18_11]
  rfl
theorem v18_14 {z : P0} {st : List Value} {cu : Nat × Nat} {Q : Res → Mem → Prop} {σ : Mem} {x0 x1 x2 : Option Value} : X z 18 14 [x0, x1, x2] (st) cu σ Q = (X z 18 17 [x0, x1, x2] (.int (nI 1660) :: st) cu σ Q) := by
  rw [x18_14]
  rfl
theorem v18_17 {z : P0} {st : List Value} {cu : Nat × Nat} {Q : Res → Mem → Prop} {σ : Mem} {x0 x1 x2 : Option Value} {u v : Int32} : X z 18 17 [x0, x1, x2] (.int v :: .int u :: st) cu σ Q = (if u < v then X z 18 20 [x0, x1, x2] (st) cu σ Q else X z 18 50 [x0, x1, x2] (st) cu σ Q) := by
  rw [x18_17]
  obtain ⟨K, I, R, L, sz, ex⟩ := σ
  exact br_ge
theorem v18_20 {z : P0} {st : List Value} {cu : Nat × Nat} {Q : Res → Mem → Prop} {σ : Mem} {x1 x2 : Option Value} {u : Nat} : X z 18 20 [some (.ref u), x1, x2] (st) cu σ Q = (X z 18 21 [some (.ref u), x1, x2] (.ref u :: st) cu σ Q) := by
  rw [x18_20]
  rfl
theorem v18_21 {z : P0} {st : List Value} {cu : Nat × Nat} {Q : Res → Mem → Prop} {K : Nat → Nat × Nat} {I : Nat → Nat → Int32} {R : Nat → Nat → Option Nat} {L : Nat → Nat → Int64} {sz : Nat} {ex : Bool} {x0 x1 x2 : Option Value} {u : Nat} : X z 18 21 [x0, x1, x2] (.ref u :: st) cu (K, I, R, L, sz, ex) Q = ((K u).1 = 101 ∧ X z 18 24 [x0, x1, x2] (va_rf (R u 0) :: st) cu (K, I, R, L, sz, ex) Q) := by
  rw [x18_21]
  rfl
theorem v18_24 {z : P0} {st : List Value} {cu : Nat × Nat} {Q : Res → Mem → Prop} {σ : Mem} {x1 x2 : Option Value} {u : Nat} : X z 18 24 [some (.ref u), x1, x2] (st) cu σ Q = (X z 18 25 [some (.ref u), x1, x2] (.ref u :: st) cu σ Q) := by
  rw [x18_24]
  rfl
theorem v18_25 {z : P0} {st : List Value} {cu : Nat × Nat} {Q : Res → Mem → Prop} {K : Nat → Nat × Nat} {I : Nat → Nat → Int32} {R : Nat → Nat → Option Nat} {L : Nat → Nat → Int64} {sz : Nat} {ex : Bool} {x0 x1 x2 : Option Value} {u : Nat} : X z 18 25 [x0, x1, x2] (.ref u :: st) cu (K, I, R, L, sz, ex) Q = ((K u).1 = 101 ∧ X z 18 28 [x0, x1, x2] (.int (I u 1) :: st) cu (K, I, R, L, sz, ex) Q) := by
  rw [x18_25]
  rfl
theorem v18_28 {z : P0} {st : List Value} {cu : Nat × Nat} {Q : Res → Mem → Prop} {σ : Mem} {x0 x2 : Option Value} {u : Nat} : X z 18 28 [x0, some (.ref u), x2] (st) cu σ Q = (X z 18 29 [x0, some (.ref u), x2] (.ref u :: st) cu σ Q) := by
  rw [x18_28]
  rfl
theorem v18_29 {z : P0} {st : List Value} {cu : Nat × Nat} {Q : Res → Mem → Prop} {σ : Mem} {x0 x1 : Option Value} {u : Int32} : X z 18 29 [x0, x1, some (.int u)] (st) cu σ Q = (X z 18 30 [x0, x1, some (.int u)] (.int u :: st) cu σ Q) := by
  rw [x18_29]
  rfl
theorem u18_30 {z : P0} {ls : Lcs} {st : List Value} {K : Nat → Nat × Nat} {I : Nat → Nat → Int32} {R : Nat → Nat → Option Nat} {L : Nat → Nat → Int64} {sz : Nat} {ex : Bool} {Q : Res → Mem → Prop} {x : Nat} {a0 : Int32} : X z 18 30 ls (.int a0 :: .ref x :: st) (0, 0) (K, I, R, L, sz, ex) Q = ((K x).1 = 52 ∧ wsum st ≤ 8 ∧ X z 186 0 [some (.ref x), some (.int a0)] [] (0, 0) (K, I, R, L, sz, ex) (aftr (X z) mT 18 30 ls st (0, 0) Q)) := v18_30 (c := 0) (n := 0)
theorem v18_33 {z : P0} {st : List Value} {cu : Nat × Nat} {Q : Res → Mem → Prop} {K : Nat → Nat × Nat} {I : Nat → Nat → Int32} {R : Nat → Nat → Option Nat} {L : Nat → Nat → Int64} {sz : Nat} {ex : Bool} {x0 x1 x2 : Option Value} {u : Nat} {j v : Int32} : X z 18 33 [x0, x1, x2] (.int v :: .int j :: .ref u :: st) cu (K, I, R, L, sz, ex) Q = ((K u).1 = 20 ∧ vp_in j (K u).2 ∧ X z 18 34 [x0, x1, x2] (st) cu (K, up2 I u j.toNatClampNeg v, R, L, sz, ex) Q) := by
  rw [x18_33]
  rfl
theorem v18_34 {z : P0} {st : List Value} {cu : Nat × Nat} {Q : Res → Mem → Prop} {σ : Mem} {x1 x2 : Option Value} {u : Nat} : X z 18 34 [some (.ref u), x1, x2] (st) cu σ Q = (X z 18 35 [some (.ref u), x1, x2] (.ref u :: st) cu σ Q) := by
  rw [x18_34]
  rfl
theorem v18_35 {z : P0} {st : List Value} {cu : Nat × Nat} {Q : Res → Mem → Prop} {σ : Mem} {x0 x1 x2 : Option Value} {u : Nat} : X z 18 35 [x0, x1, x2] (.ref u :: st) cu σ Q = (X z 18 36 [x0, x1, x2] (.ref u :: .ref u :: st) cu σ Q) := by
  rw [x18_35]
  exact propext ⟨fun h => h.2, fun h => ⟨rfl, h⟩⟩
theorem v18_35i {z : P0} {st : List Value} {cu : Nat × Nat} {Q : Res → Mem → Prop} {σ : Mem} {x0 x1 x2 : Option Value} {u : Int32} : X z 18 35 [x0, x1, x2] (.int u :: st) cu σ Q = (X z 18 36 [x0, x1, x2] (.int u :: .int u :: st) cu σ Q) := by
  rw [x18_35]
  exact propext ⟨fun h => h.2, fun h => ⟨rfl, h⟩⟩
theorem v18_36 {z : P0} {st : List Value} {cu : Nat × Nat} {Q : Res → Mem → Prop} {K : Nat → Nat × Nat} {I : Nat → Nat → Int32} {R : Nat → Nat → Option Nat} {L : Nat → Nat → Int64} {sz : Nat} {ex : Bool} {x0 x1 x2 : Option Value} {u : Nat} : X z 18 36 [x0, x1, x2] (.ref u :: st) cu (K, I, R, L, sz, ex) Q = ((K u).1 = 101 ∧ X z 18 39 [x0, x1, x2] (.int (I u 1) :: st) cu (K, I, R, L, sz, ex) Q) := by
  rw [x18_36]
  rfl
theorem v18_39 {z : P0} {st : List Value} {cu : Nat × Nat} {Q : Res → Mem → Prop} {σ : Mem} {x0 x1 x2 : Option Value} : X z 18 39 [x0, x1, x2] (st) cu σ Q = (X z 18 40 [x0, x1, x2] (.int (nI 1) :: st) cu σ Q) := by
  rw [x18_39]
  rfl
theorem v18_40 {z : P0} {st : List Value} {cu : Nat × Nat} {Q : Res → Mem → Prop} {σ : Mem} {x0 x1 x2 : Option Value} {u v : Int32} : X z 18 40 [x0, x1, x2] (.int v :: .int u :: st) cu σ Q = (X z 18 41 [x0, x1, x2] (.int (u + v) :: st) cu σ Q) := by
  rw [x18_40]
  rfl
theorem v18_41 {z : P0} {st : List Value} {cu : Nat × Nat} {Q : Res → Mem → Prop} {K : Nat → Nat × Nat} {I : Nat → Nat → Int32} {R : Nat → Nat → Option Nat} {L : Nat → Nat → Int64} {sz : Nat} {ex : Bool} {x0 x1 x2 : Option Value} {u : Nat} {v : Int32} : X z 18 41 [x0, x1, x2] (.int v :: .ref u :: st) cu (K, I, R, L, sz, ex) Q = ((K u).1 = 101 ∧ X z 18 44 [x0, x1, x2] (st) cu (K, up2 I u 1 v, R, L, sz, ex) Q) := by
  rw [x18_41]
  exact i_putI
theorem v18_44 {z : P0} {st : List Value} {cu : Nat × Nat} {Q : Res → Mem → Prop} {σ : Mem} {x0 x1 : Option Value} {u : Int32} : X z 18 44 [x0, x1, some (.int u)] (st) cu σ Q = (cat2 x1 = false ∧ X z 18 47 [x0, x1, some (.int (u + nI 1))] (st) cu σ Q) := by
  rw [x18_44]
  obtain ⟨K, I, R, L, sz, ex⟩ := σ
  exact i_iinc.trans (gl_2.trans (ldI_i.trans sl_2))
theorem v18_47 {z : P0} {st : List Value} {cu : Nat × Nat} {Q : Res → Mem → Prop} {σ : Mem} {x0 x1 x2 : Option Value} : X z 18 47 [x0, x1, x2] (st) cu σ Q = (X z 18 2 [x0, x1, x2] (st) cu σ Q) := by
  rw [x18_47]
  rfl
theorem v18_50 {z : P0} {cu : Nat × Nat} {Q : Res → Mem → Prop} {σ : Mem} {x0 x1 x2 : Option Value} : X z 18 50 [x0, x1, x2] ([]) cu σ Q = (Q (.inl none) σ) := by
  rw [x18_50]
  rfl
theorem v19_0 {z : P0} {st : List Value} {cu : Nat × Nat} {Q : Res → Mem → Prop} {σ : Mem} {x1 : Option Value} {u : Nat} : X z 19 0 [some (.ref u), x1] (st) cu σ Q = (X z 19 1 [some (.ref u), x1] (.ref u :: st) cu σ Q) := by
  rw [x19_0]
  rfl
theorem v19_1 {z : P0} {st : List Value} {cu : Nat × Nat} {Q : Res → Mem → Prop} {K : Nat → Nat × Nat} {I : Nat → Nat → Int32} {R : Nat → Nat → Option Nat} {L : Nat → Nat → Int64} {sz : Nat} {ex : Bool} {x0 x1 : Option Value} {u : Nat} : X z 19 1 [x0, x1] (.ref u :: st) cu (K, I, R, L, sz, ex) Q = ((K u).1 = 101 ∧ X z 19 4 [x0, x1] (.int (I u 1) :: st) cu (K, I, R, L, sz, ex) Q) := by
  rw [x19_1]
  rfl
theorem v19_4 {z : P0} {st : List Value} {cu : Nat × Nat} {Q : Res → Mem → Prop} {σ : Mem} {x0 x1 : Option Value} : X z 19 4 [x0, x1] (st) cu σ Q = (X z 19 7 [x0, x1] (.int (nI 1660) :: st) cu σ Q) := by
  rw [x19_4]
  rfl
theorem v19_7 {z : P0} {st : List Value} {cu : Nat × Nat} {Q : Res → Mem → Prop} {σ : Mem} {x0 x1 : Option Value} {u v : Int32} : X z 19 7 [x0, x1] (.int v :: .int u :: st) cu σ Q = (if u < v then X z 19 10 [x0, x1] (st) cu σ Q else X z 19 30 [x0, x1] (st) cu σ Q) := by
  rw [x19_7]
  obtain ⟨K, I, R, L, sz, ex⟩ := σ
  exact br_ge
theorem v19_10 {z : P0} {st : List Value} {cu : Nat × Nat} {Q : Res → Mem → Prop} {σ : Mem} {x1 : Option Value} {u : Nat} : X z 19 10 [some (.ref u), x1] (st) cu σ Q = (X z 19 11 [some (.ref u), x1] (.ref u :: st) cu σ Q) := by
  rw [x19_10]
  rfl
theorem v19_11 {z : P0} {st : List Value} {cu : Nat × Nat} {Q : Res → Mem → Prop} {K : Nat → Nat × Nat} {I : Nat → Nat → Int32} {R : Nat → Nat → Option Nat} {L : Nat → Nat → Int64} {sz : Nat} {ex : Bool} {x0 x1 : Option Value} {u : Nat} : X z 19 11 [x0, x1] (.ref u :: st) cu (K, I, R, L, sz, ex) Q = ((K u).1 = 101 ∧ X z 19 14 [x0, x1] (va_rf (R u 0) :: st) cu (K, I, R, L, sz, ex) Q) := by
  rw [x19_11]
  rfl
theorem v19_14 {z : P0} {st : List Value} {cu : Nat × Nat} {Q : Res → Mem → Prop} {σ : Mem} {x1 : Option Value} {u : Nat} : X z 19 14 [some (.ref u), x1] (st) cu σ Q = (X z 19 15 [some (.ref u), x1] (.ref u :: st) cu σ Q) := by
  rw [x19_14]
  rfl
theorem v19_15 {z : P0} {st : List Value} {cu : Nat × Nat} {Q : Res → Mem → Prop} {K : Nat → Nat × Nat} {I : Nat → Nat → Int32} {R : Nat → Nat → Option Nat} {L : Nat → Nat → Int64} {sz : Nat} {ex : Bool} {x0 x1 : Option Value} {u : Nat} : X z 19 15 [x0, x1] (.ref u :: st) cu (K, I, R, L, sz, ex) Q = ((K u).1 = 101 ∧ X z 19 18 [x0, x1] (.int (I u 1) :: st) cu (K, I, R, L, sz, ex) Q) := by
  rw [x19_15]
  rfl
theorem v19_18 {z : P0} {st : List Value} {cu : Nat × Nat} {Q : Res → Mem → Prop} {σ : Mem} {x0 : Option Value} {u : Int32} : X z 19 18 [x0, some (.int u)] (st) cu σ Q = (X z 19 19 [x0, some (.int u)] (.int u :: st) cu σ Q) := by
  rw [x19_18]
  rfl
theorem v19_19 {z : P0} {st : List Value} {cu : Nat × Nat} {Q : Res → Mem → Prop} {K : Nat → Nat × Nat} {I : Nat → Nat → Int32} {R : Nat → Nat → Option Nat} {L : Nat → Nat → Int64} {sz : Nat} {ex : Bool} {x0 x1 : Option Value} {u : Nat} {j v : Int32} : X z 19 19 [x0, x1] (.int v :: .int j :: .ref u :: st) cu (K, I, R, L, sz, ex) Q = ((K u).1 = 20 ∧ vp_in j (K u).2 ∧ X z 19 20 [x0, x1] (st) cu (K, up2 I u j.toNatClampNeg v, R, L, sz, ex) Q) := by
  rw [x19_19]
  rfl
theorem v19_20 {z : P0} {st : List Value} {cu : Nat × Nat} {Q : Res → Mem → Prop} {σ : Mem} {x1 : Option Value} {u : Nat} : X z 19 20 [some (.ref u), x1] (st) cu σ Q = (X z 19 21 [some (.ref u), x1] (.ref u :: st) cu σ Q) := by
  rw [x19_20]
  rfl
theorem v19_21 {z : P0} {st : List Value} {cu : Nat × Nat} {Q : Res → Mem → Prop} {σ : Mem} {x0 x1 : Option Value} {u : Nat} : X z 19 21 [x0, x1] (.ref u :: st) cu σ Q = (X z 19 22 [x0, x1] (.ref u :: .ref u :: st) cu σ Q) := by
  rw [x19_21]
  exact propext ⟨fun h => h.2, fun h => ⟨rfl, h⟩⟩
theorem v19_21i {z : P0} {st : List Value} {cu : Nat × Nat} {Q : Res → Mem → Prop} {σ : Mem} {x0 x1 : Option Value} {u : Int32} : X z 19 21 [x0, x1] (.int u :: st) cu σ Q = (X z 19 22 [x0, x1] (.int u :: .int u :: st) cu σ Q) := by
  rw [x19_21]
  exact propext ⟨fun h => h.2, fun h => ⟨rfl, h⟩⟩
theorem v19_22 {z : P0} {st : List Value} {cu : Nat × Nat} {Q : Res → Mem → Prop} {K : Nat → Nat × Nat} {I : Nat → Nat → Int32} {R : Nat → Nat → Option Nat} {L : Nat → Nat → Int64} {sz : Nat} {ex : Bool} {x0 x1 : Option Value} {u : Nat} : X z 19 22 [x0, x1] (.ref u :: st) cu (K, I, R, L, sz, ex) Q = ((K u).1 = 101 ∧ X z 19 25 [x0, x1] (.int (I u 1) :: st) cu (K, I, R, L, sz, ex) Q) := by
  rw [x19_22]
  rfl
theorem v19_25 {z : P0} {st : List Value} {cu : Nat × Nat} {Q : Res → Mem → Prop} {σ : Mem} {x0 x1 : Option Value} : X z 19 25 [x0, x1] (st) cu σ Q = (X z 19 26 [x0, x1] (.int (nI 1) :: st) cu σ Q) := by
  rw [x19_25]
  rfl
theorem v19_26 {z : P0} {st : List Value} {cu : Nat × Nat} {Q : Res → Mem → Prop} {σ : Mem} {x0 x1 : Option Value} {u v : Int32} : X z 19 26 [x0, x1] (.int v :: .int u :: st) cu σ Q = (X z 19 27 [x0, x1] (.int (u + v) :: st) cu σ Q) := by
  rw [x19_26]
  rfl
theorem v19_27 {z : P0} {st : List Value} {cu : Nat × Nat} {Q : Res → Mem → Prop} {K : Nat → Nat × Nat} {I : Nat → Nat → Int32} {R : Nat → Nat → Option Nat} {L : Nat → Nat → Int64} {sz : Nat} {ex : Bool} {x0 x1 : Option Value} {u : Nat} {v : Int32} : X z 19 27 [x0, x1] (.int v :: .ref u :: st) cu (K, I, R, L, sz, ex) Q = ((K u).1 = 101 ∧ X z 19 30 [x0, x1] (st) cu (K, up2 I u 1 v, R, L, sz, ex) Q) := by
  rw [x19_27]
  exact i_putI
theorem v19_30 {z : P0} {cu : Nat × Nat} {Q : Res → Mem → Prop} {σ : Mem} {x0 x1 : Option Value} : X z 19 30 [x0, x1] ([]) cu σ Q = (Q (.inl none) σ) := by
  rw [x19_30]
  rfl
theorem v20_0 {z : P0} {st : List Value} {cu : Nat × Nat} {Q : Res → Mem → Prop} {σ : Mem} {u : Nat} : X z 20 0 [some (.ref u)] (st) cu σ Q = (X z 20 1 [some (.ref u)] (.ref u :: st) cu σ Q) := by
  rw [x20_0]
  rfl
theorem v20_1 {z : P0} {st : List Value} {cu : Nat × Nat} {Q : Res → Mem → Prop} {σ : Mem} {x0 : Option Value} {u : Nat} : X z 20 1 [x0] (.ref u :: st) cu σ Q = (wsum st ≤ 8 ∧ X z 20 4 [x0] (st) cu σ Q) := by
  rw [x20_1]
  exact propext ⟨fun h => h.2, fun h => ⟨rfl, h⟩⟩
theorem v20_4 {z : P0} {st : List Value} {cu : Nat × Nat} {Q : Res → Mem → Prop} {σ : Mem} {u : Nat} : X z 20 4 [some (.ref u)] (st) cu σ Q = (X z 20 5 [some (.ref u)] (.ref u :: st) cu σ Q) := by
  rw [x20_4]
  rfl
theorem v20_5 {z : P0} {st : List Value} {cu : Nat × Nat} {Q : Res → Mem → Prop} {σ : Mem} {x0 : Option Value} : X z 20 5 [x0] (st) cu σ Q = (X z 20 7 [x0] (.int (nI 6) :: st) cu σ Q) := by
  rw [x20_5]
  rfl
theorem v20_7 {z : P0} {st : List Value} {Q : Res → Mem → Prop} {K : Nat → Nat × Nat} {I : Nat → Nat → Int32} {R : Nat → Nat → Option Nat} {L : Nat → Nat → Int64} {sz : Nat} {ex : Bool} {x0 : Option Value} {c n : Nat} {v : Int32} : X z 20 7 [x0] (.int v :: st) (c, n) (K, I, R, L, sz, ex) Q = (ex = true ∧ ¬ v < 0 ∧ v.toNatClampNeg ≤ 3000 ∧ (c + 1 ≤ 1 ∧ n + v.toNatClampNeg ≤ 6) ∧ X z 20 9 [x0] (.ref sz :: st) (c + 1, n + v.toNatClampNeg) (upK K sz (20, v.toNatClampNeg), I, R, L, sz + 1, ex) Q) := by
  rw [x20_7]
  rfl
theorem v20_9 {z : P0} {st : List Value} {cu : Nat × Nat} {Q : Res → Mem → Prop} {K : Nat → Nat × Nat} {I : Nat → Nat → Int32} {R : Nat → Nat → Option Nat} {L : Nat → Nat → Int64} {sz : Nat} {ex : Bool} {x0 : Option Value} {u v : Nat} : X z 20 9 [x0] (.ref v :: .ref u :: st) cu (K, I, R, L, sz, ex) Q = ((K u).1 = 102 ∧ X z 20 12 [x0] (st) cu (K, I, up2 R u 0 (some v), L, sz, ex) Q) := by
  rw [x20_9]
  exact i_putA
theorem v20_12 {z : P0} {cu : Nat × Nat} {Q : Res → Mem → Prop} {σ : Mem} {x0 : Option Value} : X z 20 12 [x0] ([]) cu σ Q = (Q (.inl none) σ) := by
  rw [x20_12]
  rfl
theorem v21_0 {z : P0} {st : List Value} {cu : Nat × Nat} {Q : Res → Mem → Prop} {σ : Mem} {x1 : Option Value} {u : Nat} : X z 21 0 [some (.ref u), x1] (st) cu σ Q = (X z 21 1 [some (.ref u), x1] (.ref u :: st) cu σ Q) := by
  rw [x21_0]
  rfl
theorem v21_1 {z : P0} {st : List Value} {cu : Nat × Nat} {Q : Res → Mem → Prop} {K : Nat → Nat × Nat} {I : Nat → Nat → Int32} {R : Nat → Nat → Option Nat} {L : Nat → Nat → Int64} {sz : Nat} {ex : Bool} {x0 x1 : Option Value} {u : Nat} : X z 21 1 [x0, x1] (.ref u :: st) cu (K, I, R, L, sz, ex) Q = ((K u).1 = 102 ∧ X z 21 4 [x0, x1] (.int (I u 1) :: st) cu (K, I, R, L, sz, ex) Q) := by
  rw [x21_1]
  rfl
theorem v21_4 {z : P0} {st : List Value} {cu : Nat × Nat} {Q : Res → Mem → Prop} {σ : Mem} {x0 x1 : Option Value} : X z 21 4 [x0, x1] (st) cu σ Q = (X z 21 6 [x0, x1] (.int (nI 6) :: st) cu σ Q) := by
  rw [x21_4]
  rfl
theorem v21_6 {z : P0} {st : List Value} {cu : Nat × Nat} {Q : Res → Mem → Prop} {σ : Mem} {x0 x1 : Option Value} {u v : Int32} : X z 21 6 [x0, x1] (.int v :: .int u :: st) cu σ Q = (if u < v then X z 21 9 [x0, x1] (st) cu σ Q else X z 21 29 [x0, x1] (st) cu σ Q) := by
  rw [x21_6]
  obtain ⟨K, I, R, L, sz, ex⟩ := σ
  exact br_ge
theorem v21_9 {z : P0} {st : List Value} {cu : Nat × Nat} {Q : Res → Mem → Prop} {σ : Mem} {x1 : Option Value} {u : Nat} : X z 21 9 [some (.ref u), x1] (st) cu σ Q = (X z 21 10 [some (.ref u), x1] (.ref u :: st) cu σ Q) := by
  rw [x21_9]
  rfl
theorem v21_10 {z : P0} {st : List Value} {cu : Nat × Nat} {Q : Res → Mem → Prop} {K : Nat → Nat × Nat} {I : Nat → Nat → Int32} {R : Nat → Nat → Option Nat} {L : Nat → Nat → Int64} {sz : Nat} {ex : Bool} {x0 x1 : Option Value} {u : Nat} : X z 21 10 [x0, x1] (.ref u :: st) cu (K, I, R, L, sz, ex) Q = ((K u).1 = 102 ∧ X z 21 13 [x0, x1] (va_rf (R u 0) :: st) cu (K, I, R, L, sz, ex) Q) := by
  rw [x21_10]
  rfl
theorem v21_13 {z : P0} {st : List Value} {cu : Nat × Nat} {Q : Res → Mem → Prop} {σ : Mem} {x1 : Option Value} {u : Nat} : X z 21 13 [some (.ref u), x1] (st) cu σ Q = (X z 21 14 [some (.ref u), x1] (.ref u :: st) cu σ Q) := by
  rw [x21_13]
  rfl
theorem v21_14 {z : P0} {st : List Value} {cu : Nat × Nat} {Q : Res → Mem → Prop} {K : Nat → Nat × Nat} {I : Nat → Nat → Int32} {R : Nat → Nat → Option Nat} {L : Nat → Nat → Int64} {sz : Nat} {ex : Bool} {x0 x1 : Option Value} {u : Nat} : X z 21 14 [x0, x1] (.ref u :: st) cu (K, I, R, L, sz, ex) Q = ((K u).1 = 102 ∧ X z 21 17 [x0, x1] (.int (I u 1) :: st) cu (K, I, R, L, sz, ex) Q) := by
  rw [x21_14]
  rfl
theorem v21_17 {z : P0} {st : List Value} {cu : Nat × Nat} {Q : Res → Mem → Prop} {σ : Mem} {x0 : Option Value} {u : Int32} : X z 21 17 [x0, some (.int u)] (st) cu σ Q = (X z 21 18 [x0, some (.int u)] (.int u :: st) cu σ Q) := by
  rw [x21_17]
  rfl
theorem v21_18 {z : P0} {st : List Value} {cu : Nat × Nat} {Q : Res → Mem → Prop} {K : Nat → Nat × Nat} {I : Nat → Nat → Int32} {R : Nat → Nat → Option Nat} {L : Nat → Nat → Int64} {sz : Nat} {ex : Bool} {x0 x1 : Option Value} {u : Nat} {j v : Int32} : X z 21 18 [x0, x1] (.int v :: .int j :: .ref u :: st) cu (K, I, R, L, sz, ex) Q = ((K u).1 = 20 ∧ vp_in j (K u).2 ∧ X z 21 19 [x0, x1] (st) cu (K, up2 I u j.toNatClampNeg v, R, L, sz, ex) Q) := by
  rw [x21_18]
  rfl
theorem v21_19 {z : P0} {st : List Value} {cu : Nat × Nat} {Q : Res → Mem → Prop} {σ : Mem} {x1 : Option Value} {u : Nat} : X z 21 19 [some (.ref u), x1] (st) cu σ Q = (X z 21 20 [some (.ref u), x1] (.ref u :: st) cu σ Q) := by
  rw [x21_19]
  rfl
theorem v21_20 {z : P0} {st : List Value} {cu : Nat × Nat} {Q : Res → Mem → Prop} {σ : Mem} {x0 x1 : Option Value} {u : Nat} : X z 21 20 [x0, x1] (.ref u :: st) cu σ Q = (X z 21 21 [x0, x1] (.ref u :: .ref u :: st) cu σ Q) := by
  rw [x21_20]
  exact propext ⟨fun h => h.2, fun h => ⟨rfl, h⟩⟩
theorem v21_20i {z : P0} {st : List Value} {cu : Nat × Nat} {Q : Res → Mem → Prop} {σ : Mem} {x0 x1 : Option Value} {u : Int32} : X z 21 20 [x0, x1] (.int u :: st) cu σ Q = (X z 21 21 [x0, x1] (.int u :: .int u :: st) cu σ Q) := by
  rw [x21_20]
  exact propext ⟨fun h => h.2, fun h => ⟨rfl, h⟩⟩
theorem v21_21 {z : P0} {st : List Value} {cu : Nat × Nat} {Q : Res → Mem → Prop} {K : Nat → Nat × Nat} {I : Nat → Nat → Int32} {R : Nat → Nat → Option Nat} {L : Nat → Nat → Int64} {sz : Nat} {ex : Bool} {x0 x1 : Option Value} {u : Nat} : X z 21 21 [x0, x1] (.ref u :: st) cu (K, I, R, L, sz, ex) Q = ((K u).1 = 102 ∧ X z 21 24 [x0, x1] (.int (I u 1) :: st) cu (K, I, R, L, sz, ex) Q) := by
  rw [x21_21]
  rfl
theorem v21_24 {z : P0} {st : List Value} {cu : Nat × Nat} {Q : Res → Mem → Prop} {σ : Mem} {x0 x1 : Option Value} : X z 21 24 [x0, x1] (st) cu σ Q = (X z 21 25 [x0, x1] (.int (nI 1) :: st) cu σ Q) := by
  rw [x21_24]
  rfl
theorem v21_25 {z : P0} {st : List Value} {cu : Nat × Nat} {Q : Res → Mem → Prop} {σ : Mem} {x0 x1 : Option Value} {u v : Int32} : X z 21 25 [x0, x1] (.int v :: .int u :: st) cu σ Q = (X z 21 26 [x0, x1] (.int (u + v) :: st) cu σ Q) := by
  rw [x21_25]
  rfl
theorem v21_26 {z : P0} {st : List Value} {cu : Nat × Nat} {Q : Res → Mem → Prop} {K : Nat → Nat × Nat} {I : Nat → Nat → Int32} {R : Nat → Nat → Option Nat} {L : Nat → Nat → Int64} {sz : Nat} {ex : Bool} {x0 x1 : Option Value} {u : Nat} {v : Int32} : X z 21 26 [x0, x1] (.int v :: .ref u :: st) cu (K, I, R, L, sz, ex) Q = ((K u).1 = 102 ∧ X z 21 29 [x0, x1] (st) cu (K, up2 I u 1 v, R, L, sz, ex) Q) := by
  rw [x21_26]
  exact i_putI
theorem v21_29 {z : P0} {cu : Nat × Nat} {Q : Res → Mem → Prop} {σ : Mem} {x0 x1 : Option Value} : X z 21 29 [x0, x1] ([]) cu σ Q = (Q (.inl none) σ) := by
  rw [x21_29]
  rfl
theorem v22_0 {z : P0} {st : List Value} {cu : Nat × Nat} {Q : Res → Mem → Prop} {σ : Mem} {x0 x1 x2 : Option Value} : X z 22 0 [x0, x1, x2] (st) cu σ Q = (X z 22 1 [x0, x1, x2] (.int (nI 0) :: st) cu σ Q) := by
  rw [x22_0]
  rfl
theorem v22_1 {z : P0} {st : List Value} {cu : Nat × Nat} {Q : Res → Mem → Prop} {σ : Mem} {x0 x1 x2 : Option Value} {u : Int32} : X z 22 1 [x0, x1, x2] (.int u :: st) cu σ Q = (cat2 x0 = false ∧ X z 22 2 [x0, some (.int u), x2] (st) cu σ Q) := by
  rw [x22_1]
  obtain ⟨K, I, R, L, sz, ex⟩ := σ
  exact i_istore_n.trans sl_1
theorem v22_2 {z : P0} {st : List Value} {cu : Nat × Nat} {Q : Res → Mem → Prop} {σ : Mem} {x0 x1 x2 : Option Value} : X z 22 2 [x0, x1, x2] (st) cu σ Q = (X z 22 3 [x0, x1, x2] (.int (nI 0) :: st) cu σ Q) := by
  rw [x22_2]
  rfl
theorem v22_3 {z : P0} {st : List Value} {cu : Nat × Nat} {Q : Res → Mem → Prop} {σ : Mem} {x0 x1 x2 : Option Value} {u : Int32} : X z 22 3 [x0, x1, x2] (.int u :: st) cu σ Q = (cat2 x1 = false ∧ X z 22 4 [x0, x1, some (.int u)] (st) cu σ Q) := by
  rw [x22_3]
  obtain ⟨K, I, R, L, sz, ex⟩ := σ
  exact i_istore_n.trans sl_2
theorem v22_4 {z : P0} {st : List Value} {cu : Nat × Nat} {Q : Res → Mem → Prop} {σ : Mem} {x0 x1 : Option Value} {u : Int32} : X z 22 4 [x0, x1, some (.int u)] (st) cu σ Q = (X z 22 5 [x0, x1, some (.int u)] (.int u :: st) cu σ Q) := by
  rw [x22_4]
  rfl
theorem v22_5 {z : P0} {st : List Value} {cu : Nat × Nat} {Q : Res → Mem → Prop} {σ : Mem} {x1 x2 : Option Value} {u : Nat} : X z 22 5 [some (.ref u), x1, x2] (st) cu σ Q = (X z 22 6 [some (.ref u), x1, x2] (.ref u :: st) cu σ Q) := by
  rw [x22_5]
  rfl
theorem v22_6 {z : P0} {st : List Value} {cu : Nat × Nat} {Q : Res → Mem → Prop} {K : Nat → Nat × Nat} {I : Nat → Nat → Int32} {R : Nat → Nat → Option Nat} {L : Nat → Nat → Int64} {sz : Nat} {ex : Bool} {x0 x1 x2 : Option Value} {u : Nat} : X z 22 6 [x0, x1, x2] (.ref u :: st) cu (K, I, R, L, sz, ex) Q = ((K u).1 = 102 ∧ X z 22 9 [x0, x1, x2] (.int (I u 1) :: st) cu (K, I, R, L, sz, ex) Q) := by
  rw [x22_6]
  rfl
theorem v22_9 {z : P0} {st : List Value} {cu : Nat × Nat} {Q : Res → Mem → Prop} {σ : Mem} {x0 x1 x2 : Option Value} {u v : Int32} : X z 22 9 [x0, x1, x2] (.int v :: .int u :: st) cu σ Q = (if u < v then X z 22 12 [x0, x1, x2] (st) cu σ Q else X z 22 29 [x0, x1, x2] (st) cu σ Q) := by
  rw [x22_9]
  obtain ⟨K, I, R, L, sz, ex⟩ := σ
  exact br_ge
theorem v22_12 {z : P0} {st : List Value} {cu : Nat × Nat} {Q : Res → Mem → Prop} {σ : Mem} {x0 x2 : Option Value} {u : Int32} : X z 22 12 [x0, some (.int u), x2] (st) cu σ Q = (X z 22 13 [x0, some (.int u), x2] (.int u :: st) cu σ Q) := by
  rw [x22_12]
  rfl
theorem v22_13 {z : P0} {st : List Value} {cu : Nat × Nat} {Q : Res → Mem → Prop} {σ : Mem} {x0 x1 x2 : Option Value} : X z 22 13 [x0, x1, x2] (st) cu σ Q = (X z 22 14 [x0, x1, x2] (.int (nI 1) :: st) cu σ Q) := by
  rw [x22_13]
  rfl
theorem v22_14 {z : P0} {st : List Value} {cu : Nat × Nat} {Q : Res → Mem → Prop} {σ : Mem} {x1 x2 : Option Value} {u : Nat} : X z 22 14 [some (.ref u), x1, x2] (st) cu σ Q = (X z 22 15 [some (.ref u), x1, x2] (.ref u :: st) cu σ Q) := by
  rw [x22_14]
  rfl
theorem v22_15 {z : P0} {st : List Value} {cu : Nat × Nat} {Q : Res → Mem → Prop} {K : Nat → Nat × Nat} {I : Nat → Nat → Int32} {R : Nat → Nat → Option Nat} {L : Nat → Nat → Int64} {sz : Nat} {ex : Bool} {x0 x1 x2 : Option Value} {u : Nat} : X z 22 15 [x0, x1, x2] (.ref u :: st) cu (K, I, R, L, sz, ex) Q = ((K u).1 = 102 ∧ X z 22 18 [x0, x1, x2] (va_rf (R u 0) :: st) cu (K, I, R, L, sz, ex) Q) := by
  rw [x22_15]
  rfl
theorem v22_18 {z : P0} {st : List Value} {cu : Nat × Nat} {Q : Res → Mem → Prop} {σ : Mem} {x0 x1 : Option Value} {u : Int32} : X z 22 18 [x0, x1, some (.int u)] (st) cu σ Q = (X z 22 19 [x0, x1, some (.int u)] (.int u :: st) cu σ Q) := by
  rw [x22_18]
  rfl
theorem v22_19 {z : P0} {st : List Value} {cu : Nat × Nat} {Q : Res → Mem → Prop} {K : Nat → Nat × Nat} {I : Nat → Nat → Int32} {R : Nat → Nat → Option Nat} {L : Nat → Nat → Int64} {sz : Nat} {ex : Bool} {x0 x1 x2 : Option Value} {u : Nat} {v : Int32} : X z 22 19 [x0, x1, x2] (.int v :: .ref u :: st) cu (K, I, R, L, sz, ex) Q = (((K u).1 = 20 ∨ (K u).1 = 50) ∧ vp_in v (K u).2 ∧ X z 22 20 [x0, x1, x2] (.int (I u v.toNatClampNeg) :: st) cu (K, I, R, L, sz, ex) Q) := by
  rw [x22_19]
  rfl
theorem v22_20 {z : P0} {st : List Value} {cu : Nat × Nat} {Q : Res → Mem → Prop} {σ : Mem} {x0 x1 x2 : Option Value} {u v : Int32} : X z 22 20 [x0, x1, x2] (.int v :: .int u :: st) cu σ Q = (X z 22 21 [x0, x1, x2] (.int (u <<< (v &&& 31)) :: st) cu σ Q) := by
  rw [x22_20]
  rfl
theorem v22_21 {z : P0} {st : List Value} {cu : Nat × Nat} {Q : Res → Mem → Prop} {σ : Mem} {x0 x1 x2 : Option Value} {u v : Int32} : X z 22 21 [x0, x1, x2] (.int v :: .int u :: st) cu σ Q = (X z 22 22 [x0, x1, x2] (.int (u ||| v) :: st) cu σ Q) := by
  rw [x22_21]
  rfl
theorem v22_22 {z : P0} {st : List Value} {cu : Nat × Nat} {Q : Res → Mem → Prop} {σ : Mem} {x0 x1 x2 : Option Value} {u : Int32} : X z 22 22 [x0, x1, x2] (.int u :: st) cu σ Q = (cat2 x0 = false ∧ X z 22 23 [x0, some (.int u), x2] (st) cu σ Q) := by
  rw [x22_22]
  obtain ⟨K, I, R, L, sz, ex⟩ := σ
  exact i_istore_n.trans sl_1
theorem v22_23 {z : P0} {st : List Value} {cu : Nat × Nat} {Q : Res → Mem → Prop} {σ : Mem} {x0 x1 : Option Value} {u : Int32} : X z 22 23 [x0, x1, some (.int u)] (st) cu σ Q = (cat2 x1 = false ∧ X z 22 26 [x0, x1, some (.int (u + nI 1))] (st) cu σ Q) := by
  rw [x22_23]
  obtain ⟨K, I, R, L, sz, ex⟩ := σ
  exact i_iinc.trans (gl_2.trans (ldI_i.trans sl_2))
theorem v22_26 {z : P0} {st : List Value} {cu : Nat × Nat} {Q : Res → Mem → Prop} {σ : Mem} {x0 x1 x2 : Option Value} : X z 22 26 [x0, x1, x2] (st) cu σ Q = (X z 22 4 [x0, x1, x2] (st) cu σ Q) := by
  rw [x22_26]
  rfl
theorem v22_29 {z : P0} {st : List Value} {cu : Nat × Nat} {Q : Res → Mem → Prop} {σ : Mem} {x0 x2 : Option Value} {u : Int32} : X z 22 29 [x0, some (.int u), x2] (st) cu σ Q = (X z 22 30 [x0, some (.int u), x2] (.int u :: st) cu σ Q) := by
  rw [x22_29]
  rfl
theorem v22_30 {z : P0} {cu : Nat × Nat} {Q : Res → Mem → Prop} {σ : Mem} {x0 x1 x2 : Option Value} {v : Int32} : X z 22 30 [x0, x1, x2] ([.int v]) cu σ Q = (Q (.inl (some (.int v))) σ) := by
  rw [x22_30]
  exact propext ⟨fun h => h.2, fun h => ⟨trivial, h⟩⟩
theorem v23_0 {z : P0} {st : List Value} {cu : Nat × Nat} {Q : Res → Mem → Prop} {σ : Mem} {x1 : Option Value} {u : Nat} : X z 23 0 [some (.ref u), x1] (st) cu σ Q = (X z 23 1 [some (.ref u), x1] (.ref u :: st) cu σ Q) := by
  rw [x23_0]
  rfl
theorem v23_1 {z : P0} {st : List Value} {cu : Nat × Nat} {Q : Res → Mem → Prop} {σ : Mem} {x0 x1 : Option Value} {u : Nat} : X z 23 1 [x0, x1] (.ref u :: st) cu σ Q = (wsum st ≤ 8 ∧ X z 23 4 [x0, x1] (st) cu σ Q) := by
  rw [x23_1]
  exact propext ⟨fun h => h.2, fun h => ⟨rfl, h⟩⟩
theorem v23_4 {z : P0} {st : List Value} {cu : Nat × Nat} {Q : Res → Mem → Prop} {σ : Mem} {x1 : Option Value} {u : Nat} : X z 23 4 [some (.ref u), x1] (st) cu σ Q = (X z 23 5 [some (.ref u), x1] (.ref u :: st) cu σ Q) := by
  rw [x23_4]
  rfl
theorem v23_5 {z : P0} {st : List Value} {cu : Nat × Nat} {Q : Res → Mem → Prop} {σ : Mem} {x0 x1 : Option Value} : X z 23 5 [x0, x1] (st) cu σ Q = (X z 23 7 [x0, x1] (.int (nI 6) :: st) cu σ Q) := by
  rw [x23_5]
  rfl
theorem v23_7 {z : P0} {st : List Value} {Q : Res → Mem → Prop} {K : Nat → Nat × Nat} {I : Nat → Nat → Int32} {R : Nat → Nat → Option Nat} {L : Nat → Nat → Int64} {sz : Nat} {ex : Bool} {x0 x1 : Option Value} {c n : Nat} {v : Int32} : X z 23 7 [x0, x1] (.int v :: st) (c, n) (K, I, R, L, sz, ex) Q = (ex = true ∧ ¬ v < 0 ∧ v.toNatClampNeg ≤ 3000 ∧ (c + 1 ≤ 397 ∧ n + v.toNatClampNeg ≤ 3234) ∧ X z 23 10 [x0, x1] (.ref sz :: st) (c + 1, n + v.toNatClampNeg) (upK K sz (24, v.toNatClampNeg), I, R, L, sz + 1, ex) Q) := by
  rw [x23_7]
  rfl
theorem v23_10 {z : P0} {st : List Value} {cu : Nat × Nat} {Q : Res → Mem → Prop} {K : Nat → Nat × Nat} {I : Nat → Nat → Int32} {R : Nat → Nat → Option Nat} {L : Nat → Nat → Int64} {sz : Nat} {ex : Bool} {x0 x1 : Option Value} {u v : Nat} : X z 23 10 [x0, x1] (.ref v :: .ref u :: st) cu (K, I, R, L, sz, ex) Q = ((K u).1 = 103 ∧ X z 23 13 [x0, x1] (st) cu (K, I, up2 R u 0 (some v), L, sz, ex) Q) := by
  rw [x23_10]
  exact i_putA
theorem v23_13 {z : P0} {st : List Value} {cu : Nat × Nat} {Q : Res → Mem → Prop} {σ : Mem} {x0 x1 : Option Value} : X z 23 13 [x0, x1] (st) cu σ Q = (X z 23 14 [x0, x1] (.int (nI 0) :: st) cu σ Q) := by
  rw [x23_13]
  rfl
theorem v23_14 {z : P0} {st : List Value} {cu : Nat × Nat} {Q : Res → Mem → Prop} {σ : Mem} {x0 x1 : Option Value} {u : Int32} : X z 23 14 [x0, x1] (.int u :: st) cu σ Q = (cat2 x0 = false ∧ X z 23 15 [x0, some (.int u)] (st) cu σ Q) := by
  rw [x23_14]
  obtain ⟨K, I, R, L, sz, ex⟩ := σ
  exact i_istore_n.trans sl_1
theorem v23_15 {z : P0} {st : List Value} {cu : Nat × Nat} {Q : Res → Mem → Prop} {σ : Mem} {x0 : Option Value} {u : Int32} : X z 23 15 [x0, some (.int u)] (st) cu σ Q = (X z 23 16 [x0, some (.int u)] (.int u :: st) cu σ Q) := by
  rw [x23_15]
  rfl
theorem v23_16 {z : P0} {st : List Value} {cu : Nat × Nat} {Q : Res → Mem → Prop} {σ : Mem} {x0 x1 : Option Value} : X z 23 16 [x0, x1] (st) cu σ Q = (X z 23 18 [x0, x1] (.int (nI 6) :: st) cu σ Q) := by
  rw [x23_16]
  rfl
theorem v23_18 {z : P0} {st : List Value} {cu : Nat × Nat} {Q : Res → Mem → Prop} {σ : Mem} {x0 x1 : Option Value} {u v : Int32} : X z 23 18 [x0, x1] (.int v :: .int u :: st) cu σ Q = (if u < v then X z 23 21 [x0, x1] (st) cu σ Q else X z 23 40 [x0, x1] (st) cu σ Q) := by
  rw [x23_18]
  obtain ⟨K, I, R, L, sz, ex⟩ := σ
  exact br_ge
theorem v23_21 {z : P0} {st : List Value} {cu : Nat × Nat} {Q : Res → Mem → Prop} {σ : Mem} {x1 : Option Value} {u : Nat} : X z 23 21 [some (.ref u), x1] (st) cu σ Q = (X z 23 22 [some (.ref u), x1] (.ref u :: st) cu σ Q) := by
  rw [x23_21]
  rfl
theorem v23_22 {z : P0} {st : List Value} {cu : Nat × Nat} {Q : Res → Mem → Prop} {K : Nat → Nat × Nat} {I : Nat → Nat → Int32} {R : Nat → Nat → Option Nat} {L : Nat → Nat → Int64} {sz : Nat} {ex : Bool} {x0 x1 : Option Value} {u : Nat} : X z 23 22 [x0, x1] (.ref u :: st) cu (K, I, R, L, sz, ex) Q = ((K u).1 = 103 ∧ X z 23 25 [x0, x1] (va_rf (R u 0) :: st) cu (K, I, R, L, sz, ex) Q) := by
  rw [x23_22]
  rfl
theorem v23_25 {z : P0} {st : List Value} {cu : Nat × Nat} {Q : Res → Mem → Prop} {σ : Mem} {x0 : Option Value} {u : Int32} : X z 23 25 [x0, some (.int u)] (st) cu σ Q = (X z 23 26 [x0, some (.int u)] (.int u :: st) cu σ Q) := by
  rw [x23_25]
  rfl
theorem v23_26 {z : P0} {st : List Value} {Q : Res → Mem → Prop} {K : Nat → Nat × Nat} {I : Nat → Nat → Int32} {R : Nat → Nat → Option Nat} {L : Nat → Nat → Int64} {sz : Nat} {ex : Bool} {x0 x1 : Option Value} {c n : Nat} : X z 23 26 [x0, x1] (st) (c, n) (K, I, R, L, sz, ex) Q = (ex = true ∧ (c + 1 ≤ 397 ∧ n + 10 ≤ 3234) ∧ X z 23 29 [x0, x1] (.ref sz :: st) (c + 1, n + 10) (upK K sz (108, 0), I, R, L, sz + 1, ex) Q) := by
  rw [x23_26]
  rfl
theorem v23_29 {z : P0} {st : List Value} {cu : Nat × Nat} {Q : Res → Mem → Prop} {σ : Mem} {x0 x1 : Option Value} {u : Nat} : X z 23 29 [x0, x1] (.ref u :: st) cu σ Q = (X z 23 30 [x0, x1] (.ref u :: .ref u :: st) cu σ Q) := by
  rw [x23_29]
  exact propext ⟨fun h => h.2, fun h => ⟨rfl, h⟩⟩
theorem v23_29i {z : P0} {st : List Value} {cu : Nat × Nat} {Q : Res → Mem → Prop} {σ : Mem} {x0 x1 : Option Value} {u : Int32} : X z 23 29 [x0, x1] (.int u :: st) cu σ Q = (X z 23 30 [x0, x1] (.int u :: .int u :: st) cu σ Q) := by
  rw [x23_29]
  exact propext ⟨fun h => h.2, fun h => ⟨rfl, h⟩⟩
theorem u23_30 {z : P0} {ls : Lcs} {st : List Value} {c n : Nat} {K : Nat → Nat × Nat} {I : Nat → Nat → Int32} {R : Nat → Nat → Option Nat} {L : Nat → Nat → Int64} {sz : Nat} {ex : Bool} {Q : Res → Mem → Prop} {x : Nat} : X z 23 30 ls (.ref x :: st) (c, n) (K, I, R, L, sz, ex) Q = ((K x).1 = 108 ∧ wsum st ≤ 8 ∧ c + 65 ≤ 397 ∧ n + 528 ≤ 3234 ∧ X z 47 0 [some (.ref x), none] [] (0, 0) (K, I, R, L, sz, ex) (aftr (X z) mT 23 30 ls st (c + 65, n + 528) Q)) := v23_30
theorem v23_33 {z : P0} {st : List Value} {cu : Nat × Nat} {Q : Res → Mem → Prop} {K : Nat → Nat × Nat} {I : Nat → Nat → Int32} {R : Nat → Nat → Option Nat} {L : Nat → Nat → Int64} {sz : Nat} {ex : Bool} {x0 x1 : Option Value} {u v : Nat} {j : Int32} : X z 23 33 [x0, x1] (.ref v :: .int j :: .ref u :: st) cu (K, I, R, L, sz, ex) Q = (((K u).1 = 22 ∨ (K u).1 = 23 ∨ (K u).1 = 24 ∨ (K u).1 = 25) ∧ (K v).1 = elC (K u).1 ∧ vp_in j (K u).2 ∧ X z 23 34 [x0, x1] (st) cu (K, I, up2 R u j.toNatClampNeg (some v), L, sz, ex) Q) := by
  rw [x23_33]
  rfl
theorem v23_34 {z : P0} {st : List Value} {cu : Nat × Nat} {Q : Res → Mem → Prop} {σ : Mem} {x0 : Option Value} {u : Int32} : X z 23 34 [x0, some (.int u)] (st) cu σ Q = (cat2 x0 = false ∧ X z 23 37 [x0, some (.int (u + nI 1))] (st) cu σ Q) := by
  rw [x23_34]
  obtain ⟨K, I, R, L, sz, ex⟩ := σ
  exact i_iinc.trans (gl_1.trans (ldI_i.trans sl_1))
theorem v23_37 {z : P0} {st : List Value} {cu : Nat × Nat} {Q : Res → Mem → Prop} {σ : Mem} {x0 x1 : Option Value} : X z 23 37 [x0, x1] (st) cu σ Q = (X z 23 15 [x0, x1] (st) cu σ Q) := by
  rw [x23_37]
  rfl
theorem v23_40 {z : P0} {cu : Nat × Nat} {Q : Res → Mem → Prop} {σ : Mem} {x0 x1 : Option Value} : X z 23 40 [x0, x1] ([]) cu σ Q = (Q (.inl none) σ) := by
  rw [x23_40]
  rfl
theorem v24_0 {z : P0} {st : List Value} {cu : Nat × Nat} {Q : Res → Mem → Prop} {σ : Mem} {x1 : Option Value} {u : Nat} : X z 24 0 [some (.ref u), x1] (st) cu σ Q = (X z 24 1 [some (.ref u), x1] (.ref u :: st) cu σ Q) := by
  rw [x24_0]
  rfl
theorem v24_1 {z : P0} {st : List Value} {cu : Nat × Nat} {Q : Res → Mem → Prop} {K : Nat → Nat × Nat} {I : Nat → Nat → Int32} {R : Nat → Nat → Option Nat} {L : Nat → Nat → Int64} {sz : Nat} {ex : Bool} {x0 x1 : Option Value} {u : Nat} : X z 24 1 [x0, x1] (.ref u :: st) cu (K, I, R, L, sz, ex) Q = ((K u).1 = 103 ∧ X z 24 4 [x0, x1] (.int (I u 1) :: st) cu (K, I, R, L, sz, ex) Q) := by
  rw [x24_1]
  rfl
theorem v24_4 {z : P0} {st : List Value} {cu : Nat × Nat} {Q : Res → Mem → Prop} {σ : Mem} {x0 x1 : Option Value} : X z 24 4 [x0, x1] (st) cu σ Q = (X z 24 6 [x0, x1] (.int (nI 6) :: st) cu σ Q) := by
  rw [x24_4]
  rfl
theorem v24_6 {z : P0} {st : List Value} {cu : Nat × Nat} {Q : Res → Mem → Prop} {σ : Mem} {x0 x1 : Option Value} {u v : Int32} : X z 24 6 [x0, x1] (.int v :: .int u :: st) cu σ Q = (if u < v then X z 24 13 [x0, x1] (st) cu σ Q else X z 24 9 [x0, x1] (st) cu σ Q) := by
  rw [x24_6]
  obtain ⟨K, I, R, L, sz, ex⟩ := σ
  exact br_ite
theorem v24_9 {z : P0} {st : List Value} {cu : Nat × Nat} {Q : Res → Mem → Prop} {σ : Mem} {x1 : Option Value} {u : Nat} : X z 24 9 [some (.ref u), x1] (st) cu σ Q = (X z 24 10 [some (.ref u), x1] (.ref u :: st) cu σ Q) := by
  rw [x24_9]
  rfl
theorem u24_10 {z : P0} {ls : Lcs} {st : List Value} {K : Nat → Nat × Nat} {I : Nat → Nat → Int32} {R : Nat → Nat → Option Nat} {L : Nat → Nat → Int64} {sz : Nat} {ex : Bool} {Q : Res → Mem → Prop} {x : Nat} : X z 24 10 ls (.ref x :: st) (0, 0) (K, I, R, L, sz, ex) Q = ((K x).1 = 103 ∧ wsum st ≤ 8 ∧ X z 26 0 [some (.ref x), none, none] [] (0, 0) (K, I, R, L, sz, ex) (aftr (X z) mT 24 10 ls st (0, 0) Q)) := v24_10 (c := 0) (n := 0)
theorem v24_13 {z : P0} {st : List Value} {cu : Nat × Nat} {Q : Res → Mem → Prop} {σ : Mem} {x1 : Option Value} {u : Nat} : X z 24 13 [some (.ref u), x1] (st) cu σ Q = (X z 24 14 [some (.ref u), x1] (.ref u :: st) cu σ Q) := by
  rw [x24_13]
  rfl
theorem v24_14 {z : P0} {st : List Value} {cu : Nat × Nat} {Q : Res → Mem → Prop} {K : Nat → Nat × Nat} {I : Nat → Nat → Int32} {R : Nat → Nat → Option Nat} {L : Nat → Nat → Int64} {sz : Nat} {ex : Bool} {x0 x1 : Option Value} {u : Nat} : X z 24 14 [x0, x1] (.ref u :: st) cu (K, I, R, L, sz, ex) Q = ((K u).1 = 103 ∧ X z 24 17 [x0, x1] (va_rf (R u 0) :: st) cu (K, I, R, L, sz, ex) Q) := by
  rw [x24_14]
  rfl
theorem v24_17 {z : P0} {st : List Value} {cu : Nat × Nat} {Q : Res → Mem → Prop} {σ : Mem} {x1 : Option Value} {u : Nat} : X z 24 17 [some (.ref u), x1] (st) cu σ Q = (X z 24 18 [some (.ref u), x1] (.ref u :: st) cu σ Q) := by
  rw [x24_17]
  rfl
theorem v24_18 {z : P0} {st : List Value} {cu : Nat × Nat} {Q : Res → Mem → Prop} {K : Nat → Nat × Nat} {I : Nat → Nat → Int32} {R : Nat → Nat → Option Nat} {L : Nat → Nat → Int64} {sz : Nat} {ex : Bool} {x0 x1 : Option Value} {u : Nat} : X z 24 18 [x0, x1] (.ref u :: st) cu (K, I, R, L, sz, ex) Q = ((K u).1 = 103 ∧ X z 24 21 [x0, x1] (.int (I u 1) :: st) cu (K, I, R, L, sz, ex) Q) := by
  rw [x24_18]
  rfl
theorem v24_21 {z : P0} {st : List Value} {cu : Nat × Nat} {Q : Res → Mem → Prop} {K : Nat → Nat × Nat} {I : Nat → Nat → Int32} {R : Nat → Nat → Option Nat} {L : Nat → Nat → Int64} {sz : Nat} {ex : Bool} {x0 x1 : Option Value} {u : Nat} {v : Int32} : X z 24 21 [x0, x1] (.int v :: .ref u :: st) cu (K, I, R, L, sz, ex) Q = (((K u).1 = 22 ∨ (K u).1 = 23 ∨ (K u).1 = 24 ∨ (K u).1 = 25) ∧ vp_in v (K u).2 ∧ X z 24 22 [x0, x1] (va_rf (R u v.toNatClampNeg) :: st) cu (K, I, R, L, sz, ex) Q) := by
  rw [x24_21]
  rfl
theorem v24_22 {z : P0} {st : List Value} {cu : Nat × Nat} {Q : Res → Mem → Prop} {σ : Mem} {x0 : Option Value} {u : Nat} : X z 24 22 [x0, some (.ref u)] (st) cu σ Q = (X z 24 23 [x0, some (.ref u)] (.ref u :: st) cu σ Q) := by
  rw [x24_22]
  rfl
theorem u24_23 {z : P0} {ls : Lcs} {st : List Value} {K : Nat → Nat × Nat} {I : Nat → Nat → Int32} {R : Nat → Nat → Option Nat} {L : Nat → Nat → Int64} {sz : Nat} {ex : Bool} {Q : Res → Mem → Prop} {x : Nat} {a0 : Nat} : X z 24 23 ls (.ref a0 :: .ref x :: st) (0, 0) (K, I, R, L, sz, ex) Q = ((K x).1 = 108 ∧ wsum st ≤ 8 ∧ X z 48 0 [some (.ref x), some (.ref a0), none] [] (0, 0) (K, I, R, L, sz, ex) (aftr (X z) mT 24 23 ls st (0, 0) Q)) := v24_23 (c := 0) (n := 0)
theorem v24_26 {z : P0} {st : List Value} {cu : Nat × Nat} {Q : Res → Mem → Prop} {σ : Mem} {x1 : Option Value} {u : Nat} : X z 24 26 [some (.ref u), x1] (st) cu σ Q = (X z 24 27 [some (.ref u), x1] (.ref u :: st) cu σ Q) := by
  rw [x24_26]
  rfl
theorem v24_27 {z : P0} {st : List Value} {cu : Nat × Nat} {Q : Res → Mem → Prop} {σ : Mem} {x0 x1 : Option Value} {u : Nat} : X z 24 27 [x0, x1] (.ref u :: st) cu σ Q = (X z 24 28 [x0, x1] (.ref u :: .ref u :: st) cu σ Q) := by
  rw [x24_27]
  exact propext ⟨fun h => h.2, fun h => ⟨rfl, h⟩⟩
theorem v24_27i {z : P0} {st : List Value} {cu : Nat × Nat} {Q : Res → Mem → Prop} {σ : Mem} {x0 x1 : Option Value} {u : Int32} : X z 24 27 [x0, x1] (.int u :: st) cu σ Q = (X z 24 28 [x0, x1] (.int u :: .int u :: st) cu σ Q) := by
  rw [x24_27]
  exact propext ⟨fun h => h.2, fun h => ⟨rfl, h⟩⟩
theorem v24_28 {z : P0} {st : List Value} {cu : Nat × Nat} {Q : Res → Mem → Prop} {K : Nat → Nat × Nat} {I : Nat → Nat → Int32} {R : Nat → Nat → Option Nat} {L : Nat → Nat → Int64} {sz : Nat} {ex : Bool} {x0 x1 : Option Value} {u : Nat} : X z 24 28 [x0, x1] (.ref u :: st) cu (K, I, R, L, sz, ex) Q = ((K u).1 = 103 ∧ X z 24 31 [x0, x1] (.int (I u 1) :: st) cu (K, I, R, L, sz, ex) Q) := by
  rw [x24_28]
  rfl
theorem v24_31 {z : P0} {st : List Value} {cu : Nat × Nat} {Q : Res → Mem → Prop} {σ : Mem} {x0 x1 : Option Value} : X z 24 31 [x0, x1] (st) cu σ Q = (X z 24 32 [x0, x1] (.int (nI 1) :: st) cu σ Q) := by
  rw [x24_31]
  rfl
theorem v24_32 {z : P0} {st : List Value} {cu : Nat × Nat} {Q : Res → Mem → Prop} {σ : Mem} {x0 x1 : Option Value} {u v : Int32} : X z 24 32 [x0, x1] (.int v :: .int u :: st) cu σ Q = (X z 24 33 [x0, x1] (.int (u + v) :: st) cu σ Q) := by
  rw [x24_32]
  rfl
theorem v24_33 {z : P0} {st : List Value} {cu : Nat × Nat} {Q : Res → Mem → Prop} {K : Nat → Nat × Nat} {I : Nat → Nat → Int32} {R : Nat → Nat → Option Nat} {L : Nat → Nat → Int64} {sz : Nat} {ex : Bool} {x0 x1 : Option Value} {u : Nat} {v : Int32} : X z 24 33 [x0, x1] (.int v :: .ref u :: st) cu (K, I, R, L, sz, ex) Q = ((K u).1 = 103 ∧ X z 24 36 [x0, x1] (st) cu (K, up2 I u 1 v, R, L, sz, ex) Q) := by
  rw [x24_33]
  exact i_putI
theorem v24_36 {z : P0} {cu : Nat × Nat} {Q : Res → Mem → Prop} {σ : Mem} {x0 x1 : Option Value} : X z 24 36 [x0, x1] ([]) cu σ Q = (Q (.inl none) σ) := by
  rw [x24_36]
  rfl
theorem v26_0 {z : P0} {st : List Value} {cu : Nat × Nat} {Q : Res → Mem → Prop} {σ : Mem} {x1 x2 : Option Value} {u : Nat} : X z 26 0 [some (.ref u), x1, x2] (st) cu σ Q = (X z 26 1 [some (.ref u), x1, x2] (.ref u :: st) cu σ Q) := by
  rw [x26_0]
  rfl
theorem v26_1 {z : P0} {st : List Value} {cu : Nat × Nat} {Q : Res → Mem → Prop} {K : Nat → Nat × Nat} {I : Nat → Nat → Int32} {R : Nat → Nat → Option Nat} {L : Nat → Nat → Int64} {sz : Nat} {ex : Bool} {x0 x1 x2 : Option Value} {u : Nat} : X z 26 1 [x0, x1, x2] (.ref u :: st) cu (K, I, R, L, sz, ex) Q = ((K u).1 = 103 ∧ X z 26 4 [x0, x1, x2] (va_rf (R u 0) :: st) cu (K, I, R, L, sz, ex) Q) := by
  rw [x26_1]
  rfl
theorem v26_4 {z : P0} {st : List Value} {cu : Nat × Nat} {Q : Res → Mem → Prop} {σ : Mem} {x0 x1 x2 : Option Value} : X z 26 4 [x0, x1, x2] (st) cu σ Q = (X z 26 5 [x0, x1, x2] (.int (nI 0) :: st) cu σ Q) := by
  rw [x26_4]
  rfl
theorem v26_5 {z : P0} {st : List Value} {cu : Nat × Nat} {Q : Res → Mem → Prop} {K : Nat → Nat × Nat} {I : Nat → Nat → Int32} {R : Nat → Nat → Option Nat} {L : Nat → Nat → Int64} {sz : Nat} {ex : Bool} {x0 x1 x2 : Option Value} {u : Nat} {v : Int32} : X z 26 5 [x0, x1, x2] (.int v :: .ref u :: st) cu (K, I, R, L, sz, ex) Q = (((K u).1 = 22 ∨ (K u).1 = 23 ∨ (K u).1 = 24 ∨ (K u).1 = 25) ∧ vp_in v (K u).2 ∧ X z 26 6 [x0, x1, x2] (va_rf (R u v.toNatClampNeg) :: st) cu (K, I, R, L, sz, ex) Q) := by
  rw [x26_5]
  rfl
theorem v26_6 {z : P0} {st : List Value} {cu : Nat × Nat} {Q : Res → Mem → Prop} {σ : Mem} {x0 x1 x2 : Option Value} {u : Nat} : X z 26 6 [x0, x1, x2] (.ref u :: st) cu σ Q = (cat2 x0 = false ∧ X z 26 7 [x0, some (.ref u), x2] (st) cu σ Q) := by
  rw [x26_6]
  obtain ⟨K, I, R, L, sz, ex⟩ := σ
  exact i_astore_n.trans sl_1
theorem v26_7 {z : P0} {st : List Value} {cu : Nat × Nat} {Q : Res → Mem → Prop} {σ : Mem} {x0 x1 x2 : Option Value} : X z 26 7 [x0, x1, x2] (st) cu σ Q = (X z 26 8 [x0, x1, x2] (.int (nI 1) :: st) cu σ Q) := by
  rw [x26_7]
  rfl
theorem v26_8 {z : P0} {st : List Value} {cu : Nat × Nat} {Q : Res → Mem → Prop} {σ : Mem} {x0 x1 x2 : Option Value} {u : Int32} : X z 26 8 [x0, x1, x2] (.int u :: st) cu σ Q = (cat2 x1 = false ∧ X z 26 9 [x0, x1, some (.int u)] (st) cu σ Q) := by
  rw [x26_8]
  obtain ⟨K, I, R, L, sz, ex⟩ := σ
  exact i_istore_n.trans sl_2
theorem v26_9 {z : P0} {st : List Value} {cu : Nat × Nat} {Q : Res → Mem → Prop} {σ : Mem} {x0 x1 : Option Value} {u : Int32} : X z 26 9 [x0, x1, some (.int u)] (st) cu σ Q = (X z 26 10 [x0, x1, some (.int u)] (.int u :: st) cu σ Q) := by
  rw [x26_9]
  rfl
theorem v26_10 {z : P0} {st : List Value} {cu : Nat × Nat} {Q : Res → Mem → Prop} {σ : Mem} {x0 x1 x2 : Option Value} : X z 26 10 [x0, x1, x2] (st) cu σ Q = (X z 26 12 [x0, x1, x2] (.int (nI 6) :: st) cu σ Q) := by
  rw [x26_10]
  rfl
theorem v26_12 {z : P0} {st : List Value} {cu : Nat × Nat} {Q : Res → Mem → Prop} {σ : Mem} {x0 x1 x2 : Option Value} {u v : Int32} : X z 26 12 [x0, x1, x2] (.int v :: .int u :: st) cu σ Q = (if u < v then X z 26 15 [x0, x1, x2] (st) cu σ Q else X z 26 35 [x0, x1, x2] (st) cu σ Q) := by
  rw [x26_12]
  obtain ⟨K, I, R, L, sz, ex⟩ := σ
  exact br_ge
theorem v26_15 {z : P0} {st : List Value} {cu : Nat × Nat} {Q : Res → Mem → Prop} {σ : Mem} {x1 x2 : Option Value} {u : Nat} : X z 26 15 [some (.ref u), x1, x2] (st) cu σ Q = (X z 26 16 [some (.ref u), x1, x2] (.ref u :: st) cu σ Q) := by
  rw [x26_15]
  rfl
theorem v26_16 {z : P0} {st : List Value} {cu : Nat × Nat} {Q : Res → Mem → Prop} {K : Nat → Nat × Nat} {I : Nat → Nat → Int32} {R : Nat → Nat → Option Nat} {L : Nat → Nat → Int64} {sz : Nat} {ex : Bool} {x0 x1 x2 : Option Value} {u : Nat} : X z 26 16 [x0, x1, x2] (.ref u :: st) cu (K, I, R, L, sz, ex) Q = ((K u).1 = 103 ∧ X z 26 19 [x0, x1, x2] (va_rf (R u 0) :: st) cu (K, I, R, L, sz, ex) Q) := by
  rw [x26_16]
  rfl
theorem v26_19 {z : P0} {st : List Value} {cu : Nat × Nat} {Q : Res → Mem → Prop} {σ : Mem} {x0 x1 : Option Value} {u : Int32} : X z 26 19 [x0, x1, some (.int u)] (st) cu σ Q = (X z 26 20 [x0, x1, some (.int u)] (.int u :: st) cu σ Q) := by
  rw [x26_19]
  rfl
theorem v26_20 {z : P0} {st : List Value} {cu : Nat × Nat} {Q : Res → Mem → Prop} {σ : Mem} {x0 x1 x2 : Option Value} : X z 26 20 [x0, x1, x2] (st) cu σ Q = (X z 26 21 [x0, x1, x2] (.int (nI 1) :: st) cu σ Q) := by
  rw [x26_20]
  rfl
theorem v26_21 {z : P0} {st : List Value} {cu : Nat × Nat} {Q : Res → Mem → Prop} {σ : Mem} {x0 x1 x2 : Option Value} {u v : Int32} : X z 26 21 [x0, x1, x2] (.int v :: .int u :: st) cu σ Q = (X z 26 22 [x0, x1, x2] (.int (u - v) :: st) cu σ Q) := by
  rw [x26_21]
  rfl
theorem v26_22 {z : P0} {st : List Value} {cu : Nat × Nat} {Q : Res → Mem → Prop} {σ : Mem} {x1 x2 : Option Value} {u : Nat} : X z 26 22 [some (.ref u), x1, x2] (st) cu σ Q = (X z 26 23 [some (.ref u), x1, x2] (.ref u :: st) cu σ Q) := by
  rw [x26_22]
  rfl
theorem v26_23 {z : P0} {st : List Value} {cu : Nat × Nat} {Q : Res → Mem → Prop} {K : Nat → Nat × Nat} {I : Nat → Nat → Int32} {R : Nat → Nat → Option Nat} {L : Nat → Nat → Int64} {sz : Nat} {ex : Bool} {x0 x1 x2 : Option Value} {u : Nat} : X z 26 23 [x0, x1, x2] (.ref u :: st) cu (K, I, R, L, sz, ex) Q = ((K u).1 = 103 ∧ X z 26 26 [x0, x1, x2] (va_rf (R u 0) :: st) cu (K, I, R, L, sz, ex) Q) := by
  rw [x26_23]
  rfl
theorem v26_26 {z : P0} {st : List Value} {cu : Nat × Nat} {Q : Res → Mem → Prop} {σ : Mem} {x0 x1 : Option Value} {u : Int32} : X z 26 26 [x0, x1, some (.int u)] (st) cu σ Q = (X z 26 27 [x0, x1, some (.int u)] (.int u :: st) cu σ Q) := by
  rw [x26_26]
  rfl
theorem v26_27 {z : P0} {st : List Value} {cu : Nat × Nat} {Q : Res → Mem → Prop} {K : Nat → Nat × Nat} {I : Nat → Nat → Int32} {R : Nat → Nat → Option Nat} {L : Nat → Nat → Int64} {sz : Nat} {ex : Bool} {x0 x1 x2 : Option Value} {u : Nat} {v : Int32} : X z 26 27 [x0, x1, x2] (.int v :: .ref u :: st) cu (K, I, R, L, sz, ex) Q = (((K u).1 = 22 ∨ (K u).1 = 23 ∨ (K u).1 = 24 ∨ (K u).1 = 25) ∧ vp_in v (K u).2 ∧ X z 26 28 [x0, x1, x2] (va_rf (R u v.toNatClampNeg) :: st) cu (K, I, R, L, sz, ex) Q) := by
  rw [x26_27]
  rfl
theorem v26_28 {z : P0} {st : List Value} {cu : Nat × Nat} {Q : Res → Mem → Prop} {K : Nat → Nat × Nat} {I : Nat → Nat → Int32} {R : Nat → Nat → Option Nat} {L : Nat → Nat → Int64} {sz : Nat} {ex : Bool} {x0 x1 x2 : Option Value} {u v : Nat} {j : Int32} : X z 26 28 [x0, x1, x2] (.ref v :: .int j :: .ref u :: st) cu (K, I, R, L, sz, ex) Q = (((K u).1 = 22 ∨ (K u).1 = 23 ∨ (K u).1 = 24 ∨ (K u).1 = 25) ∧ (K v).1 = elC (K u).1 ∧ vp_in j (K u).2 ∧ X z 26 29 [x0, x1, x2] (st) cu (K, I, up2 R u j.toNatClampNeg (some v), L, sz, ex) Q) := by
  rw [x26_28]
  rfl
theorem v26_29 {z : P0} {st : List Value} {cu : Nat × Nat} {Q : Res → Mem → Prop} {σ : Mem} {x0 x1 : Option Value} {u : Int32} : X z 26 29 [x0, x1, some (.int u)] (st) cu σ Q = (cat2 x1 = false ∧ X z 26 32 [x0, x1, some (.int (u + nI 1))] (st) cu σ Q) := by
  rw [x26_29]
  obtain ⟨K, I, R, L, sz, ex⟩ := σ
  exact i_iinc.trans (gl_2.trans (ldI_i.trans sl_2))
theorem v26_32 {z : P0} {st : List Value} {cu : Nat × Nat} {Q : Res → Mem → Prop} {σ : Mem} {x0 x1 x2 : Option Value} : X z 26 32 [x0, x1, x2] (st) cu σ Q = (X z 26 9 [x0, x1, x2] (st) cu σ Q) := by
  rw [x26_32]
  rfl
theorem v26_35 {z : P0} {st : List Value} {cu : Nat × Nat} {Q : Res → Mem → Prop} {σ : Mem} {x1 x2 : Option Value} {u : Nat} : X z 26 35 [some (.ref u), x1, x2] (st) cu σ Q = (X z 26 36 [some (.ref u), x1, x2] (.ref u :: st) cu σ Q) := by
  rw [x26_35]
  rfl
theorem v26_36 {z : P0} {st : List Value} {cu : Nat × Nat} {Q : Res → Mem → Prop} {K : Nat → Nat × Nat} {I : Nat → Nat → Int32} {R : Nat → Nat → Option Nat} {L : Nat → Nat → Int64} {sz : Nat} {ex : Bool} {x0 x1 x2 : Option Value} {u : Nat} : X z 26 36 [x0, x1, x2] (.ref u :: st) cu (K, I, R, L, sz, ex) Q = ((K u).1 = 103 ∧ X z 26 39 [x0, x1, x2] (va_rf (R u 0) :: st) cu (K, I, R, L, sz, ex) Q) := by
  rw [x26_36]
  rfl
theorem v26_39 {z : P0} {st : List Value} {cu : Nat × Nat} {Q : Res → Mem → Prop} {σ : Mem} {x0 x1 x2 : Option Value} : X z 26 39 [x0, x1, x2] (st) cu σ Q = (X z 26 40 [x0, x1, x2] (.int (nI 5) :: st) cu σ Q) := by
  rw [x26_39]
  rfl
theorem v26_40 {z : P0} {st : List Value} {cu : Nat × Nat} {Q : Res → Mem → Prop} {σ : Mem} {x0 x2 : Option Value} {u : Nat} : X z 26 40 [x0, some (.ref u), x2] (st) cu σ Q = (X z 26 41 [x0, some (.ref u), x2] (.ref u :: st) cu σ Q) := by
  rw [x26_40]
  rfl
theorem v26_41 {z : P0} {st : List Value} {cu : Nat × Nat} {Q : Res → Mem → Prop} {K : Nat → Nat × Nat} {I : Nat → Nat → Int32} {R : Nat → Nat → Option Nat} {L : Nat → Nat → Int64} {sz : Nat} {ex : Bool} {x0 x1 x2 : Option Value} {u v : Nat} {j : Int32} : X z 26 41 [x0, x1, x2] (.ref v :: .int j :: .ref u :: st) cu (K, I, R, L, sz, ex) Q = (((K u).1 = 22 ∨ (K u).1 = 23 ∨ (K u).1 = 24 ∨ (K u).1 = 25) ∧ (K v).1 = elC (K u).1 ∧ vp_in j (K u).2 ∧ X z 26 42 [x0, x1, x2] (st) cu (K, I, up2 R u j.toNatClampNeg (some v), L, sz, ex) Q) := by
  rw [x26_41]
  rfl
theorem v26_42 {z : P0} {st : List Value} {cu : Nat × Nat} {Q : Res → Mem → Prop} {σ : Mem} {x1 x2 : Option Value} {u : Nat} : X z 26 42 [some (.ref u), x1, x2] (st) cu σ Q = (X z 26 43 [some (.ref u), x1, x2] (.ref u :: st) cu σ Q) := by
  rw [x26_42]
  rfl
theorem v26_43 {z : P0} {st : List Value} {cu : Nat × Nat} {Q : Res → Mem → Prop} {σ : Mem} {x0 x1 x2 : Option Value} : X z 26 43 [x0, x1, x2] (st) cu σ Q = (X z 26 44 [x0, x1, x2] (.int (nI 5) :: st) cu σ Q) := by
  rw [x26_43]
  rfl
theorem v26_44 {z : P0} {st : List Value} {cu : Nat × Nat} {Q : Res → Mem → Prop} {K : Nat → Nat × Nat} {I : Nat → Nat → Int32} {R : Nat → Nat → Option Nat} {L : Nat → Nat → Int64} {sz : Nat} {ex : Bool} {x0 x1 x2 : Option Value} {u : Nat} {v : Int32} : X z 26 44 [x0, x1, x2] (.int v :: .ref u :: st) cu (K, I, R, L, sz, ex) Q = ((K u).1 = 103 ∧ X z 26 47 [x0, x1, x2] (st) cu (K, up2 I u 1 v, R, L, sz, ex) Q) := by
  rw [x26_44]
  exact i_putI
theorem v26_47 {z : P0} {cu : Nat × Nat} {Q : Res → Mem → Prop} {σ : Mem} {x0 x1 x2 : Option Value} : X z 26 47 [x0, x1, x2] ([]) cu σ Q = (Q (.inl none) σ) := by
  rw [x26_47]
  rfl
theorem v27_0 {z : P0} {st : List Value} {cu : Nat × Nat} {Q : Res → Mem → Prop} {σ : Mem} {u : Nat} : X z 27 0 [some (.ref u)] (st) cu σ Q = (X z 27 1 [some (.ref u)] (.ref u :: st) cu σ Q) := by
  rw [x27_0]
  rfl
theorem v27_1 {z : P0} {st : List Value} {cu : Nat × Nat} {Q : Res → Mem → Prop} {σ : Mem} {x0 : Option Value} {u : Nat} : X z 27 1 [x0] (.ref u :: st) cu σ Q = (wsum st ≤ 8 ∧ X z 27 4 [x0] (st) cu σ Q) := by
  rw [x27_1]
  exact propext ⟨fun h => h.2, fun h => ⟨rfl, h⟩⟩
theorem v27_4 {z : P0} {st : List Value} {cu : Nat × Nat} {Q : Res → Mem → Prop} {σ : Mem} {u : Nat} : X z 27 4 [some (.ref u)] (st) cu σ Q = (X z 27 5 [some (.ref u)] (.ref u :: st) cu σ Q) := by
  rw [x27_4]
  rfl
theorem v27_5 {z : P0} {st : List Value} {cu : Nat × Nat} {Q : Res → Mem → Prop} {σ : Mem} {x0 : Option Value} : X z 27 5 [x0] (st) cu σ Q = (X z 27 7 [x0] (.int (nI 60) :: st) cu σ Q) := by
  rw [x27_5]
  rfl
theorem v27_7 {z : P0} {st : List Value} {Q : Res → Mem → Prop} {K : Nat → Nat × Nat} {I : Nat → Nat → Int32} {R : Nat → Nat → Option Nat} {L : Nat → Nat → Int64} {sz : Nat} {ex : Bool} {x0 : Option Value} {c n : Nat} {v : Int32} : X z 27 7 [x0] (.int v :: st) (c, n) (K, I, R, L, sz, ex) Q = (ex = true ∧ ¬ v < 0 ∧ v.toNatClampNeg ≤ 3000 ∧ (c + 1 ≤ 1 ∧ n + v.toNatClampNeg ≤ 60) ∧ X z 27 9 [x0] (.ref sz :: st) (c + 1, n + v.toNatClampNeg) (upK K sz (20, v.toNatClampNeg), I, R, L, sz + 1, ex) Q) := by
  rw [x27_7]
  rfl
theorem v27_9 {z : P0} {st : List Value} {cu : Nat × Nat} {Q : Res → Mem → Prop} {K : Nat → Nat × Nat} {I : Nat → Nat → Int32} {R : Nat → Nat → Option Nat} {L : Nat → Nat → Int64} {sz : Nat} {ex : Bool} {x0 : Option Value} {u v : Nat} : X z 27 9 [x0] (.ref v :: .ref u :: st) cu (K, I, R, L, sz, ex) Q = ((K u).1 = 104 ∧ X z 27 12 [x0] (st) cu (K, I, up2 R u 0 (some v), L, sz, ex) Q) := by
  rw [x27_9]
  exact i_putA
theorem v27_12 {z : P0} {cu : Nat × Nat} {Q : Res → Mem → Prop} {σ : Mem} {x0 : Option Value} : X z 27 12 [x0] ([]) cu σ Q = (Q (.inl none) σ) := by
  rw [x27_12]
  rfl
theorem v28_0 {z : P0} {st : List Value} {cu : Nat × Nat} {Q : Res → Mem → Prop} {σ : Mem} {x1 x2 : Option Value} {u : Nat} : X z 28 0 [some (.ref u), x1, x2] (st) cu σ Q = (X z 28 1 [some (.ref u), x1, x2] (.ref u :: st) cu σ Q) := by
  rw [x28_0]
  rfl
theorem v28_1 {z : P0} {st : List Value} {cu : Nat × Nat} {Q : Res → Mem → Prop} {σ : Mem} {x0 x1 : Option Value} {u : Int32} : X z 28 1 [x0, x1, some (.int u)] (st) cu σ Q = (X z 28 2 [x0, x1, some (.int u)] (.int u :: st) cu σ Q) := by
  rw [x28_1]
  rfl
theorem v28_2 {z : P0} {st : List Value} {cu : Nat × Nat} {Q : Res → Mem → Prop} {σ : Mem} {x0 x1 x2 : Option Value} : X z 28 2 [x0, x1, x2] (st) cu σ Q = (X z 28 4 [x0, x1, x2] (.int (nI 60) :: st) cu σ Q) := by
  rw [x28_2]
  rfl
theorem u28_4 {z : P0} {ls : Lcs} {st : List Value} {K : Nat → Nat × Nat} {I : Nat → Nat → Int32} {R : Nat → Nat → Option Nat} {L : Nat → Nat → Int64} {sz : Nat} {ex : Bool} {Q : Res → Mem → Prop} {a0 : Int32} {a1 : Int32} : X z 28 4 ls (.int a1 :: .int a0 :: st) (0, 0) (K, I, R, L, sz, ex) Q = (wsum st ≤ 8 ∧ X z 184 0 [some (.int a0), some (.int a1)] [] (0, 0) (K, I, R, L, sz, ex) (aftr (X z) mT 28 4 ls st (0, 0) Q)) := v28_4 (c := 0) (n := 0)
theorem v28_7 {z : P0} {st : List Value} {cu : Nat × Nat} {Q : Res → Mem → Prop} {K : Nat → Nat × Nat} {I : Nat → Nat → Int32} {R : Nat → Nat → Option Nat} {L : Nat → Nat → Int64} {sz : Nat} {ex : Bool} {x0 x1 x2 : Option Value} {u : Nat} {v : Int32} : X z 28 7 [x0, x1, x2] (.int v :: .ref u :: st) cu (K, I, R, L, sz, ex) Q = ((K u).1 = 104 ∧ X z 28 10 [x0, x1, x2] (st) cu (K, up2 I u 1 v, R, L, sz, ex) Q) := by
  rw [x28_7]
  exact i_putI
theorem v28_10 {z : P0} {st : List Value} {cu : Nat × Nat} {Q : Res → Mem → Prop} {σ : Mem} {x0 x2 : Option Value} {u : Nat} : X z 28 10 [x0, some (.ref u), x2] (st) cu σ Q = (X z 28 11 [x0, some (.ref u), x2] (.ref u :: st) cu σ Q) := by
  rw [x28_10]
  rfl
theorem v28_11 {z : P0} {st : List Value} {cu : Nat × Nat} {Q : Res → Mem → Prop} {σ : Mem} {x0 x1 x2 : Option Value} : X z 28 11 [x0, x1, x2] (st) cu σ Q = (X z 28 12 [x0, x1, x2] (.int (nI 0) :: st) cu σ Q) := by
  rw [x28_11]
  rfl
theorem v28_12 {z : P0} {st : List Value} {cu : Nat × Nat} {Q : Res → Mem → Prop} {σ : Mem} {x1 x2 : Option Value} {u : Nat} : X z 28 12 [some (.ref u), x1, x2] (st) cu σ Q = (X z 28 13 [some (.ref u), x1, x2] (.ref u :: st) cu σ Q) := by
  rw [x28_12]
  rfl
theorem v28_13 {z : P0} {st : List Value} {cu : Nat × Nat} {Q : Res → Mem → Prop} {K : Nat → Nat × Nat} {I : Nat → Nat → Int32} {R : Nat → Nat → Option Nat} {L : Nat → Nat → Int64} {sz : Nat} {ex : Bool} {x0 x1 x2 : Option Value} {u : Nat} : X z 28 13 [x0, x1, x2] (.ref u :: st) cu (K, I, R, L, sz, ex) Q = ((K u).1 = 104 ∧ X z 28 16 [x0, x1, x2] (va_rf (R u 0) :: st) cu (K, I, R, L, sz, ex) Q) := by
  rw [x28_13]
  rfl
theorem v28_16 {z : P0} {st : List Value} {cu : Nat × Nat} {Q : Res → Mem → Prop} {σ : Mem} {x0 x1 x2 : Option Value} : X z 28 16 [x0, x1, x2] (st) cu σ Q = (X z 28 17 [x0, x1, x2] (.int (nI 0) :: st) cu σ Q) := by
  rw [x28_16]
  rfl
theorem v28_17 {z : P0} {st : List Value} {cu : Nat × Nat} {Q : Res → Mem → Prop} {σ : Mem} {x1 x2 : Option Value} {u : Nat} : X z 28 17 [some (.ref u), x1, x2] (st) cu σ Q = (X z 28 18 [some (.ref u), x1, x2] (.ref u :: st) cu σ Q) := by
  rw [x28_17]
  rfl
theorem v28_18 {z : P0} {st : List Value} {cu : Nat × Nat} {Q : Res → Mem → Prop} {K : Nat → Nat × Nat} {I : Nat → Nat → Int32} {R : Nat → Nat → Option Nat} {L : Nat → Nat → Int64} {sz : Nat} {ex : Bool} {x0 x1 x2 : Option Value} {u : Nat} : X z 28 18 [x0, x1, x2] (.ref u :: st) cu (K, I, R, L, sz, ex) Q = ((K u).1 = 104 ∧ X z 28 21 [x0, x1, x2] (.int (I u 1) :: st) cu (K, I, R, L, sz, ex) Q) := by
  rw [x28_18]
  rfl
theorem v28_21 {z : P0} {st : List Value} {cu : Nat × Nat} {Q : Res → Mem → Prop} {K : Nat → Nat × Nat} {I : Nat → Nat → Int32} {R : Nat → Nat → Option Nat} {L : Nat → Nat → Int64} {sz : Nat} {ex : Bool} {x0 x1 x2 : Option Value} {u d : Nat} {v sp dp : Int32} : X z 28 21 [x0, x1, x2] (.int v :: .int dp :: .ref d :: .int sp :: .ref u :: st) cu (K, I, R, L, sz, ex) Q = (((K u).1 = 20 ∨ (K u).1 = 50) ∧ (K d).1 = 20 ∧ ¬ sp < 0 ∧ ¬ dp < 0 ∧ ¬ v < 0 ∧ sp.toNatClampNeg + v.toNatClampNeg ≤ (K u).2 ∧ dp.toNatClampNeg + v.toNatClampNeg ≤ (K d).2 ∧ wsum st ≤ 8 ∧ X z 28 24 [x0, x1, x2] (st) cu (K, cpI I u sp.toNatClampNeg d dp.toNatClampNeg v.toNatClampNeg, R, L, sz, ex) Q) := by
  rw [x28_21]
  rfl
theorem v28_24 {z : P0} {cu : Nat × Nat} {Q : Res → Mem → Prop} {σ : Mem} {x0 x1 x2 : Option Value} : X z 28 24 [x0, x1, x2] ([]) cu σ Q = (Q (.inl none) σ) := by
  rw [x28_24]
  rfl
theorem v29_0 {z : P0} {st : List Value} {cu : Nat × Nat} {Q : Res → Mem → Prop} {σ : Mem} {x0 x1 x2 : Option Value} : X z 29 0 [x0, x1, x2] (st) cu σ Q = (X z 29 1 [x0, x1, x2] (.int (nI 0) :: st) cu σ Q) := by
  rw [x29_0]
  rfl
theorem v29_1 {z : P0} {st : List Value} {cu : Nat × Nat} {Q : Res → Mem → Prop} {σ : Mem} {x0 x1 x2 : Option Value} {u : Int32} : X z 29 1 [x0, x1, x2] (.int u :: st) cu σ Q = (cat2 x0 = false ∧ X z 29 2 [x0, some (.int u), x2] (st) cu σ Q) := by
  rw [x29_1]
  obtain ⟨K, I, R, L, sz, ex⟩ := σ
  exact i_istore_n.trans sl_1
theorem v29_2 {z : P0} {st : List Value} {cu : Nat × Nat} {Q : Res → Mem → Prop} {σ : Mem} {x0 x1 x2 : Option Value} : X z 29 2 [x0, x1, x2] (st) cu σ Q = (X z 29 3 [x0, x1, x2] (.int (nI 0) :: st) cu σ Q) := by
  rw [x29_2]
  rfl
theorem v29_3 {z : P0} {st : List Value} {cu : Nat × Nat} {Q : Res → Mem → Prop} {σ : Mem} {x0 x1 x2 : Option Value} {u : Int32} : X z 29 3 [x0, x1, x2] (.int u :: st) cu σ Q = (cat2 x1 = false ∧ X z 29 4 [x0, x1, some (.int u)] (st) cu σ Q) := by
  rw [x29_3]
  obtain ⟨K, I, R, L, sz, ex⟩ := σ
  exact i_istore_n.trans sl_2
theorem v29_4 {z : P0} {st : List Value} {cu : Nat × Nat} {Q : Res → Mem → Prop} {σ : Mem} {x0 x1 : Option Value} {u : Int32} : X z 29 4 [x0, x1, some (.int u)] (st) cu σ Q = (X z 29 5 [x0, x1, some (.int u)] (.int u :: st) cu σ Q) := by
  rw [x29_4]
  rfl
theorem v29_5 {z : P0} {st : List Value} {cu : Nat × Nat} {Q : Res → Mem → Prop} {σ : Mem} {x1 x2 : Option Value} {u : Nat} : X z 29 5 [some (.ref u), x1, x2] (st) cu σ Q = (X z 29 6 [some (.ref u), x1, x2] (.ref u :: st) cu σ Q) := by
  rw [x29_5]
  rfl
theorem v29_6 {z : P0} {st : List Value} {cu : Nat × Nat} {Q : Res → Mem → Prop} {K : Nat → Nat × Nat} {I : Nat → Nat → Int32} {R : Nat → Nat → Option Nat} {L : Nat → Nat → Int64} {sz : Nat} {ex : Bool} {x0 x1 x2 : Option Value} {u : Nat} : X z 29 6 [x0, x1, x2] (.ref u :: st) cu (K, I, R, L, sz, ex) Q = ((K u).1 = 104 ∧ X z 29 9 [x0, x1, x2] (.int (I u 1) :: st) cu (K, I, R, L, sz, ex) Q) := by
  rw [x29_6]
  rfl
theorem v29_9 {z : P0} {st : List Value} {cu : Nat × Nat} {Q : Res → Mem → Prop} {σ : Mem} {x0 x1 x2 : Option Value} {u v : Int32} : X z 29 9 [x0, x1, x2] (.int v :: .int u :: st) cu σ Q = (if u < v then X z 29 12 [x0, x1, x2] (st) cu σ Q else X z 29 32 [x0, x1, x2] (st) cu σ Q) := by
  rw [x29_9]
  obtain ⟨K, I, R, L, sz, ex⟩ := σ
  exact br_ge
theorem v29_12 {z : P0} {st : List Value} {cu : Nat × Nat} {Q : Res → Mem → Prop} {σ : Mem} {x1 x2 : Option Value} {u : Nat} : X z 29 12 [some (.ref u), x1, x2] (st) cu σ Q = (X z 29 13 [some (.ref u), x1, x2] (.ref u :: st) cu σ Q) := by
  rw [x29_12]
  rfl
theorem v29_13 {z : P0} {st : List Value} {cu : Nat × Nat} {Q : Res → Mem → Prop} {K : Nat → Nat × Nat} {I : Nat → Nat → Int32} {R : Nat → Nat → Option Nat} {L : Nat → Nat → Int64} {sz : Nat} {ex : Bool} {x0 x1 x2 : Option Value} {u : Nat} : X z 29 13 [x0, x1, x2] (.ref u :: st) cu (K, I, R, L, sz, ex) Q = ((K u).1 = 104 ∧ X z 29 16 [x0, x1, x2] (va_rf (R u 0) :: st) cu (K, I, R, L, sz, ex) Q) := by
  rw [x29_13]
  rfl
theorem v29_16 {z : P0} {st : List Value} {cu : Nat × Nat} {Q : Res → Mem → Prop} {σ : Mem} {x0 x1 : Option Value} {u : Int32} : X z 29 16 [x0, x1, some (.int u)] (st) cu σ Q = (X z 29 17 [x0, x1, some (.int u)] (.int u :: st) cu σ Q) := by
  rw [x29_16]
  rfl
theorem v29_17 {z : P0} {st : List Value} {cu : Nat × Nat} {Q : Res → Mem → Prop} {K : Nat → Nat × Nat} {I : Nat → Nat → Int32} {R : Nat → Nat → Option Nat} {L : Nat → Nat → Int64} {sz : Nat} {ex : Bool} {x0 x1 x2 : Option Value} {u : Nat} {v : Int32} : X z 29 17 [x0, x1, x2] (.int v :: .ref u :: st) cu (K, I, R, L, sz, ex) Q = (((K u).1 = 20 ∨ (K u).1 = 50) ∧ vp_in v (K u).2 ∧ X z 29 18 [x0, x1, x2] (.int (I u v.toNatClampNeg) :: st) cu (K, I, R, L, sz, ex) Q) := by
  rw [x29_17]
  rfl
theorem v29_18 {z : P0} {st : List Value} {cu : Nat × Nat} {Q : Res → Mem → Prop} {σ : Mem} {x0 x1 x2 : Option Value} : X z 29 18 [x0, x1, x2] (st) cu σ Q = (X z 29 20 [x0, x1, x2] (.int (nI 60) :: st) cu σ Q) := by
  rw [x29_18]
  rfl
theorem v29_20 {z : P0} {st : List Value} {cu : Nat × Nat} {Q : Res → Mem → Prop} {σ : Mem} {x0 x1 x2 : Option Value} {u v : Int32} : X z 29 20 [x0, x1, x2] (.int v :: .int u :: st) cu σ Q = (if u = v then X z 29 23 [x0, x1, x2] (st) cu σ Q else X z 29 26 [x0, x1, x2] (st) cu σ Q) := by
  rw [x29_20]
  obtain ⟨K, I, R, L, sz, ex⟩ := σ
  exact br_ne
theorem v29_23 {z : P0} {st : List Value} {cu : Nat × Nat} {Q : Res → Mem → Prop} {σ : Mem} {x0 x2 : Option Value} {u : Int32} : X z 29 23 [x0, some (.int u), x2] (st) cu σ Q = (cat2 x0 = false ∧ X z 29 26 [x0, some (.int (u + nI 1)), x2] (st) cu σ Q) := by
  rw [x29_23]
  obtain ⟨K, I, R, L, sz, ex⟩ := σ
  exact i_iinc.trans (gl_1.trans (ldI_i.trans sl_1))
theorem v29_26 {z : P0} {st : List Value} {cu : Nat × Nat} {Q : Res → Mem → Prop} {σ : Mem} {x0 x1 : Option Value} {u : Int32} : X z 29 26 [x0, x1, some (.int u)] (st) cu σ Q = (cat2 x1 = false ∧ X z 29 29 [x0, x1, some (.int (u + nI 1))] (st) cu σ Q) := by
  rw [x29_26]
  obtain ⟨K, I, R, L, sz, ex⟩ := σ
  exact i_iinc.trans (gl_2.trans (ldI_i.trans sl_2))
theorem v29_29 {z : P0} {st : List Value} {cu : Nat × Nat} {Q : Res → Mem → Prop} {σ : Mem} {x0 x1 x2 : Option Value} : X z 29 29 [x0, x1, x2] (st) cu σ Q = (X z 29 4 [x0, x1, x2] (st) cu σ Q) := by
  rw [x29_29]
  rfl
theorem v29_32 {z : P0} {st : List Value} {cu : Nat × Nat} {Q : Res → Mem → Prop} {σ : Mem} {x0 x2 : Option Value} {u : Int32} : X z 29 32 [x0, some (.int u), x2] (st) cu σ Q = (X z 29 33 [x0, some (.int u), x2] (.int u :: st) cu σ Q) := by
  rw [x29_32]
  rfl
theorem v29_33 {z : P0} {cu : Nat × Nat} {Q : Res → Mem → Prop} {σ : Mem} {x0 x1 x2 : Option Value} {v : Int32} : X z 29 33 [x0, x1, x2] ([.int v]) cu σ Q = (Q (.inl (some (.int v))) σ) := by
  rw [x29_33]
  exact propext ⟨fun h => h.2, fun h => ⟨trivial, h⟩⟩
theorem v30_0 {z : P0} {st : List Value} {cu : Nat × Nat} {Q : Res → Mem → Prop} {σ : Mem} {x0 x1 x2 : Option Value} : X z 30 0 [x0, x1, x2] (st) cu σ Q = (X z 30 1 [x0, x1, x2] (.int (nI 0) :: st) cu σ Q) := by
  rw [x30_0]
  rfl
theorem v30_1 {z : P0} {st : List Value} {cu : Nat × Nat} {Q : Res → Mem → Prop} {σ : Mem} {x0 x1 x2 : Option Value} {u : Int32} : X z 30 1 [x0, x1, x2] (.int u :: st) cu σ Q = (cat2 x0 = false ∧ X z 30 2 [x0, some (.int u), x2] (st) cu σ Q) := by
  rw [x30_1]
  obtain ⟨K, I, R, L, sz, ex⟩ := σ
  exact i_istore_n.trans sl_1
theorem v30_2 {z : P0} {st : List Value} {cu : Nat × Nat} {Q : Res → Mem → Prop} {σ : Mem} {x0 x1 x2 : Option Value} : X z 30 2 [x0, x1, x2] (st) cu σ Q = (X z 30 3 [x0, x1, x2] (.int (nI 0) :: st) cu σ Q) := by
  rw [x30_2]
  rfl
theorem v30_3 {z : P0} {st : List Value} {cu : Nat × Nat} {Q : Res → Mem → Prop} {σ : Mem} {x0 x1 x2 : Option Value} {u : Int32} : X z 30 3 [x0, x1, x2] (.int u :: st) cu σ Q = (cat2 x1 = false ∧ X z 30 4 [x0, x1, some (.int u)] (st) cu σ Q) := by
  rw [x30_3]
  obtain ⟨K, I, R, L, sz, ex⟩ := σ
  exact i_istore_n.trans sl_2
theorem v30_4 {z : P0} {st : List Value} {cu : Nat × Nat} {Q : Res → Mem → Prop} {σ : Mem} {x0 x1 : Option Value} {u : Int32} : X z 30 4 [x0, x1, some (.int u)] (st) cu σ Q = (X z 30 5 [x0, x1, some (.int u)] (.int u :: st) cu σ Q) := by
  rw [x30_4]
  rfl
theorem v30_5 {z : P0} {st : List Value} {cu : Nat × Nat} {Q : Res → Mem → Prop} {σ : Mem} {x1 x2 : Option Value} {u : Nat} : X z 30 5 [some (.ref u), x1, x2] (st) cu σ Q = (X z 30 6 [some (.ref u), x1, x2] (.ref u :: st) cu σ Q) := by
  rw [x30_5]
  rfl
theorem v30_6 {z : P0} {st : List Value} {cu : Nat × Nat} {Q : Res → Mem → Prop} {K : Nat → Nat × Nat} {I : Nat → Nat → Int32} {R : Nat → Nat → Option Nat} {L : Nat → Nat → Int64} {sz : Nat} {ex : Bool} {x0 x1 x2 : Option Value} {u : Nat} : X z 30 6 [x0, x1, x2] (.ref u :: st) cu (K, I, R, L, sz, ex) Q = ((K u).1 = 104 ∧ X z 30 9 [x0, x1, x2] (.int (I u 1) :: st) cu (K, I, R, L, sz, ex) Q) := by
  rw [x30_6]
  rfl
theorem v30_9 {z : P0} {st : List Value} {cu : Nat × Nat} {Q : Res → Mem → Prop} {σ : Mem} {x0 x1 x2 : Option Value} {u v : Int32} : X z 30 9 [x0, x1, x2] (.int v :: .int u :: st) cu σ Q = (if u < v then X z 30 12 [x0, x1, x2] (st) cu σ Q else X z 30 32 [x0, x1, x2] (st) cu σ Q) := by
  rw [x30_9]
  obtain ⟨K, I, R, L, sz, ex⟩ := σ
  exact br_ge
theorem v30_12 {z : P0} {st : List Value} {cu : Nat × Nat} {Q : Res → Mem → Prop} {σ : Mem} {x1 x2 : Option Value} {u : Nat} : X z 30 12 [some (.ref u), x1, x2] (st) cu σ Q = (X z 30 13 [some (.ref u), x1, x2] (.ref u :: st) cu σ Q) := by
  rw [x30_12]
  rfl
theorem v30_13 {z : P0} {st : List Value} {cu : Nat × Nat} {Q : Res → Mem → Prop} {K : Nat → Nat × Nat} {I : Nat → Nat → Int32} {R : Nat → Nat → Option Nat} {L : Nat → Nat → Int64} {sz : Nat} {ex : Bool} {x0 x1 x2 : Option Value} {u : Nat} : X z 30 13 [x0, x1, x2] (.ref u :: st) cu (K, I, R, L, sz, ex) Q = ((K u).1 = 104 ∧ X z 30 16 [x0, x1, x2] (va_rf (R u 0) :: st) cu (K, I, R, L, sz, ex) Q) := by
  rw [x30_13]
  rfl
theorem v30_16 {z : P0} {st : List Value} {cu : Nat × Nat} {Q : Res → Mem → Prop} {σ : Mem} {x0 x1 : Option Value} {u : Int32} : X z 30 16 [x0, x1, some (.int u)] (st) cu σ Q = (X z 30 17 [x0, x1, some (.int u)] (.int u :: st) cu σ Q) := by
  rw [x30_16]
  rfl
theorem v30_17 {z : P0} {st : List Value} {cu : Nat × Nat} {Q : Res → Mem → Prop} {K : Nat → Nat × Nat} {I : Nat → Nat → Int32} {R : Nat → Nat → Option Nat} {L : Nat → Nat → Int64} {sz : Nat} {ex : Bool} {x0 x1 x2 : Option Value} {u : Nat} {v : Int32} : X z 30 17 [x0, x1, x2] (.int v :: .ref u :: st) cu (K, I, R, L, sz, ex) Q = (((K u).1 = 20 ∨ (K u).1 = 50) ∧ vp_in v (K u).2 ∧ X z 30 18 [x0, x1, x2] (.int (I u v.toNatClampNeg) :: st) cu (K, I, R, L, sz, ex) Q) := by
  rw [x30_17]
  rfl
theorem v30_18 {z : P0} {st : List Value} {cu : Nat × Nat} {Q : Res → Mem → Prop} {σ : Mem} {x0 x1 x2 : Option Value} : X z 30 18 [x0, x1, x2] (st) cu σ Q = (X z 30 20 [x0, x1, x2] (.int (nI 125) :: st) cu σ Q) := by
  rw [x30_18]
  rfl
theorem v30_20 {z : P0} {st : List Value} {cu : Nat × Nat} {Q : Res → Mem → Prop} {σ : Mem} {x0 x1 x2 : Option Value} {u v : Int32} : X z 30 20 [x0, x1, x2] (.int v :: .int u :: st) cu σ Q = (if u = v then X z 30 26 [x0, x1, x2] (st) cu σ Q else X z 30 23 [x0, x1, x2] (st) cu σ Q) := by
  rw [x30_20]
  obtain ⟨K, I, R, L, sz, ex⟩ := σ
  exact br_ite
theorem v30_23 {z : P0} {st : List Value} {cu : Nat × Nat} {Q : Res → Mem → Prop} {σ : Mem} {x0 x2 : Option Value} {u : Int32} : X z 30 23 [x0, some (.int u), x2] (st) cu σ Q = (cat2 x0 = false ∧ X z 30 26 [x0, some (.int (u + nI 1)), x2] (st) cu σ Q) := by
  rw [x30_23]
  obtain ⟨K, I, R, L, sz, ex⟩ := σ
  exact i_iinc.trans (gl_1.trans (ldI_i.trans sl_1))
theorem v30_26 {z : P0} {st : List Value} {cu : Nat × Nat} {Q : Res → Mem → Prop} {σ : Mem} {x0 x1 : Option Value} {u : Int32} : X z 30 26 [x0, x1, some (.int u)] (st) cu σ Q = (cat2 x1 = false ∧ X z 30 29 [x0, x1, some (.int (u + nI 1))] (st) cu σ Q) := by
  rw [x30_26]
  obtain ⟨K, I, R, L, sz, ex⟩ := σ
  exact i_iinc.trans (gl_2.trans (ldI_i.trans sl_2))
theorem v30_29 {z : P0} {st : List Value} {cu : Nat × Nat} {Q : Res → Mem → Prop} {σ : Mem} {x0 x1 x2 : Option Value} : X z 30 29 [x0, x1, x2] (st) cu σ Q = (X z 30 4 [x0, x1, x2] (st) cu σ Q) := by
  rw [x30_29]
  rfl
theorem v30_32 {z : P0} {st : List Value} {cu : Nat × Nat} {Q : Res → Mem → Prop} {σ : Mem} {x0 x2 : Option Value} {u : Int32} : X z 30 32 [x0, some (.int u), x2] (st) cu σ Q = (X z 30 33 [x0, some (.int u), x2] (.int u :: st) cu σ Q) := by
  rw [x30_32]
  rfl
theorem v30_33 {z : P0} {st : List Value} {cu : Nat × Nat} {Q : Res → Mem → Prop} {σ : Mem} {x0 x1 x2 : Option Value} : X z 30 33 [x0, x1, x2] (st) cu σ Q = (X z 30 34 [x0, x1, x2] (.int (nI 2) :: st) cu σ Q) := by
  rw [x30_33]
  rfl
theorem v30_34 {z : P0} {st : List Value} {cu : Nat × Nat} {Q : Res → Mem → Prop} {σ : Mem} {x1 x2 : Option Value} {u : Nat} : X z 30 34 [some (.ref u), x1, x2] (st) cu σ Q = (X z 30 35 [some (.ref u), x1, x2] (.ref u :: st) cu σ Q) := by
  rw [x30_34]
  rfl
theorem u30_35 {z : P0} {ls : Lcs} {st : List Value} {K : Nat → Nat × Nat} {I : Nat → Nat → Int32} {R : Nat → Nat → Option Nat} {L : Nat → Nat → Int64} {sz : Nat} {ex : Bool} {Q : Res → Mem → Prop} {x : Nat} : X z 30 35 ls (.ref x :: st) (0, 0) (K, I, R, L, sz, ex) Q = ((K x).1 = 104 ∧ wsum st ≤ 8 ∧ X z 29 0 [some (.ref x), none, none] [] (0, 0) (K, I, R, L, sz, ex) (aftr (X z) mT 30 35 ls st (0, 0) Q)) := v30_35 (c := 0) (n := 0)
theorem v30_38 {z : P0} {st : List Value} {cu : Nat × Nat} {Q : Res → Mem → Prop} {σ : Mem} {x0 x1 x2 : Option Value} {u v : Int32} : X z 30 38 [x0, x1, x2] (.int v :: .int u :: st) cu σ Q = (X z 30 39 [x0, x1, x2] (.int (u * v) :: st) cu σ Q) := by
  rw [x30_38]
  rfl
theorem v30_39 {z : P0} {st : List Value} {cu : Nat × Nat} {Q : Res → Mem → Prop} {σ : Mem} {x0 x1 x2 : Option Value} {u v : Int32} : X z 30 39 [x0, x1, x2] (.int v :: .int u :: st) cu σ Q = (X z 30 40 [x0, x1, x2] (.int (u - v) :: st) cu σ Q) := by
  rw [x30_39]
  rfl
theorem v30_40 {z : P0} {cu : Nat × Nat} {Q : Res → Mem → Prop} {σ : Mem} {x0 x1 x2 : Option Value} {v : Int32} : X z 30 40 [x0, x1, x2] ([.int v]) cu σ Q = (Q (.inl (some (.int v))) σ) := by
  rw [x30_40]
  exact propext ⟨fun h => h.2, fun h => ⟨trivial, h⟩⟩
theorem v31_0 {z : P0} {st : List Value} {cu : Nat × Nat} {Q : Res → Mem → Prop} {σ : Mem} {x0 x1 : Option Value} : X z 31 0 [x0, x1] (st) cu σ Q = (X z 31 1 [x0, x1] (.int (nI 0) :: st) cu σ Q) := by
  rw [x31_0]
  rfl
theorem v31_1 {z : P0} {st : List Value} {cu : Nat × Nat} {Q : Res → Mem → Prop} {σ : Mem} {x0 x1 : Option Value} {u : Int32} : X z 31 1 [x0, x1] (.int u :: st) cu σ Q = (cat2 x0 = false ∧ X z 31 2 [x0, some (.int u)] (st) cu σ Q) := by
  rw [x31_1]
  obtain ⟨K, I, R, L, sz, ex⟩ := σ
  exact i_istore_n.trans sl_1
theorem v31_2 {z : P0} {st : List Value} {cu : Nat × Nat} {Q : Res → Mem → Prop} {σ : Mem} {x0 : Option Value} {u : Int32} : X z 31 2 [x0, some (.int u)] (st) cu σ Q = (X z 31 3 [x0, some (.int u)] (.int u :: st) cu σ Q) := by
  rw [x31_2]
  rfl
theorem v31_3 {z : P0} {st : List Value} {cu : Nat × Nat} {Q : Res → Mem → Prop} {σ : Mem} {x0 x1 : Option Value} : X z 31 3 [x0, x1] (st) cu σ Q = (X z 31 4 [x0, x1] (.int (nI 1) :: st) cu σ Q) := by
  rw [x31_3]
  rfl
theorem v31_4 {z : P0} {st : List Value} {cu : Nat × Nat} {Q : Res → Mem → Prop} {σ : Mem} {x0 x1 : Option Value} {u v : Int32} : X z 31 4 [x0, x1] (.int v :: .int u :: st) cu σ Q = (X z 31 5 [x0, x1] (.int (u + v) :: st) cu σ Q) := by
  rw [x31_4]
  rfl
theorem v31_5 {z : P0} {st : List Value} {cu : Nat × Nat} {Q : Res → Mem → Prop} {σ : Mem} {x1 : Option Value} {u : Nat} : X z 31 5 [some (.ref u), x1] (st) cu σ Q = (X z 31 6 [some (.ref u), x1] (.ref u :: st) cu σ Q) := by
  rw [x31_5]
  rfl
theorem v31_6 {z : P0} {st : List Value} {cu : Nat × Nat} {Q : Res → Mem → Prop} {K : Nat → Nat × Nat} {I : Nat → Nat → Int32} {R : Nat → Nat → Option Nat} {L : Nat → Nat → Int64} {sz : Nat} {ex : Bool} {x0 x1 : Option Value} {u : Nat} : X z 31 6 [x0, x1] (.ref u :: st) cu (K, I, R, L, sz, ex) Q = ((K u).1 = 104 ∧ X z 31 9 [x0, x1] (.int (I u 1) :: st) cu (K, I, R, L, sz, ex) Q) := by
  rw [x31_6]
  rfl
theorem v31_9 {z : P0} {st : List Value} {cu : Nat × Nat} {Q : Res → Mem → Prop} {σ : Mem} {x0 x1 : Option Value} {u v : Int32} : X z 31 9 [x0, x1] (.int v :: .int u :: st) cu σ Q = (if u < v then X z 31 12 [x0, x1] (st) cu σ Q else X z 31 44 [x0, x1] (st) cu σ Q) := by
  rw [x31_9]
  obtain ⟨K, I, R, L, sz, ex⟩ := σ
  exact br_ge
theorem v31_12 {z : P0} {st : List Value} {cu : Nat × Nat} {Q : Res → Mem → Prop} {σ : Mem} {x1 : Option Value} {u : Nat} : X z 31 12 [some (.ref u), x1] (st) cu σ Q = (X z 31 13 [some (.ref u), x1] (.ref u :: st) cu σ Q) := by
  rw [x31_12]
  rfl
theorem v31_13 {z : P0} {st : List Value} {cu : Nat × Nat} {Q : Res → Mem → Prop} {K : Nat → Nat × Nat} {I : Nat → Nat → Int32} {R : Nat → Nat → Option Nat} {L : Nat → Nat → Int64} {sz : Nat} {ex : Bool} {x0 x1 : Option Value} {u : Nat} : X z 31 13 [x0, x1] (.ref u :: st) cu (K, I, R, L, sz, ex) Q = ((K u).1 = 104 ∧ X z 31 16 [x0, x1] (va_rf (R u 0) :: st) cu (K, I, R, L, sz, ex) Q) := by
  rw [x31_13]
  rfl
theorem v31_16 {z : P0} {st : List Value} {cu : Nat × Nat} {Q : Res → Mem → Prop} {σ : Mem} {x0 : Option Value} {u : Int32} : X z 31 16 [x0, some (.int u)] (st) cu σ Q = (X z 31 17 [x0, some (.int u)] (.int u :: st) cu σ Q) := by
  rw [x31_16]
  rfl
theorem v31_17 {z : P0} {st : List Value} {cu : Nat × Nat} {Q : Res → Mem → Prop} {K : Nat → Nat × Nat} {I : Nat → Nat → Int32} {R : Nat → Nat → Option Nat} {L : Nat → Nat → Int64} {sz : Nat} {ex : Bool} {x0 x1 : Option Value} {u : Nat} {v : Int32} : X z 31 17 [x0, x1] (.int v :: .ref u :: st) cu (K, I, R, L, sz, ex) Q = (((K u).1 = 20 ∨ (K u).1 = 50) ∧ vp_in v (K u).2 ∧ X z 31 18 [x0, x1] (.int (I u v.toNatClampNeg) :: st) cu (K, I, R, L, sz, ex) Q) := by
  rw [x31_17]
  rfl
theorem v31_18 {z : P0} {st : List Value} {cu : Nat × Nat} {Q : Res → Mem → Prop} {σ : Mem} {x0 x1 : Option Value} : X z 31 18 [x0, x1] (st) cu σ Q = (X z 31 20 [x0, x1] (.int (nI 60) :: st) cu σ Q) := by
  rw [x31_18]
  rfl
theorem v31_20 {z : P0} {st : List Value} {cu : Nat × Nat} {Q : Res → Mem → Prop} {σ : Mem} {x0 x1 : Option Value} {u v : Int32} : X z 31 20 [x0, x1] (.int v :: .int u :: st) cu σ Q = (if u = v then X z 31 23 [x0, x1] (st) cu σ Q else X z 31 38 [x0, x1] (st) cu σ Q) := by
  rw [x31_20]
  obtain ⟨K, I, R, L, sz, ex⟩ := σ
  exact br_ne
theorem v31_23 {z : P0} {st : List Value} {cu : Nat × Nat} {Q : Res → Mem → Prop} {σ : Mem} {x1 : Option Value} {u : Nat} : X z 31 23 [some (.ref u), x1] (st) cu σ Q = (X z 31 24 [some (.ref u), x1] (.ref u :: st) cu σ Q) := by
  rw [x31_23]
  rfl
theorem v31_24 {z : P0} {st : List Value} {cu : Nat × Nat} {Q : Res → Mem → Prop} {K : Nat → Nat × Nat} {I : Nat → Nat → Int32} {R : Nat → Nat → Option Nat} {L : Nat → Nat → Int64} {sz : Nat} {ex : Bool} {x0 x1 : Option Value} {u : Nat} : X z 31 24 [x0, x1] (.ref u :: st) cu (K, I, R, L, sz, ex) Q = ((K u).1 = 104 ∧ X z 31 27 [x0, x1] (va_rf (R u 0) :: st) cu (K, I, R, L, sz, ex) Q) := by
  rw [x31_24]
  rfl
theorem v31_27 {z : P0} {st : List Value} {cu : Nat × Nat} {Q : Res → Mem → Prop} {σ : Mem} {x0 : Option Value} {u : Int32} : X z 31 27 [x0, some (.int u)] (st) cu σ Q = (X z 31 28 [x0, some (.int u)] (.int u :: st) cu σ Q) := by
  rw [x31_27]
  rfl
theorem v31_28 {z : P0} {st : List Value} {cu : Nat × Nat} {Q : Res → Mem → Prop} {σ : Mem} {x0 x1 : Option Value} : X z 31 28 [x0, x1] (st) cu σ Q = (X z 31 29 [x0, x1] (.int (nI 1) :: st) cu σ Q) := by
  rw [x31_28]
  rfl
theorem v31_29 {z : P0} {st : List Value} {cu : Nat × Nat} {Q : Res → Mem → Prop} {σ : Mem} {x0 x1 : Option Value} {u v : Int32} : X z 31 29 [x0, x1] (.int v :: .int u :: st) cu σ Q = (X z 31 30 [x0, x1] (.int (u + v) :: st) cu σ Q) := by
  rw [x31_29]
  rfl
theorem v31_30 {z : P0} {st : List Value} {cu : Nat × Nat} {Q : Res → Mem → Prop} {K : Nat → Nat × Nat} {I : Nat → Nat → Int32} {R : Nat → Nat → Option Nat} {L : Nat → Nat → Int64} {sz : Nat} {ex : Bool} {x0 x1 : Option Value} {u : Nat} {v : Int32} : X z 31 30 [x0, x1] (.int v :: .ref u :: st) cu (K, I, R, L, sz, ex) Q = (((K u).1 = 20 ∨ (K u).1 = 50) ∧ vp_in v (K u).2 ∧ X z 31 31 [x0, x1] (.int (I u v.toNatClampNeg) :: st) cu (K, I, R, L, sz, ex) Q) := by
  rw [x31_30]
  rfl
theorem v31_31 {z : P0} {st : List Value} {cu : Nat × Nat} {Q : Res → Mem → Prop} {σ : Mem} {x0 x1 : Option Value} : X z 31 31 [x0, x1] (st) cu σ Q = (X z 31 33 [x0, x1] (.int (nI 119) :: st) cu σ Q) := by
  rw [x31_31]
  rfl
theorem v31_33 {z : P0} {st : List Value} {cu : Nat × Nat} {Q : Res → Mem → Prop} {σ : Mem} {x0 x1 : Option Value} {u v : Int32} : X z 31 33 [x0, x1] (.int v :: .int u :: st) cu σ Q = (if u = v then X z 31 36 [x0, x1] (st) cu σ Q else X z 31 38 [x0, x1] (st) cu σ Q) := by
  rw [x31_33]
  obtain ⟨K, I, R, L, sz, ex⟩ := σ
  exact br_ne
theorem v31_36 {z : P0} {st : List Value} {cu : Nat × Nat} {Q : Res → Mem → Prop} {σ : Mem} {x0 x1 : Option Value} : X z 31 36 [x0, x1] (st) cu σ Q = (X z 31 37 [x0, x1] (.int (nI 1) :: st) cu σ Q) := by
  rw [x31_36]
  rfl
theorem v31_37 {z : P0} {cu : Nat × Nat} {Q : Res → Mem → Prop} {σ : Mem} {x0 x1 : Option Value} {v : Int32} : X z 31 37 [x0, x1] ([.int v]) cu σ Q = ((v = nI 0 ∨ v = nI 1) ∧ Q (.inl (some (.int v))) σ) := by
  rw [x31_37]
  rw [nI_0, one1]
  rfl
theorem v31_38 {z : P0} {st : List Value} {cu : Nat × Nat} {Q : Res → Mem → Prop} {σ : Mem} {x0 : Option Value} {u : Int32} : X z 31 38 [x0, some (.int u)] (st) cu σ Q = (cat2 x0 = false ∧ X z 31 41 [x0, some (.int (u + nI 1))] (st) cu σ Q) := by
  rw [x31_38]
  obtain ⟨K, I, R, L, sz, ex⟩ := σ
  exact i_iinc.trans (gl_1.trans (ldI_i.trans sl_1))
theorem v31_41 {z : P0} {st : List Value} {cu : Nat × Nat} {Q : Res → Mem → Prop} {σ : Mem} {x0 x1 : Option Value} : X z 31 41 [x0, x1] (st) cu σ Q = (X z 31 2 [x0, x1] (st) cu σ Q) := by
  rw [x31_41]
  rfl
theorem v31_44 {z : P0} {st : List Value} {cu : Nat × Nat} {Q : Res → Mem → Prop} {σ : Mem} {x0 x1 : Option Value} : X z 31 44 [x0, x1] (st) cu σ Q = (X z 31 45 [x0, x1] (.int (nI 0) :: st) cu σ Q) := by
  rw [x31_44]
  rfl
theorem v31_45 {z : P0} {cu : Nat × Nat} {Q : Res → Mem → Prop} {σ : Mem} {x0 x1 : Option Value} {v : Int32} : X z 31 45 [x0, x1] ([.int v]) cu σ Q = ((v = nI 0 ∨ v = nI 1) ∧ Q (.inl (some (.int v))) σ) := by
  rw [x31_45]
  rw [nI_0, one1]
  rfl
theorem v32_0 {z : P0} {st : List Value} {cu : Nat × Nat} {Q : Res → Mem → Prop} {σ : Mem} {u : Nat} : X z 32 0 [some (.ref u)] (st) cu σ Q = (X z 32 1 [some (.ref u)] (.ref u :: st) cu σ Q) := by
  rw [x32_0]
  rfl
theorem v32_1 {z : P0} {st : List Value} {cu : Nat × Nat} {Q : Res → Mem → Prop} {σ : Mem} {x0 : Option Value} {u : Nat} : X z 32 1 [x0] (.ref u :: st) cu σ Q = (wsum st ≤ 8 ∧ X z 32 4 [x0] (st) cu σ Q) := by
  rw [x32_1]
  exact propext ⟨fun h => h.2, fun h => ⟨rfl, h⟩⟩
theorem v32_4 {z : P0} {st : List Value} {cu : Nat × Nat} {Q : Res → Mem → Prop} {σ : Mem} {u : Nat} : X z 32 4 [some (.ref u)] (st) cu σ Q = (X z 32 5 [some (.ref u)] (.ref u :: st) cu σ Q) := by
  rw [x32_4]
  rfl
theorem v32_5 {z : P0} {st : List Value} {cu : Nat × Nat} {Q : Res → Mem → Prop} {σ : Mem} {x0 : Option Value} : X z 32 5 [x0] (st) cu σ Q = (X z 32 7 [x0] (.int (nI 121) :: st) cu σ Q) := by
  rw [x32_5]
  rfl
theorem v32_7 {z : P0} {st : List Value} {Q : Res → Mem → Prop} {K : Nat → Nat × Nat} {I : Nat → Nat → Int32} {R : Nat → Nat → Option Nat} {L : Nat → Nat → Int64} {sz : Nat} {ex : Bool} {x0 : Option Value} {c n : Nat} {v : Int32} : X z 32 7 [x0] (.int v :: st) (c, n) (K, I, R, L, sz, ex) Q = (ex = true ∧ ¬ v < 0 ∧ v.toNatClampNeg ≤ 3000 ∧ (c + 1 ≤ 2 ∧ n + v.toNatClampNeg ≤ 242) ∧ X z 32 9 [x0] (.ref sz :: st) (c + 1, n + v.toNatClampNeg) (upK K sz (20, v.toNatClampNeg), I, R, L, sz + 1, ex) Q) := by
  rw [x32_7]
  rfl
theorem v32_9 {z : P0} {st : List Value} {cu : Nat × Nat} {Q : Res → Mem → Prop} {K : Nat → Nat × Nat} {I : Nat → Nat → Int32} {R : Nat → Nat → Option Nat} {L : Nat → Nat → Int64} {sz : Nat} {ex : Bool} {x0 : Option Value} {u v : Nat} : X z 32 9 [x0] (.ref v :: .ref u :: st) cu (K, I, R, L, sz, ex) Q = ((K u).1 = 105 ∧ X z 32 12 [x0] (st) cu (K, I, up2 R u 0 (some v), L, sz, ex) Q) := by
  rw [x32_9]
  exact i_putA
theorem v32_12 {z : P0} {st : List Value} {cu : Nat × Nat} {Q : Res → Mem → Prop} {σ : Mem} {u : Nat} : X z 32 12 [some (.ref u)] (st) cu σ Q = (X z 32 13 [some (.ref u)] (.ref u :: st) cu σ Q) := by
  rw [x32_12]
  rfl
theorem v32_13 {z : P0} {st : List Value} {cu : Nat × Nat} {Q : Res → Mem → Prop} {σ : Mem} {x0 : Option Value} : X z 32 13 [x0] (st) cu σ Q = (X z 32 15 [x0] (.int (nI 121) :: st) cu σ Q) := by
  rw [x32_13]
  rfl
theorem v32_15 {z : P0} {st : List Value} {Q : Res → Mem → Prop} {K : Nat → Nat × Nat} {I : Nat → Nat → Int32} {R : Nat → Nat → Option Nat} {L : Nat → Nat → Int64} {sz : Nat} {ex : Bool} {x0 : Option Value} {c n : Nat} {v : Int32} : X z 32 15 [x0] (.int v :: st) (c, n) (K, I, R, L, sz, ex) Q = (ex = true ∧ ¬ v < 0 ∧ v.toNatClampNeg ≤ 3000 ∧ (c + 1 ≤ 2 ∧ n + v.toNatClampNeg ≤ 242) ∧ X z 32 17 [x0] (.ref sz :: st) (c + 1, n + v.toNatClampNeg) (upK K sz (20, v.toNatClampNeg), I, R, L, sz + 1, ex) Q) := by
  rw [x32_15]
  rfl
theorem v32_17 {z : P0} {st : List Value} {cu : Nat × Nat} {Q : Res → Mem → Prop} {K : Nat → Nat × Nat} {I : Nat → Nat → Int32} {R : Nat → Nat → Option Nat} {L : Nat → Nat → Int64} {sz : Nat} {ex : Bool} {x0 : Option Value} {u v : Nat} : X z 32 17 [x0] (.ref v :: .ref u :: st) cu (K, I, R, L, sz, ex) Q = ((K u).1 = 105 ∧ X z 32 20 [x0] (st) cu (K, I, up2 R u 1 (some v), L, sz, ex) Q) := by
  rw [x32_17]
  exact i_putA
theorem v32_20 {z : P0} {cu : Nat × Nat} {Q : Res → Mem → Prop} {σ : Mem} {x0 : Option Value} : X z 32 20 [x0] ([]) cu σ Q = (Q (.inl none) σ) := by
  rw [x32_20]
  rfl
theorem v33_0 {z : P0} {st : List Value} {cu : Nat × Nat} {Q : Res → Mem → Prop} {σ : Mem} {x1 x2 x3 x4 x5 : Option Value} {u : Nat} : X z 33 0 [some (.ref u), x1, x2, x3, x4, x5] (st) cu σ Q = (X z 33 1 [some (.ref u), x1, x2, x3, x4, x5] (.ref u :: st) cu σ Q) := by
  rw [x33_0]
  rfl
theorem v33_1 {z : P0} {st : List Value} {cu : Nat × Nat} {Q : Res → Mem → Prop} {σ : Mem} {x0 x1 x2 x3 x4 x5 : Option Value} : X z 33 1 [x0, x1, x2, x3, x4, x5] (st) cu σ Q = (X z 33 2 [x0, x1, x2, x3, x4, x5] (.int (nI 0) :: st) cu σ Q) := by
  rw [x33_1]
  rfl
theorem v33_2 {z : P0} {st : List Value} {cu : Nat × Nat} {Q : Res → Mem → Prop} {K : Nat → Nat × Nat} {I : Nat → Nat → Int32} {R : Nat → Nat → Option Nat} {L : Nat → Nat → Int64} {sz : Nat} {ex : Bool} {x0 x1 x2 x3 x4 x5 : Option Value} {u : Nat} {v : Int32} : X z 33 2 [x0, x1, x2, x3, x4, x5] (.int v :: .ref u :: st) cu (K, I, R, L, sz, ex) Q = ((K u).1 = 105 ∧ X z 33 5 [x0, x1, x2, x3, x4, x5] (st) cu (K, up2 I u 2 v, R, L, sz, ex) Q) := by
  rw [x33_2]
  exact i_putI
theorem v33_5 {z : P0} {st : List Value} {cu : Nat × Nat} {Q : Res → Mem → Prop} {σ : Mem} {x0 x1 x2 x3 x4 x5 : Option Value} : X z 33 5 [x0, x1, x2, x3, x4, x5] (st) cu σ Q = (X z 33 6 [x0, x1, x2, x3, x4, x5] (.int (nI 0) :: st) cu σ Q) := by
  rw [x33_5]
  rfl
theorem v33_6 {z : P0} {st : List Value} {cu : Nat × Nat} {Q : Res → Mem → Prop} {σ : Mem} {x0 x1 x2 x3 x4 x5 : Option Value} {u : Int32} : X z 33 6 [x0, x1, x2, x3, x4, x5] (.int u :: st) cu σ Q = (cat2 x2 = false ∧ X z 33 7 [x0, x1, x2, some (.int u), x4, x5] (st) cu σ Q) := by
  rw [x33_6]
  obtain ⟨K, I, R, L, sz, ex⟩ := σ
  exact i_istore_n.trans sl_3
theorem v33_7 {z : P0} {st : List Value} {cu : Nat × Nat} {Q : Res → Mem → Prop} {σ : Mem} {x0 x1 x2 x3 x4 x5 : Option Value} : X z 33 7 [x0, x1, x2, x3, x4, x5] (st) cu σ Q = (X z 33 8 [x0, x1, x2, x3, x4, x5] (.int (nI 0) :: st) cu σ Q) := by
  rw [x33_7]
  rfl
theorem v33_8 {z : P0} {st : List Value} {cu : Nat × Nat} {Q : Res → Mem → Prop} {σ : Mem} {x0 x1 x2 x3 x4 x5 : Option Value} {u : Int32} : X z 33 8 [x0, x1, x2, x3, x4, x5] (.int u :: st) cu σ Q = (cat2 x3 = false ∧ X z 33 10 [x0, x1, x2, x3, some (.int u), x5] (st) cu σ Q) := by
  rw [x33_8]
  obtain ⟨K, I, R, L, sz, ex⟩ := σ
  exact i_istore.trans sl_4
theorem v33_10 {z : P0} {st : List Value} {cu : Nat × Nat} {Q : Res → Mem → Prop} {σ : Mem} {x0 x1 x2 x3 x5 : Option Value} {u : Int32} : X z 33 10 [x0, x1, x2, x3, some (.int u), x5] (st) cu σ Q = (X z 33 12 [x0, x1, x2, x3, some (.int u), x5] (.int u :: st) cu σ Q) := by
  rw [x33_10]
  rfl
theorem v33_12 {z : P0} {st : List Value} {cu : Nat × Nat} {Q : Res → Mem → Prop} {σ : Mem} {x0 x1 x3 x4 x5 : Option Value} {u : Int32} : X z 33 12 [x0, x1, some (.int u), x3, x4, x5] (st) cu σ Q = (X z 33 13 [x0, x1, some (.int u), x3, x4, x5] (.int u :: st) cu σ Q) := by
  rw [x33_12]
  rfl
theorem v33_13 {z : P0} {st : List Value} {cu : Nat × Nat} {Q : Res → Mem → Prop} {σ : Mem} {x0 x1 x2 x3 x4 x5 : Option Value} {u v : Int32} : X z 33 13 [x0, x1, x2, x3, x4, x5] (.int v :: .int u :: st) cu σ Q = (if v < u then X z 33 108 [x0, x1, x2, x3, x4, x5] (st) cu σ Q else X z 33 16 [x0, x1, x2, x3, x4, x5] (st) cu σ Q) := by
  rw [x33_13]
  obtain ⟨K, I, R, L, sz, ex⟩ := σ
  exact br_ite
theorem v33_16 {z : P0} {st : List Value} {cu : Nat × Nat} {Q : Res → Mem → Prop} {σ : Mem} {x1 x2 x3 x4 x5 : Option Value} {u : Nat} : X z 33 16 [some (.ref u), x1, x2, x3, x4, x5] (st) cu σ Q = (X z 33 17 [some (.ref u), x1, x2, x3, x4, x5] (.ref u :: st) cu σ Q) := by
  rw [x33_16]
  rfl
theorem v33_17 {z : P0} {st : List Value} {cu : Nat × Nat} {Q : Res → Mem → Prop} {K : Nat → Nat × Nat} {I : Nat → Nat → Int32} {R : Nat → Nat → Option Nat} {L : Nat → Nat → Int64} {sz : Nat} {ex : Bool} {x0 x1 x2 x3 x4 x5 : Option Value} {u : Nat} : X z 33 17 [x0, x1, x2, x3, x4, x5] (.ref u :: st) cu (K, I, R, L, sz, ex) Q = ((K u).1 = 105 ∧ X z 33 20 [x0, x1, x2, x3, x4, x5] (.int (I u 2) :: st) cu (K, I, R, L, sz, ex) Q) := by
  rw [x33_17]
  rfl
theorem v33_20 {z : P0} {st : List Value} {cu : Nat × Nat} {Q : Res → Mem → Prop} {σ : Mem} {x0 x1 x2 x3 x4 x5 : Option Value} : X z 33 20 [x0, x1, x2, x3, x4, x5] (st) cu σ Q = (X z 33 22 [x0, x1, x2, x3, x4, x5] (.int (nI 121) :: st) cu σ Q) := by
  rw [x33_20]
  rfl
theorem v33_22 {z : P0} {st : List Value} {cu : Nat × Nat} {Q : Res → Mem → Prop} {σ : Mem} {x0 x1 x2 x3 x4 x5 : Option Value} {u v : Int32} : X z 33 22 [x0, x1, x2, x3, x4, x5] (.int v :: .int u :: st) cu σ Q = (if u < v then X z 33 25 [x0, x1, x2, x3, x4, x5] (st) cu σ Q else X z 33 108 [x0, x1, x2, x3, x4, x5] (st) cu σ Q) := by
  rw [x33_22]
  obtain ⟨K, I, R, L, sz, ex⟩ := σ
  exact br_ge
theorem v33_25 {z : P0} {st : List Value} {cu : Nat × Nat} {Q : Res → Mem → Prop} {σ : Mem} {x0 x1 x2 x3 x5 : Option Value} {u : Int32} : X z 33 25 [x0, x1, x2, x3, some (.int u), x5] (st) cu σ Q = (X z 33 27 [x0, x1, x2, x3, some (.int u), x5] (.int u :: st) cu σ Q) := by
  rw [x33_25]
  rfl
theorem v33_27 {z : P0} {st : List Value} {cu : Nat × Nat} {Q : Res → Mem → Prop} {σ : Mem} {x0 x1 x3 x4 x5 : Option Value} {u : Int32} : X z 33 27 [x0, x1, some (.int u), x3, x4, x5] (st) cu σ Q = (X z 33 28 [x0, x1, some (.int u), x3, x4, x5] (.int u :: st) cu σ Q) := by
  rw [x33_27]
  rfl
theorem v33_28 {z : P0} {st : List Value} {cu : Nat × Nat} {Q : Res → Mem → Prop} {σ : Mem} {x0 x1 x2 x3 x4 x5 : Option Value} {u v : Int32} : X z 33 28 [x0, x1, x2, x3, x4, x5] (.int v :: .int u :: st) cu σ Q = (if u < v then X z 33 31 [x0, x1, x2, x3, x4, x5] (st) cu σ Q else X z 33 38 [x0, x1, x2, x3, x4, x5] (st) cu σ Q) := by
  rw [x33_28]
  obtain ⟨K, I, R, L, sz, ex⟩ := σ
  exact br_ge
theorem v33_31 {z : P0} {st : List Value} {cu : Nat × Nat} {Q : Res → Mem → Prop} {σ : Mem} {x0 x2 x3 x4 x5 : Option Value} {u : Nat} : X z 33 31 [x0, some (.ref u), x2, x3, x4, x5] (st) cu σ Q = (X z 33 32 [x0, some (.ref u), x2, x3, x4, x5] (.ref u :: st) cu σ Q) := by
  rw [x33_31]
  rfl
theorem v33_32 {z : P0} {st : List Value} {cu : Nat × Nat} {Q : Res → Mem → Prop} {σ : Mem} {x0 x1 x2 x3 x5 : Option Value} {u : Int32} : X z 33 32 [x0, x1, x2, x3, some (.int u), x5] (st) cu σ Q = (X z 33 34 [x0, x1, x2, x3, some (.int u), x5] (.int u :: st) cu σ Q) := by
  rw [x33_32]
  rfl
theorem v33_34 {z : P0} {st : List Value} {cu : Nat × Nat} {Q : Res → Mem → Prop} {K : Nat → Nat × Nat} {I : Nat → Nat → Int32} {R : Nat → Nat → Option Nat} {L : Nat → Nat → Int64} {sz : Nat} {ex : Bool} {x0 x1 x2 x3 x4 x5 : Option Value} {u : Nat} {v : Int32} : X z 33 34 [x0, x1, x2, x3, x4, x5] (.int v :: .ref u :: st) cu (K, I, R, L, sz, ex) Q = (((K u).1 = 20 ∨ (K u).1 = 50) ∧ vp_in v (K u).2 ∧ X z 33 35 [x0, x1, x2, x3, x4, x5] (.int (I u v.toNatClampNeg) :: st) cu (K, I, R, L, sz, ex) Q) := by
  rw [x33_34]
  rfl
theorem v33_35 {z : P0} {st : List Value} {cu : Nat × Nat} {Q : Res → Mem → Prop} {σ : Mem} {x0 x1 x2 x3 x4 x5 : Option Value} : X z 33 35 [x0, x1, x2, x3, x4, x5] (st) cu σ Q = (X z 33 40 [x0, x1, x2, x3, x4, x5] (st) cu σ Q) := by
  rw [x33_35]
  rfl
theorem v33_38 {z : P0} {st : List Value} {cu : Nat × Nat} {Q : Res → Mem → Prop} {σ : Mem} {x0 x1 x2 x3 x4 x5 : Option Value} : X z 33 38 [x0, x1, x2, x3, x4, x5] (st) cu σ Q = (X z 33 40 [x0, x1, x2, x3, x4, x5] (.int (nI 124) :: st) cu σ Q) := by
  rw [x33_38]
  rfl
theorem v33_40 {z : P0} {st : List Value} {cu : Nat × Nat} {Q : Res → Mem → Prop} {σ : Mem} {x0 x1 x2 x3 x4 x5 : Option Value} {u : Int32} : X z 33 40 [x0, x1, x2, x3, x4, x5] (.int u :: st) cu σ Q = (cat2 x4 = false ∧ X z 33 42 [x0, x1, x2, x3, x4, some (.int u)] (st) cu σ Q) := by
  rw [x33_40]
  obtain ⟨K, I, R, L, sz, ex⟩ := σ
  exact i_istore.trans sl_5
theorem v33_42 {z : P0} {st : List Value} {cu : Nat × Nat} {Q : Res → Mem → Prop} {σ : Mem} {x0 x1 x2 x3 x4 : Option Value} {u : Int32} : X z 33 42 [x0, x1, x2, x3, x4, some (.int u)] (st) cu σ Q = (X z 33 44 [x0, x1, x2, x3, x4, some (.int u)] (.int u :: st) cu σ Q) := by
  rw [x33_42]
  rfl
theorem v33_44 {z : P0} {st : List Value} {cu : Nat × Nat} {Q : Res → Mem → Prop} {σ : Mem} {x0 x1 x2 x3 x4 x5 : Option Value} : X z 33 44 [x0, x1, x2, x3, x4, x5] (st) cu σ Q = (X z 33 46 [x0, x1, x2, x3, x4, x5] (.int (nI 95) :: st) cu σ Q) := by
  rw [x33_44]
  rfl
theorem v33_46 {z : P0} {st : List Value} {cu : Nat × Nat} {Q : Res → Mem → Prop} {σ : Mem} {x0 x1 x2 x3 x4 x5 : Option Value} {u v : Int32} : X z 33 46 [x0, x1, x2, x3, x4, x5] (.int v :: .int u :: st) cu σ Q = (if u = v then X z 33 63 [x0, x1, x2, x3, x4, x5] (st) cu σ Q else X z 33 49 [x0, x1, x2, x3, x4, x5] (st) cu σ Q) := by
  rw [x33_46]
  obtain ⟨K, I, R, L, sz, ex⟩ := σ
  exact br_ite
theorem v33_49 {z : P0} {st : List Value} {cu : Nat × Nat} {Q : Res → Mem → Prop} {σ : Mem} {x0 x1 x2 x3 x4 : Option Value} {u : Int32} : X z 33 49 [x0, x1, x2, x3, x4, some (.int u)] (st) cu σ Q = (X z 33 51 [x0, x1, x2, x3, x4, some (.int u)] (.int u :: st) cu σ Q) := by
  rw [x33_49]
  rfl
theorem v33_51 {z : P0} {st : List Value} {cu : Nat × Nat} {Q : Res → Mem → Prop} {σ : Mem} {x0 x1 x2 x3 x4 x5 : Option Value} : X z 33 51 [x0, x1, x2, x3, x4, x5] (st) cu σ Q = (X z 33 53 [x0, x1, x2, x3, x4, x5] (.int (nI 47) :: st) cu σ Q) := by
  rw [x33_51]
  rfl
theorem v33_53 {z : P0} {st : List Value} {cu : Nat × Nat} {Q : Res → Mem → Prop} {σ : Mem} {x0 x1 x2 x3 x4 x5 : Option Value} {u v : Int32} : X z 33 53 [x0, x1, x2, x3, x4, x5] (.int v :: .int u :: st) cu σ Q = (if u = v then X z 33 63 [x0, x1, x2, x3, x4, x5] (st) cu σ Q else X z 33 56 [x0, x1, x2, x3, x4, x5] (st) cu σ Q) := by
  rw [x33_53]
  obtain ⟨K, I, R, L, sz, ex⟩ := σ
  exact br_ite
theorem v33_56 {z : P0} {st : List Value} {cu : Nat × Nat} {Q : Res → Mem → Prop} {σ : Mem} {x0 x1 x2 x3 x4 : Option Value} {u : Int32} : X z 33 56 [x0, x1, x2, x3, x4, some (.int u)] (st) cu σ Q = (X z 33 58 [x0, x1, x2, x3, x4, some (.int u)] (.int u :: st) cu σ Q) := by
  rw [x33_56]
  rfl
theorem v33_58 {z : P0} {st : List Value} {cu : Nat × Nat} {Q : Res → Mem → Prop} {σ : Mem} {x0 x1 x2 x3 x4 x5 : Option Value} : X z 33 58 [x0, x1, x2, x3, x4, x5] (st) cu σ Q = (X z 33 60 [x0, x1, x2, x3, x4, x5] (.int (nI 124) :: st) cu σ Q) := by
  rw [x33_58]
  rfl
theorem v33_60 {z : P0} {st : List Value} {cu : Nat × Nat} {Q : Res → Mem → Prop} {σ : Mem} {x0 x1 x2 x3 x4 x5 : Option Value} {u v : Int32} : X z 33 60 [x0, x1, x2, x3, x4, x5] (.int v :: .int u :: st) cu σ Q = (if u = v then X z 33 63 [x0, x1, x2, x3, x4, x5] (st) cu σ Q else X z 33 102 [x0, x1, x2, x3, x4, x5] (st) cu σ Q) := by
  rw [x33_60]
  obtain ⟨K, I, R, L, sz, ex⟩ := σ
  exact br_ne
theorem v33_63 {z : P0} {st : List Value} {cu : Nat × Nat} {Q : Res → Mem → Prop} {σ : Mem} {x1 x2 x3 x4 x5 : Option Value} {u : Nat} : X z 33 63 [some (.ref u), x1, x2, x3, x4, x5] (st) cu σ Q = (X z 33 64 [some (.ref u), x1, x2, x3, x4, x5] (.ref u :: st) cu σ Q) := by
  rw [x33_63]
  rfl
theorem v33_64 {z : P0} {st : List Value} {cu : Nat × Nat} {Q : Res → Mem → Prop} {K : Nat → Nat × Nat} {I : Nat → Nat → Int32} {R : Nat → Nat → Option Nat} {L : Nat → Nat → Int64} {sz : Nat} {ex : Bool} {x0 x1 x2 x3 x4 x5 : Option Value} {u : Nat} : X z 33 64 [x0, x1, x2, x3, x4, x5] (.ref u :: st) cu (K, I, R, L, sz, ex) Q = ((K u).1 = 105 ∧ X z 33 67 [x0, x1, x2, x3, x4, x5] (va_rf (R u 0) :: st) cu (K, I, R, L, sz, ex) Q) := by
  rw [x33_64]
  rfl
theorem v33_67 {z : P0} {st : List Value} {cu : Nat × Nat} {Q : Res → Mem → Prop} {σ : Mem} {x1 x2 x3 x4 x5 : Option Value} {u : Nat} : X z 33 67 [some (.ref u), x1, x2, x3, x4, x5] (st) cu σ Q = (X z 33 68 [some (.ref u), x1, x2, x3, x4, x5] (.ref u :: st) cu σ Q) := by
  rw [x33_67]
  rfl
theorem v33_68 {z : P0} {st : List Value} {cu : Nat × Nat} {Q : Res → Mem → Prop} {K : Nat → Nat × Nat} {I : Nat → Nat → Int32} {R : Nat → Nat → Option Nat} {L : Nat → Nat → Int64} {sz : Nat} {ex : Bool} {x0 x1 x2 x3 x4 x5 : Option Value} {u : Nat} : X z 33 68 [x0, x1, x2, x3, x4, x5] (.ref u :: st) cu (K, I, R, L, sz, ex) Q = ((K u).1 = 105 ∧ X z 33 71 [x0, x1, x2, x3, x4, x5] (.int (I u 2) :: st) cu (K, I, R, L, sz, ex) Q) := by
  rw [x33_68]
  rfl
theorem v33_71 {z : P0} {st : List Value} {cu : Nat × Nat} {Q : Res → Mem → Prop} {σ : Mem} {x0 x1 x2 x3 x5 : Option Value} {u : Int32} : X z 33 71 [x0, x1, x2, x3, some (.int u), x5] (st) cu σ Q = (X z 33 73 [x0, x1, x2, x3, some (.int u), x5] (.int u :: st) cu σ Q) := by
  rw [x33_71]
  rfl
theorem v33_73 {z : P0} {st : List Value} {cu : Nat × Nat} {Q : Res → Mem → Prop} {σ : Mem} {x0 x1 x2 x4 x5 : Option Value} {u : Int32} : X z 33 73 [x0, x1, x2, some (.int u), x4, x5] (st) cu σ Q = (X z 33 74 [x0, x1, x2, some (.int u), x4, x5] (.int u :: st) cu σ Q) := by
  rw [x33_73]
  rfl
theorem v33_74 {z : P0} {st : List Value} {cu : Nat × Nat} {Q : Res → Mem → Prop} {σ : Mem} {x0 x1 x2 x3 x4 x5 : Option Value} {u v : Int32} : X z 33 74 [x0, x1, x2, x3, x4, x5] (.int v :: .int u :: st) cu σ Q = (X z 33 75 [x0, x1, x2, x3, x4, x5] (.int (u - v) :: st) cu σ Q) := by
  rw [x33_74]
  rfl
theorem v33_75 {z : P0} {st : List Value} {cu : Nat × Nat} {Q : Res → Mem → Prop} {K : Nat → Nat × Nat} {I : Nat → Nat → Int32} {R : Nat → Nat → Option Nat} {L : Nat → Nat → Int64} {sz : Nat} {ex : Bool} {x0 x1 x2 x3 x4 x5 : Option Value} {u : Nat} {j v : Int32} : X z 33 75 [x0, x1, x2, x3, x4, x5] (.int v :: .int j :: .ref u :: st) cu (K, I, R, L, sz, ex) Q = ((K u).1 = 20 ∧ vp_in j (K u).2 ∧ X z 33 76 [x0, x1, x2, x3, x4, x5] (st) cu (K, up2 I u j.toNatClampNeg v, R, L, sz, ex) Q) := by
  rw [x33_75]
  rfl
theorem v33_76 {z : P0} {st : List Value} {cu : Nat × Nat} {Q : Res → Mem → Prop} {σ : Mem} {x1 x2 x3 x4 x5 : Option Value} {u : Nat} : X z 33 76 [some (.ref u), x1, x2, x3, x4, x5] (st) cu σ Q = (X z 33 77 [some (.ref u), x1, x2, x3, x4, x5] (.ref u :: st) cu σ Q) := by
  rw [x33_76]
  rfl
theorem v33_77 {z : P0} {st : List Value} {cu : Nat × Nat} {Q : Res → Mem → Prop} {K : Nat → Nat × Nat} {I : Nat → Nat → Int32} {R : Nat → Nat → Option Nat} {L : Nat → Nat → Int64} {sz : Nat} {ex : Bool} {x0 x1 x2 x3 x4 x5 : Option Value} {u : Nat} : X z 33 77 [x0, x1, x2, x3, x4, x5] (.ref u :: st) cu (K, I, R, L, sz, ex) Q = ((K u).1 = 105 ∧ X z 33 80 [x0, x1, x2, x3, x4, x5] (va_rf (R u 1) :: st) cu (K, I, R, L, sz, ex) Q) := by
  rw [x33_77]
  rfl
theorem v33_80 {z : P0} {st : List Value} {cu : Nat × Nat} {Q : Res → Mem → Prop} {σ : Mem} {x1 x2 x3 x4 x5 : Option Value} {u : Nat} : X z 33 80 [some (.ref u), x1, x2, x3, x4, x5] (st) cu σ Q = (X z 33 81 [some (.ref u), x1, x2, x3, x4, x5] (.ref u :: st) cu σ Q) := by
  rw [x33_80]
  rfl
theorem v33_81 {z : P0} {st : List Value} {cu : Nat × Nat} {Q : Res → Mem → Prop} {K : Nat → Nat × Nat} {I : Nat → Nat → Int32} {R : Nat → Nat → Option Nat} {L : Nat → Nat → Int64} {sz : Nat} {ex : Bool} {x0 x1 x2 x3 x4 x5 : Option Value} {u : Nat} : X z 33 81 [x0, x1, x2, x3, x4, x5] (.ref u :: st) cu (K, I, R, L, sz, ex) Q = ((K u).1 = 105 ∧ X z 33 84 [x0, x1, x2, x3, x4, x5] (.int (I u 2) :: st) cu (K, I, R, L, sz, ex) Q) := by
  rw [x33_81]
  rfl
theorem v33_84 {z : P0} {st : List Value} {cu : Nat × Nat} {Q : Res → Mem → Prop} {σ : Mem} {x0 x1 x2 x3 x4 : Option Value} {u : Int32} : X z 33 84 [x0, x1, x2, x3, x4, some (.int u)] (st) cu σ Q = (X z 33 86 [x0, x1, x2, x3, x4, some (.int u)] (.int u :: st) cu σ Q) := by
  rw [x33_84]
  rfl
theorem v33_86 {z : P0} {st : List Value} {cu : Nat × Nat} {Q : Res → Mem → Prop} {K : Nat → Nat × Nat} {I : Nat → Nat → Int32} {R : Nat → Nat → Option Nat} {L : Nat → Nat → Int64} {sz : Nat} {ex : Bool} {x0 x1 x2 x3 x4 x5 : Option Value} {u : Nat} {j v : Int32} : X z 33 86 [x0, x1, x2, x3, x4, x5] (.int v :: .int j :: .ref u :: st) cu (K, I, R, L, sz, ex) Q = ((K u).1 = 20 ∧ vp_in j (K u).2 ∧ X z 33 87 [x0, x1, x2, x3, x4, x5] (st) cu (K, up2 I u j.toNatClampNeg v, R, L, sz, ex) Q) := by
  rw [x33_86]
  rfl
theorem v33_87 {z : P0} {st : List Value} {cu : Nat × Nat} {Q : Res → Mem → Prop} {σ : Mem} {x1 x2 x3 x4 x5 : Option Value} {u : Nat} : X z 33 87 [some (.ref u), x1, x2, x3, x4, x5] (st) cu σ Q = (X z 33 88 [some (.ref u), x1, x2, x3, x4, x5] (.ref u :: st) cu σ Q) := by
  rw [x33_87]
  rfl
theorem v33_88 {z : P0} {st : List Value} {cu : Nat × Nat} {Q : Res → Mem → Prop} {σ : Mem} {x0 x1 x2 x3 x4 x5 : Option Value} {u : Nat} : X z 33 88 [x0, x1, x2, x3, x4, x5] (.ref u :: st) cu σ Q = (X z 33 89 [x0, x1, x2, x3, x4, x5] (.ref u :: .ref u :: st) cu σ Q) := by
  rw [x33_88]
  exact propext ⟨fun h => h.2, fun h => ⟨rfl, h⟩⟩
theorem v33_88i {z : P0} {st : List Value} {cu : Nat × Nat} {Q : Res → Mem → Prop} {σ : Mem} {x0 x1 x2 x3 x4 x5 : Option Value} {u : Int32} : X z 33 88 [x0, x1, x2, x3, x4, x5] (.int u :: st) cu σ Q = (X z 33 89 [x0, x1, x2, x3, x4, x5] (.int u :: .int u :: st) cu σ Q) := by
  rw [x33_88]
  exact propext ⟨fun h => h.2, fun h => ⟨rfl, h⟩⟩
theorem v33_89 {z : P0} {st : List Value} {cu : Nat × Nat} {Q : Res → Mem → Prop} {K : Nat → Nat × Nat} {I : Nat → Nat → Int32} {R : Nat → Nat → Option Nat} {L : Nat → Nat → Int64} {sz : Nat} {ex : Bool} {x0 x1 x2 x3 x4 x5 : Option Value} {u : Nat} : X z 33 89 [x0, x1, x2, x3, x4, x5] (.ref u :: st) cu (K, I, R, L, sz, ex) Q = ((K u).1 = 105 ∧ X z 33 92 [x0, x1, x2, x3, x4, x5] (.int (I u 2) :: st) cu (K, I, R, L, sz, ex) Q) := by
  rw [x33_89]
  rfl
theorem v33_92 {z : P0} {st : List Value} {cu : Nat × Nat} {Q : Res → Mem → Prop} {σ : Mem} {x0 x1 x2 x3 x4 x5 : Option Value} : X z 33 92 [x0, x1, x2, x3, x4, x5] (st) cu σ Q = (X z 33 93 [x0, x1, x2, x3, x4, x5] (.int (nI 1) :: st) cu σ Q) := by
  rw [x33_92]
  rfl
theorem v33_93 {z : P0} {st : List Value} {cu : Nat × Nat} {Q : Res → Mem → Prop} {σ : Mem} {x0 x1 x2 x3 x4 x5 : Option Value} {u v : Int32} : X z 33 93 [x0, x1, x2, x3, x4, x5] (.int v :: .int u :: st) cu σ Q = (X z 33 94 [x0, x1, x2, x3, x4, x5] (.int (u + v) :: st) cu σ Q) := by
  rw [x33_93]
  rfl
theorem v33_94 {z : P0} {st : List Value} {cu : Nat × Nat} {Q : Res → Mem → Prop} {K : Nat → Nat × Nat} {I : Nat → Nat → Int32} {R : Nat → Nat → Option Nat} {L : Nat → Nat → Int64} {sz : Nat} {ex : Bool} {x0 x1 x2 x3 x4 x5 : Option Value} {u : Nat} {v : Int32} : X z 33 94 [x0, x1, x2, x3, x4, x5] (.int v :: .ref u :: st) cu (K, I, R, L, sz, ex) Q = ((K u).1 = 105 ∧ X z 33 97 [x0, x1, x2, x3, x4, x5] (st) cu (K, up2 I u 2 v, R, L, sz, ex) Q) := by
  rw [x33_94]
  exact i_putI
theorem v33_97 {z : P0} {st : List Value} {cu : Nat × Nat} {Q : Res → Mem → Prop} {σ : Mem} {x0 x1 x2 x3 x5 : Option Value} {u : Int32} : X z 33 97 [x0, x1, x2, x3, some (.int u), x5] (st) cu σ Q = (X z 33 99 [x0, x1, x2, x3, some (.int u), x5] (.int u :: st) cu σ Q) := by
  rw [x33_97]
  rfl
theorem v33_99 {z : P0} {st : List Value} {cu : Nat × Nat} {Q : Res → Mem → Prop} {σ : Mem} {x0 x1 x2 x3 x4 x5 : Option Value} : X z 33 99 [x0, x1, x2, x3, x4, x5] (st) cu σ Q = (X z 33 100 [x0, x1, x2, x3, x4, x5] (.int (nI 1) :: st) cu σ Q) := by
  rw [x33_99]
  rfl
theorem v33_100 {z : P0} {st : List Value} {cu : Nat × Nat} {Q : Res → Mem → Prop} {σ : Mem} {x0 x1 x2 x3 x4 x5 : Option Value} {u v : Int32} : X z 33 100 [x0, x1, x2, x3, x4, x5] (.int v :: .int u :: st) cu σ Q = (X z 33 101 [x0, x1, x2, x3, x4, x5] (.int (u + v) :: st) cu σ Q) := by
  rw [x33_100]
  rfl
theorem v33_101 {z : P0} {st : List Value} {cu : Nat × Nat} {Q : Res → Mem → Prop} {σ : Mem} {x0 x1 x2 x3 x4 x5 : Option Value} {u : Int32} : X z 33 101 [x0, x1, x2, x3, x4, x5] (.int u :: st) cu σ Q = (cat2 x2 = false ∧ X z 33 102 [x0, x1, x2, some (.int u), x4, x5] (st) cu σ Q) := by
  rw [x33_101]
  obtain ⟨K, I, R, L, sz, ex⟩ := σ
  exact i_istore_n.trans sl_3
theorem v33_102 {z : P0} {st : List Value} {cu : Nat × Nat} {Q : Res → Mem → Prop} {σ : Mem} {x0 x1 x2 x3 x5 : Option Value} {u : Int32} : X z 33 102 [x0, x1, x2, x3, some (.int u), x5] (st) cu σ Q = (cat2 x3 = false ∧ X z 33 105 [x0, x1, x2, x3, some (.int (u + nI 1)), x5] (st) cu σ Q) := by
  rw [x33_102]
  obtain ⟨K, I, R, L, sz, ex⟩ := σ
  exact i_iinc.trans (gl_4.trans (ldI_i.trans sl_4))
theorem v33_105 {z : P0} {st : List Value} {cu : Nat × Nat} {Q : Res → Mem → Prop} {σ : Mem} {x0 x1 x2 x3 x4 x5 : Option Value} : X z 33 105 [x0, x1, x2, x3, x4, x5] (st) cu σ Q = (X z 33 10 [x0, x1, x2, x3, x4, x5] (st) cu σ Q) := by
  rw [x33_105]
  rfl
theorem v33_108 {z : P0} {cu : Nat × Nat} {Q : Res → Mem → Prop} {σ : Mem} {x0 x1 x2 x3 x4 x5 : Option Value} : X z 33 108 [x0, x1, x2, x3, x4, x5] ([]) cu σ Q = (Q (.inl none) σ) := by
  rw [x33_108]
  rfl
theorem v34_0 {z : P0} {st : List Value} {cu : Nat × Nat} {Q : Res → Mem → Prop} {σ : Mem} {x1 x2 x3 x4 x5 : Option Value} {u : Nat} : X z 34 0 [some (.ref u), x1, x2, x3, x4, x5] (st) cu σ Q = (X z 34 1 [some (.ref u), x1, x2, x3, x4, x5] (.ref u :: st) cu σ Q) := by
  rw [x34_0]
  rfl
theorem v34_1 {z : P0} {st : List Value} {cu : Nat × Nat} {Q : Res → Mem → Prop} {σ : Mem} {x0 x1 x2 x3 x4 x5 : Option Value} : X z 34 1 [x0, x1, x2, x3, x4, x5] (st) cu σ Q = (X z 34 2 [x0, x1, x2, x3, x4, x5] (.int (nI 0) :: st) cu σ Q) := by
  rw [x34_1]
  rfl
theorem v34_2 {z : P0} {st : List Value} {cu : Nat × Nat} {Q : Res → Mem → Prop} {K : Nat → Nat × Nat} {I : Nat → Nat → Int32} {R : Nat → Nat → Option Nat} {L : Nat → Nat → Int64} {sz : Nat} {ex : Bool} {x0 x1 x2 x3 x4 x5 : Option Value} {u : Nat} {v : Int32} : X z 34 2 [x0, x1, x2, x3, x4, x5] (.int v :: .ref u :: st) cu (K, I, R, L, sz, ex) Q = ((K u).1 = 105 ∧ X z 34 5 [x0, x1, x2, x3, x4, x5] (st) cu (K, up2 I u 3 v, R, L, sz, ex) Q) := by
  rw [x34_2]
  exact i_putI
theorem v34_5 {z : P0} {st : List Value} {cu : Nat × Nat} {Q : Res → Mem → Prop} {σ : Mem} {x1 x2 x3 x4 x5 : Option Value} {u : Nat} : X z 34 5 [some (.ref u), x1, x2, x3, x4, x5] (st) cu σ Q = (X z 34 6 [some (.ref u), x1, x2, x3, x4, x5] (.ref u :: st) cu σ Q) := by
  rw [x34_5]
  rfl
theorem v34_6 {z : P0} {st : List Value} {cu : Nat × Nat} {Q : Res → Mem → Prop} {σ : Mem} {x0 x1 x2 x3 x4 x5 : Option Value} : X z 34 6 [x0, x1, x2, x3, x4, x5] (st) cu σ Q = (X z 34 7 [x0, x1, x2, x3, x4, x5] (.int (nI 0) :: st) cu σ Q) := by
  rw [x34_6]
  rfl
theorem v34_7 {z : P0} {st : List Value} {cu : Nat × Nat} {Q : Res → Mem → Prop} {K : Nat → Nat × Nat} {I : Nat → Nat → Int32} {R : Nat → Nat → Option Nat} {L : Nat → Nat → Int64} {sz : Nat} {ex : Bool} {x0 x1 x2 x3 x4 x5 : Option Value} {u : Nat} {v : Int32} : X z 34 7 [x0, x1, x2, x3, x4, x5] (.int v :: .ref u :: st) cu (K, I, R, L, sz, ex) Q = ((K u).1 = 105 ∧ X z 34 10 [x0, x1, x2, x3, x4, x5] (st) cu (K, up2 I u 4 v, R, L, sz, ex) Q) := by
  rw [x34_7]
  exact i_putI
theorem v34_10 {z : P0} {st : List Value} {cu : Nat × Nat} {Q : Res → Mem → Prop} {σ : Mem} {x0 x2 x3 x4 x5 : Option Value} {u : Int32} : X z 34 10 [x0, some (.int u), x2, x3, x4, x5] (st) cu σ Q = (X z 34 11 [x0, some (.int u), x2, x3, x4, x5] (.int u :: st) cu σ Q) := by
  rw [x34_10]
  rfl
theorem v34_11 {z : P0} {st : List Value} {cu : Nat × Nat} {Q : Res → Mem → Prop} {σ : Mem} {x0 x1 x2 x3 x4 x5 : Option Value} : X z 34 11 [x0, x1, x2, x3, x4, x5] (st) cu σ Q = (X z 34 12 [x0, x1, x2, x3, x4, x5] (.int (nI 1) :: st) cu σ Q) := by
  rw [x34_11]
  rfl
theorem v34_12 {z : P0} {st : List Value} {cu : Nat × Nat} {Q : Res → Mem → Prop} {σ : Mem} {x0 x1 x2 x3 x4 x5 : Option Value} {u v : Int32} : X z 34 12 [x0, x1, x2, x3, x4, x5] (.int v :: .int u :: st) cu σ Q = (if u < v then X z 34 20 [x0, x1, x2, x3, x4, x5] (st) cu σ Q else X z 34 15 [x0, x1, x2, x3, x4, x5] (st) cu σ Q) := by
  rw [x34_12]
  obtain ⟨K, I, R, L, sz, ex⟩ := σ
  exact br_ite
theorem v34_15 {z : P0} {st : List Value} {cu : Nat × Nat} {Q : Res → Mem → Prop} {σ : Mem} {x0 x1 x3 x4 x5 : Option Value} {u : Int32} : X z 34 15 [x0, x1, some (.int u), x3, x4, x5] (st) cu σ Q = (X z 34 16 [x0, x1, some (.int u), x3, x4, x5] (.int u :: st) cu σ Q) := by
  rw [x34_15]
  rfl
theorem v34_16 {z : P0} {st : List Value} {cu : Nat × Nat} {Q : Res → Mem → Prop} {σ : Mem} {x0 x1 x2 x3 x4 x5 : Option Value} : X z 34 16 [x0, x1, x2, x3, x4, x5] (st) cu σ Q = (X z 34 17 [x0, x1, x2, x3, x4, x5] (.int (nI 1) :: st) cu σ Q) := by
  rw [x34_16]
  rfl
theorem v34_17 {z : P0} {st : List Value} {cu : Nat × Nat} {Q : Res → Mem → Prop} {σ : Mem} {x0 x1 x2 x3 x4 x5 : Option Value} {u v : Int32} : X z 34 17 [x0, x1, x2, x3, x4, x5] (.int v :: .int u :: st) cu σ Q = (if u < v then X z 34 20 [x0, x1, x2, x3, x4, x5] (st) cu σ Q else X z 34 21 [x0, x1, x2, x3, x4, x5] (st) cu σ Q) := by
  rw [x34_17]
  obtain ⟨K, I, R, L, sz, ex⟩ := σ
  exact br_ge
theorem v34_20 {z : P0} {cu : Nat × Nat} {Q : Res → Mem → Prop} {σ : Mem} {x0 x1 x2 x3 x4 x5 : Option Value} : X z 34 20 [x0, x1, x2, x3, x4, x5] ([]) cu σ Q = (Q (.inl none) σ) := by
  rw [x34_20]
  rfl
theorem v34_21 {z : P0} {st : List Value} {cu : Nat × Nat} {Q : Res → Mem → Prop} {σ : Mem} {x0 x1 x2 x3 x4 x5 : Option Value} : X z 34 21 [x0, x1, x2, x3, x4, x5] (st) cu σ Q = (X z 34 22 [x0, x1, x2, x3, x4, x5] (.int (nI 0) :: st) cu σ Q) := by
  rw [x34_21]
  rfl
theorem v34_22 {z : P0} {st : List Value} {cu : Nat × Nat} {Q : Res → Mem → Prop} {σ : Mem} {x0 x1 x2 x3 x4 x5 : Option Value} {u : Int32} : X z 34 22 [x0, x1, x2, x3, x4, x5] (.int u :: st) cu σ Q = (cat2 x2 = false ∧ X z 34 23 [x0, x1, x2, some (.int u), x4, x5] (st) cu σ Q) := by
  rw [x34_22]
  obtain ⟨K, I, R, L, sz, ex⟩ := σ
  exact i_istore_n.trans sl_3
theorem v34_23 {z : P0} {st : List Value} {cu : Nat × Nat} {Q : Res → Mem → Prop} {σ : Mem} {x0 x1 x2 x3 x4 x5 : Option Value} : X z 34 23 [x0, x1, x2, x3, x4, x5] (st) cu σ Q = (X z 34 24 [x0, x1, x2, x3, x4, x5] (.int (nI 4294967295) :: st) cu σ Q) := by
  rw [x34_23]
  rw [neg1]
  rfl
theorem v34_24 {z : P0} {st : List Value} {cu : Nat × Nat} {Q : Res → Mem → Prop} {σ : Mem} {x0 x1 x2 x3 x4 x5 : Option Value} {u : Int32} : X z 34 24 [x0, x1, x2, x3, x4, x5] (.int u :: st) cu σ Q = (cat2 x3 = false ∧ X z 34 26 [x0, x1, x2, x3, some (.int u), x5] (st) cu σ Q) := by
  rw [x34_24]
  obtain ⟨K, I, R, L, sz, ex⟩ := σ
  exact i_istore.trans sl_4
theorem v34_26 {z : P0} {st : List Value} {cu : Nat × Nat} {Q : Res → Mem → Prop} {σ : Mem} {x0 x1 x2 x3 x4 x5 : Option Value} : X z 34 26 [x0, x1, x2, x3, x4, x5] (st) cu σ Q = (X z 34 27 [x0, x1, x2, x3, x4, x5] (.int (nI 0) :: st) cu σ Q) := by
  rw [x34_26]
  rfl
theorem v34_27 {z : P0} {st : List Value} {cu : Nat × Nat} {Q : Res → Mem → Prop} {σ : Mem} {x0 x1 x2 x3 x4 x5 : Option Value} {u : Int32} : X z 34 27 [x0, x1, x2, x3, x4, x5] (.int u :: st) cu σ Q = (cat2 x4 = false ∧ X z 34 29 [x0, x1, x2, x3, x4, some (.int u)] (st) cu σ Q) := by
  rw [x34_27]
  obtain ⟨K, I, R, L, sz, ex⟩ := σ
  exact i_istore.trans sl_5
theorem v34_29 {z : P0} {st : List Value} {cu : Nat × Nat} {Q : Res → Mem → Prop} {σ : Mem} {x0 x1 x2 x3 x4 : Option Value} {u : Int32} : X z 34 29 [x0, x1, x2, x3, x4, some (.int u)] (st) cu σ Q = (X z 34 31 [x0, x1, x2, x3, x4, some (.int u)] (.int u :: st) cu σ Q) := by
  rw [x34_29]
  rfl
theorem v34_31 {z : P0} {st : List Value} {cu : Nat × Nat} {Q : Res → Mem → Prop} {σ : Mem} {x1 x2 x3 x4 x5 : Option Value} {u : Nat} : X z 34 31 [some (.ref u), x1, x2, x3, x4, x5] (st) cu σ Q = (X z 34 32 [some (.ref u), x1, x2, x3, x4, x5] (.ref u :: st) cu σ Q) := by
  rw [x34_31]
  rfl
theorem v34_32 {z : P0} {st : List Value} {cu : Nat × Nat} {Q : Res → Mem → Prop} {K : Nat → Nat × Nat} {I : Nat → Nat → Int32} {R : Nat → Nat → Option Nat} {L : Nat → Nat → Int64} {sz : Nat} {ex : Bool} {x0 x1 x2 x3 x4 x5 : Option Value} {u : Nat} : X z 34 32 [x0, x1, x2, x3, x4, x5] (.ref u :: st) cu (K, I, R, L, sz, ex) Q = ((K u).1 = 105 ∧ X z 34 35 [x0, x1, x2, x3, x4, x5] (.int (I u 2) :: st) cu (K, I, R, L, sz, ex) Q) := by
  rw [x34_32]
  rfl
theorem v34_35 {z : P0} {st : List Value} {cu : Nat × Nat} {Q : Res → Mem → Prop} {σ : Mem} {x0 x1 x2 x3 x4 x5 : Option Value} {u v : Int32} : X z 34 35 [x0, x1, x2, x3, x4, x5] (.int v :: .int u :: st) cu σ Q = (if u < v then X z 34 38 [x0, x1, x2, x3, x4, x5] (st) cu σ Q else X z 34 113 [x0, x1, x2, x3, x4, x5] (st) cu σ Q) := by
  rw [x34_35]
  obtain ⟨K, I, R, L, sz, ex⟩ := σ
  exact br_ge
theorem v34_38 {z : P0} {st : List Value} {cu : Nat × Nat} {Q : Res → Mem → Prop} {σ : Mem} {x1 x2 x3 x4 x5 : Option Value} {u : Nat} : X z 34 38 [some (.ref u), x1, x2, x3, x4, x5] (st) cu σ Q = (X z 34 39 [some (.ref u), x1, x2, x3, x4, x5] (.ref u :: st) cu σ Q) := by
  rw [x34_38]
  rfl
theorem v34_39 {z : P0} {st : List Value} {cu : Nat × Nat} {Q : Res → Mem → Prop} {σ : Mem} {x1 x2 x3 x4 x5 : Option Value} {u : Nat} : X z 34 39 [some (.ref u), x1, x2, x3, x4, x5] (st) cu σ Q = (X z 34 40 [some (.ref u), x1, x2, x3, x4, x5] (.ref u :: st) cu σ Q) := by
  rw [x34_39]
  rfl
theorem v34_40 {z : P0} {st : List Value} {cu : Nat × Nat} {Q : Res → Mem → Prop} {K : Nat → Nat × Nat} {I : Nat → Nat → Int32} {R : Nat → Nat → Option Nat} {L : Nat → Nat → Int64} {sz : Nat} {ex : Bool} {x0 x1 x2 x3 x4 x5 : Option Value} {u : Nat} : X z 34 40 [x0, x1, x2, x3, x4, x5] (.ref u :: st) cu (K, I, R, L, sz, ex) Q = ((K u).1 = 105 ∧ X z 34 43 [x0, x1, x2, x3, x4, x5] (va_rf (R u 0) :: st) cu (K, I, R, L, sz, ex) Q) := by
  rw [x34_40]
  rfl
theorem v34_43 {z : P0} {st : List Value} {cu : Nat × Nat} {Q : Res → Mem → Prop} {σ : Mem} {x0 x1 x2 x3 x4 : Option Value} {u : Int32} : X z 34 43 [x0, x1, x2, x3, x4, some (.int u)] (st) cu σ Q = (X z 34 45 [x0, x1, x2, x3, x4, some (.int u)] (.int u :: st) cu σ Q) := by
  rw [x34_43]
  rfl
theorem v34_45 {z : P0} {st : List Value} {cu : Nat × Nat} {Q : Res → Mem → Prop} {K : Nat → Nat × Nat} {I : Nat → Nat → Int32} {R : Nat → Nat → Option Nat} {L : Nat → Nat → Int64} {sz : Nat} {ex : Bool} {x0 x1 x2 x3 x4 x5 : Option Value} {u : Nat} {v : Int32} : X z 34 45 [x0, x1, x2, x3, x4, x5] (.int v :: .ref u :: st) cu (K, I, R, L, sz, ex) Q = (((K u).1 = 20 ∨ (K u).1 = 50) ∧ vp_in v (K u).2 ∧ X z 34 46 [x0, x1, x2, x3, x4, x5] (.int (I u v.toNatClampNeg) :: st) cu (K, I, R, L, sz, ex) Q) := by
  rw [x34_45]
  rfl
theorem v34_46 {z : P0} {st : List Value} {cu : Nat × Nat} {Q : Res → Mem → Prop} {σ : Mem} {x0 x1 x2 x3 x5 : Option Value} {u : Int32} : X z 34 46 [x0, x1, x2, x3, some (.int u), x5] (st) cu σ Q = (X z 34 48 [x0, x1, x2, x3, some (.int u), x5] (.int u :: st) cu σ Q) := by
  rw [x34_46]
  rfl
theorem v34_48 {z : P0} {st : List Value} {cu : Nat × Nat} {Q : Res → Mem → Prop} {σ : Mem} {x0 x2 x3 x4 x5 : Option Value} {u : Int32} : X z 34 48 [x0, some (.int u), x2, x3, x4, x5] (st) cu σ Q = (X z 34 49 [x0, some (.int u), x2, x3, x4, x5] (.int u :: st) cu σ Q) := by
  rw [x34_48]
  rfl
theorem u34_49 {z : P0} {ls : Lcs} {st : List Value} {K : Nat → Nat × Nat} {I : Nat → Nat → Int32} {R : Nat → Nat → Option Nat} {L : Nat → Nat → Int64} {sz : Nat} {ex : Bool} {Q : Res → Mem → Prop} {x : Nat} {a0 : Int32} {a1 : Int32} {a2 : Int32} : X z 34 49 ls (.int a2 :: .int a1 :: .int a0 :: .ref x :: st) (0, 0) (K, I, R, L, sz, ex) Q = ((K x).1 = 105 ∧ wsum st ≤ 8 ∧ X z 35 0 [some (.ref x), some (.int a0), some (.int a1), some (.int a2), none] [] (0, 0) (K, I, R, L, sz, ex) (aftr (X z) mT 34 49 ls st (0, 0) Q)) := v34_49 (c := 0) (n := 0)
theorem v34_52 {z : P0} {st : List Value} {cu : Nat × Nat} {Q : Res → Mem → Prop} {σ : Mem} {x0 x1 x2 x3 x4 x5 : Option Value} {u : Int32} : X z 34 52 [x0, x1, x2, x3, x4, x5] (.int u :: st) cu σ Q = (cat2 x3 = false ∧ X z 34 54 [x0, x1, x2, x3, some (.int u), x5] (st) cu σ Q) := by
  rw [x34_52]
  obtain ⟨K, I, R, L, sz, ex⟩ := σ
  exact i_istore.trans sl_4
theorem v34_54 {z : P0} {st : List Value} {cu : Nat × Nat} {Q : Res → Mem → Prop} {σ : Mem} {x1 x2 x3 x4 x5 : Option Value} {u : Nat} : X z 34 54 [some (.ref u), x1, x2, x3, x4, x5] (st) cu σ Q = (X z 34 55 [some (.ref u), x1, x2, x3, x4, x5] (.ref u :: st) cu σ Q) := by
  rw [x34_54]
  rfl
theorem v34_55 {z : P0} {st : List Value} {cu : Nat × Nat} {Q : Res → Mem → Prop} {K : Nat → Nat × Nat} {I : Nat → Nat → Int32} {R : Nat → Nat → Option Nat} {L : Nat → Nat → Int64} {sz : Nat} {ex : Bool} {x0 x1 x2 x3 x4 x5 : Option Value} {u : Nat} : X z 34 55 [x0, x1, x2, x3, x4, x5] (.ref u :: st) cu (K, I, R, L, sz, ex) Q = ((K u).1 = 105 ∧ X z 34 58 [x0, x1, x2, x3, x4, x5] (va_rf (R u 1) :: st) cu (K, I, R, L, sz, ex) Q) := by
  rw [x34_55]
  rfl
theorem v34_58 {z : P0} {st : List Value} {cu : Nat × Nat} {Q : Res → Mem → Prop} {σ : Mem} {x0 x1 x2 x3 x4 : Option Value} {u : Int32} : X z 34 58 [x0, x1, x2, x3, x4, some (.int u)] (st) cu σ Q = (X z 34 60 [x0, x1, x2, x3, x4, some (.int u)] (.int u :: st) cu σ Q) := by
  rw [x34_58]
  rfl
theorem v34_60 {z : P0} {st : List Value} {cu : Nat × Nat} {Q : Res → Mem → Prop} {K : Nat → Nat × Nat} {I : Nat → Nat → Int32} {R : Nat → Nat → Option Nat} {L : Nat → Nat → Int64} {sz : Nat} {ex : Bool} {x0 x1 x2 x3 x4 x5 : Option Value} {u : Nat} {v : Int32} : X z 34 60 [x0, x1, x2, x3, x4, x5] (.int v :: .ref u :: st) cu (K, I, R, L, sz, ex) Q = (((K u).1 = 20 ∨ (K u).1 = 50) ∧ vp_in v (K u).2 ∧ X z 34 61 [x0, x1, x2, x3, x4, x5] (.int (I u v.toNatClampNeg) :: st) cu (K, I, R, L, sz, ex) Q) := by
  rw [x34_60]
  rfl
theorem v34_61 {z : P0} {st : List Value} {cu : Nat × Nat} {Q : Res → Mem → Prop} {σ : Mem} {x0 x1 x2 x3 x4 x5 : Option Value} : X z 34 61 [x0, x1, x2, x3, x4, x5] (st) cu σ Q = (X z 34 63 [x0, x1, x2, x3, x4, x5] (.int (nI 95) :: st) cu σ Q) := by
  rw [x34_61]
  rfl
theorem v34_63 {z : P0} {st : List Value} {cu : Nat × Nat} {Q : Res → Mem → Prop} {σ : Mem} {x0 x1 x2 x3 x4 x5 : Option Value} {u v : Int32} : X z 34 63 [x0, x1, x2, x3, x4, x5] (.int v :: .int u :: st) cu σ Q = (if u = v then X z 34 69 [x0, x1, x2, x3, x4, x5] (st) cu σ Q else X z 34 66 [x0, x1, x2, x3, x4, x5] (st) cu σ Q) := by
  rw [x34_63]
  obtain ⟨K, I, R, L, sz, ex⟩ := σ
  exact br_ite
theorem v34_66 {z : P0} {st : List Value} {cu : Nat × Nat} {Q : Res → Mem → Prop} {σ : Mem} {x0 x1 x2 x3 x4 x5 : Option Value} : X z 34 66 [x0, x1, x2, x3, x4, x5] (st) cu σ Q = (X z 34 67 [x0, x1, x2, x3, x4, x5] (.int (nI 4294967295) :: st) cu σ Q) := by
  rw [x34_66]
  rw [neg1]
  rfl
theorem v34_67 {z : P0} {st : List Value} {cu : Nat × Nat} {Q : Res → Mem → Prop} {σ : Mem} {x0 x1 x2 x3 x4 x5 : Option Value} {u : Int32} : X z 34 67 [x0, x1, x2, x3, x4, x5] (.int u :: st) cu σ Q = (cat2 x3 = false ∧ X z 34 69 [x0, x1, x2, x3, some (.int u), x5] (st) cu σ Q) := by
  rw [x34_67]
  obtain ⟨K, I, R, L, sz, ex⟩ := σ
  exact i_istore.trans sl_4
theorem v34_69 {z : P0} {st : List Value} {cu : Nat × Nat} {Q : Res → Mem → Prop} {σ : Mem} {x1 x2 x3 x4 x5 : Option Value} {u : Nat} : X z 34 69 [some (.ref u), x1, x2, x3, x4, x5] (st) cu σ Q = (X z 34 70 [some (.ref u), x1, x2, x3, x4, x5] (.ref u :: st) cu σ Q) := by
  rw [x34_69]
  rfl
theorem v34_70 {z : P0} {st : List Value} {cu : Nat × Nat} {Q : Res → Mem → Prop} {K : Nat → Nat × Nat} {I : Nat → Nat → Int32} {R : Nat → Nat → Option Nat} {L : Nat → Nat → Int64} {sz : Nat} {ex : Bool} {x0 x1 x2 x3 x4 x5 : Option Value} {u : Nat} : X z 34 70 [x0, x1, x2, x3, x4, x5] (.ref u :: st) cu (K, I, R, L, sz, ex) Q = ((K u).1 = 105 ∧ X z 34 73 [x0, x1, x2, x3, x4, x5] (va_rf (R u 1) :: st) cu (K, I, R, L, sz, ex) Q) := by
  rw [x34_70]
  rfl
theorem v34_73 {z : P0} {st : List Value} {cu : Nat × Nat} {Q : Res → Mem → Prop} {σ : Mem} {x0 x1 x2 x3 x4 : Option Value} {u : Int32} : X z 34 73 [x0, x1, x2, x3, x4, some (.int u)] (st) cu σ Q = (X z 34 75 [x0, x1, x2, x3, x4, some (.int u)] (.int u :: st) cu σ Q) := by
  rw [x34_73]
  rfl
theorem v34_75 {z : P0} {st : List Value} {cu : Nat × Nat} {Q : Res → Mem → Prop} {K : Nat → Nat × Nat} {I : Nat → Nat → Int32} {R : Nat → Nat → Option Nat} {L : Nat → Nat → Int64} {sz : Nat} {ex : Bool} {x0 x1 x2 x3 x4 x5 : Option Value} {u : Nat} {v : Int32} : X z 34 75 [x0, x1, x2, x3, x4, x5] (.int v :: .ref u :: st) cu (K, I, R, L, sz, ex) Q = (((K u).1 = 20 ∨ (K u).1 = 50) ∧ vp_in v (K u).2 ∧ X z 34 76 [x0, x1, x2, x3, x4, x5] (.int (I u v.toNatClampNeg) :: st) cu (K, I, R, L, sz, ex) Q) := by
  rw [x34_75]
  rfl
theorem v34_76 {z : P0} {st : List Value} {cu : Nat × Nat} {Q : Res → Mem → Prop} {σ : Mem} {x0 x1 x2 x3 x4 x5 : Option Value} : X z 34 76 [x0, x1, x2, x3, x4, x5] (st) cu σ Q = (X z 34 78 [x0, x1, x2, x3, x4, x5] (.int (nI 124) :: st) cu σ Q) := by
  rw [x34_76]
  rfl
theorem v34_78 {z : P0} {st : List Value} {cu : Nat × Nat} {Q : Res → Mem → Prop} {σ : Mem} {x0 x1 x2 x3 x4 x5 : Option Value} {u v : Int32} : X z 34 78 [x0, x1, x2, x3, x4, x5] (.int v :: .int u :: st) cu σ Q = (if u = v then X z 34 81 [x0, x1, x2, x3, x4, x5] (st) cu σ Q else X z 34 107 [x0, x1, x2, x3, x4, x5] (st) cu σ Q) := by
  rw [x34_78]
  obtain ⟨K, I, R, L, sz, ex⟩ := σ
  exact br_ne
theorem v34_81 {z : P0} {st : List Value} {cu : Nat × Nat} {Q : Res → Mem → Prop} {σ : Mem} {x1 x2 x3 x4 x5 : Option Value} {u : Nat} : X z 34 81 [some (.ref u), x1, x2, x3, x4, x5] (st) cu σ Q = (X z 34 82 [some (.ref u), x1, x2, x3, x4, x5] (.ref u :: st) cu σ Q) := by
  rw [x34_81]
  rfl
theorem v34_82 {z : P0} {st : List Value} {cu : Nat × Nat} {Q : Res → Mem → Prop} {σ : Mem} {x0 x1 x2 x3 x4 x5 : Option Value} {u : Nat} : X z 34 82 [x0, x1, x2, x3, x4, x5] (.ref u :: st) cu σ Q = (X z 34 83 [x0, x1, x2, x3, x4, x5] (.ref u :: .ref u :: st) cu σ Q) := by
  rw [x34_82]
  exact propext ⟨fun h => h.2, fun h => ⟨rfl, h⟩⟩
theorem v34_82i {z : P0} {st : List Value} {cu : Nat × Nat} {Q : Res → Mem → Prop} {σ : Mem} {x0 x1 x2 x3 x4 x5 : Option Value} {u : Int32} : X z 34 82 [x0, x1, x2, x3, x4, x5] (.int u :: st) cu σ Q = (X z 34 83 [x0, x1, x2, x3, x4, x5] (.int u :: .int u :: st) cu σ Q) := by
  rw [x34_82]
  exact propext ⟨fun h => h.2, fun h => ⟨rfl, h⟩⟩
theorem v34_83 {z : P0} {st : List Value} {cu : Nat × Nat} {Q : Res → Mem → Prop} {K : Nat → Nat × Nat} {I : Nat → Nat → Int32} {R : Nat → Nat → Option Nat} {L : Nat → Nat → Int64} {sz : Nat} {ex : Bool} {x0 x1 x2 x3 x4 x5 : Option Value} {u : Nat} : X z 34 83 [x0, x1, x2, x3, x4, x5] (.ref u :: st) cu (K, I, R, L, sz, ex) Q = ((K u).1 = 105 ∧ X z 34 86 [x0, x1, x2, x3, x4, x5] (.int (I u 4) :: st) cu (K, I, R, L, sz, ex) Q) := by
  rw [x34_83]
  rfl
theorem v34_86 {z : P0} {st : List Value} {cu : Nat × Nat} {Q : Res → Mem → Prop} {σ : Mem} {x1 x2 x3 x4 x5 : Option Value} {u : Nat} : X z 34 86 [some (.ref u), x1, x2, x3, x4, x5] (st) cu σ Q = (X z 34 87 [some (.ref u), x1, x2, x3, x4, x5] (.ref u :: st) cu σ Q) := by
  rw [x34_86]
  rfl
theorem v34_87 {z : P0} {st : List Value} {cu : Nat × Nat} {Q : Res → Mem → Prop} {K : Nat → Nat × Nat} {I : Nat → Nat → Int32} {R : Nat → Nat → Option Nat} {L : Nat → Nat → Int64} {sz : Nat} {ex : Bool} {x0 x1 x2 x3 x4 x5 : Option Value} {u : Nat} : X z 34 87 [x0, x1, x2, x3, x4, x5] (.ref u :: st) cu (K, I, R, L, sz, ex) Q = ((K u).1 = 105 ∧ X z 34 90 [x0, x1, x2, x3, x4, x5] (.int (I u 3) :: st) cu (K, I, R, L, sz, ex) Q) := by
  rw [x34_87]
  rfl
theorem v34_90 {z : P0} {st : List Value} {cu : Nat × Nat} {Q : Res → Mem → Prop} {σ : Mem} {x0 x1 x2 x4 x5 : Option Value} {u : Int32} : X z 34 90 [x0, x1, x2, some (.int u), x4, x5] (st) cu σ Q = (X z 34 91 [x0, x1, x2, some (.int u), x4, x5] (.int u :: st) cu σ Q) := by
  rw [x34_90]
  rfl
theorem v34_91 {z : P0} {st : List Value} {cu : Nat × Nat} {Q : Res → Mem → Prop} {σ : Mem} {x0 x1 x2 x3 x4 x5 : Option Value} {u v : Int32} : X z 34 91 [x0, x1, x2, x3, x4, x5] (.int v :: .int u :: st) cu σ Q = (X z 34 92 [x0, x1, x2, x3, x4, x5] (.int (u - v) :: st) cu σ Q) := by
  rw [x34_91]
  rfl
theorem v34_92 {z : P0} {st : List Value} {cu : Nat × Nat} {Q : Res → Mem → Prop} {σ : Mem} {x0 x1 x3 x4 x5 : Option Value} {u : Int32} : X z 34 92 [x0, x1, some (.int u), x3, x4, x5] (st) cu σ Q = (X z 34 93 [x0, x1, some (.int u), x3, x4, x5] (.int u :: st) cu σ Q) := by
  rw [x34_92]
  rfl
theorem v34_93 {z : P0} {st : List Value} {cu : Nat × Nat} {Q : Res → Mem → Prop} {σ : Mem} {x0 x1 x2 x3 x4 x5 : Option Value} {u v : Int32} : X z 34 93 [x0, x1, x2, x3, x4, x5] (.int v :: .int u :: st) cu σ Q = (X z 34 94 [x0, x1, x2, x3, x4, x5] (.int (u + v) :: st) cu σ Q) := by
  rw [x34_93]
  rfl
theorem v34_94 {z : P0} {st : List Value} {cu : Nat × Nat} {Q : Res → Mem → Prop} {σ : Mem} {x0 x1 x2 x3 x4 x5 : Option Value} : X z 34 94 [x0, x1, x2, x3, x4, x5] (st) cu σ Q = (X z 34 95 [x0, x1, x2, x3, x4, x5] (.int (nI 1) :: st) cu σ Q) := by
  rw [x34_94]
  rfl
theorem v34_95 {z : P0} {st : List Value} {cu : Nat × Nat} {Q : Res → Mem → Prop} {σ : Mem} {x0 x1 x2 x3 x4 x5 : Option Value} {u v : Int32} : X z 34 95 [x0, x1, x2, x3, x4, x5] (.int v :: .int u :: st) cu σ Q = (X z 34 96 [x0, x1, x2, x3, x4, x5] (.int (u - v) :: st) cu σ Q) := by
  rw [x34_95]
  rfl
theorem v34_96 {z : P0} {st : List Value} {cu : Nat × Nat} {Q : Res → Mem → Prop} {σ : Mem} {x0 x1 x3 x4 x5 : Option Value} {u : Int32} : X z 34 96 [x0, x1, some (.int u), x3, x4, x5] (st) cu σ Q = (X z 34 97 [x0, x1, some (.int u), x3, x4, x5] (.int u :: st) cu σ Q) := by
  rw [x34_96]
  rfl
theorem v34_97 {z : P0} {st : List Value} {cu : Nat × Nat} {Q : Res → Mem → Prop} {σ : Mem} {x0 x1 x2 x3 x4 x5 : Option Value} {u v : Int32} : X z 34 97 [x0, x1, x2, x3, x4, x5] (.int v :: .int u :: st) cu σ Q = (¬ v = 0 ∧ X z 34 98 [x0, x1, x2, x3, x4, x5] (.int (u / v) :: st) cu σ Q) := by
  rw [x34_97]
  rfl
theorem v34_98 {z : P0} {st : List Value} {cu : Nat × Nat} {Q : Res → Mem → Prop} {σ : Mem} {x0 x1 x2 x3 x4 x5 : Option Value} {u v : Int32} : X z 34 98 [x0, x1, x2, x3, x4, x5] (.int v :: .int u :: st) cu σ Q = (X z 34 99 [x0, x1, x2, x3, x4, x5] (.int (u + v) :: st) cu σ Q) := by
  rw [x34_98]
  rfl
theorem v34_99 {z : P0} {st : List Value} {cu : Nat × Nat} {Q : Res → Mem → Prop} {K : Nat → Nat × Nat} {I : Nat → Nat → Int32} {R : Nat → Nat → Option Nat} {L : Nat → Nat → Int64} {sz : Nat} {ex : Bool} {x0 x1 x2 x3 x4 x5 : Option Value} {u : Nat} {v : Int32} : X z 34 99 [x0, x1, x2, x3, x4, x5] (.int v :: .ref u :: st) cu (K, I, R, L, sz, ex) Q = ((K u).1 = 105 ∧ X z 34 102 [x0, x1, x2, x3, x4, x5] (st) cu (K, up2 I u 4 v, R, L, sz, ex) Q) := by
  rw [x34_99]
  exact i_putI
theorem v34_102 {z : P0} {st : List Value} {cu : Nat × Nat} {Q : Res → Mem → Prop} {σ : Mem} {x1 x2 x3 x4 x5 : Option Value} {u : Nat} : X z 34 102 [some (.ref u), x1, x2, x3, x4, x5] (st) cu σ Q = (X z 34 103 [some (.ref u), x1, x2, x3, x4, x5] (.ref u :: st) cu σ Q) := by
  rw [x34_102]
  rfl
theorem v34_103 {z : P0} {st : List Value} {cu : Nat × Nat} {Q : Res → Mem → Prop} {K : Nat → Nat × Nat} {I : Nat → Nat → Int32} {R : Nat → Nat → Option Nat} {L : Nat → Nat → Int64} {sz : Nat} {ex : Bool} {x0 x1 x2 x3 x4 x5 : Option Value} {u : Nat} : X z 34 103 [x0, x1, x2, x3, x4, x5] (.ref u :: st) cu (K, I, R, L, sz, ex) Q = ((K u).1 = 105 ∧ X z 34 106 [x0, x1, x2, x3, x4, x5] (.int (I u 3) :: st) cu (K, I, R, L, sz, ex) Q) := by
  rw [x34_103]
  rfl
theorem v34_106 {z : P0} {st : List Value} {cu : Nat × Nat} {Q : Res → Mem → Prop} {σ : Mem} {x0 x1 x2 x3 x4 x5 : Option Value} {u : Int32} : X z 34 106 [x0, x1, x2, x3, x4, x5] (.int u :: st) cu σ Q = (cat2 x2 = false ∧ X z 34 107 [x0, x1, x2, some (.int u), x4, x5] (st) cu σ Q) := by
  rw [x34_106]
  obtain ⟨K, I, R, L, sz, ex⟩ := σ
  exact i_istore_n.trans sl_3
theorem v34_107 {z : P0} {st : List Value} {cu : Nat × Nat} {Q : Res → Mem → Prop} {σ : Mem} {x0 x1 x2 x3 x4 : Option Value} {u : Int32} : X z 34 107 [x0, x1, x2, x3, x4, some (.int u)] (st) cu σ Q = (cat2 x4 = false ∧ X z 34 110 [x0, x1, x2, x3, x4, some (.int (u + nI 1))] (st) cu σ Q) := by
  rw [x34_107]
  obtain ⟨K, I, R, L, sz, ex⟩ := σ
  exact i_iinc.trans (gl_5.trans (ldI_i.trans sl_5))
theorem v34_110 {z : P0} {st : List Value} {cu : Nat × Nat} {Q : Res → Mem → Prop} {σ : Mem} {x0 x1 x2 x3 x4 x5 : Option Value} : X z 34 110 [x0, x1, x2, x3, x4, x5] (st) cu σ Q = (X z 34 29 [x0, x1, x2, x3, x4, x5] (st) cu σ Q) := by
  rw [x34_110]
  rfl
theorem v34_113 {z : P0} {cu : Nat × Nat} {Q : Res → Mem → Prop} {σ : Mem} {x0 x1 x2 x3 x4 x5 : Option Value} : X z 34 113 [x0, x1, x2, x3, x4, x5] ([]) cu σ Q = (Q (.inl none) σ) := by
  rw [x34_113]
  rfl
theorem v35_0 {z : P0} {st : List Value} {cu : Nat × Nat} {Q : Res → Mem → Prop} {σ : Mem} {x0 x1 x3 x4 : Option Value} {u : Int32} : X z 35 0 [x0, x1, some (.int u), x3, x4] (st) cu σ Q = (X z 35 1 [x0, x1, some (.int u), x3, x4] (.int u :: st) cu σ Q) := by
  rw [x35_0]
  rfl
theorem v35_1 {z : P0} {st : List Value} {cu : Nat × Nat} {Q : Res → Mem → Prop} {σ : Mem} {x0 x1 x2 x3 x4 : Option Value} : X z 35 1 [x0, x1, x2, x3, x4] (st) cu σ Q = (X z 35 2 [x0, x1, x2, x3, x4] (.int (nI 4294967295) :: st) cu σ Q) := by
  rw [x35_1]
  rw [neg1]
  rfl
theorem v35_2 {z : P0} {st : List Value} {cu : Nat × Nat} {Q : Res → Mem → Prop} {σ : Mem} {x0 x1 x2 x3 x4 : Option Value} {u v : Int32} : X z 35 2 [x0, x1, x2, x3, x4] (.int v :: .int u :: st) cu σ Q = (if u = v then X z 35 20 [x0, x1, x2, x3, x4] (st) cu σ Q else X z 35 5 [x0, x1, x2, x3, x4] (st) cu σ Q) := by
  rw [x35_2]
  obtain ⟨K, I, R, L, sz, ex⟩ := σ
  exact br_ite
theorem v35_5 {z : P0} {st : List Value} {cu : Nat × Nat} {Q : Res → Mem → Prop} {σ : Mem} {x0 x1 x3 x4 : Option Value} {u : Int32} : X z 35 5 [x0, x1, some (.int u), x3, x4] (st) cu σ Q = (X z 35 6 [x0, x1, some (.int u), x3, x4] (.int u :: st) cu σ Q) := by
  rw [x35_5]
  rfl
theorem v35_6 {z : P0} {st : List Value} {cu : Nat × Nat} {Q : Res → Mem → Prop} {σ : Mem} {x0 x1 x2 x3 x4 : Option Value} : X z 35 6 [x0, x1, x2, x3, x4] (st) cu σ Q = (X z 35 7 [x0, x1, x2, x3, x4] (.int (nI 1) :: st) cu σ Q) := by
  rw [x35_6]
  rfl
theorem v35_7 {z : P0} {st : List Value} {cu : Nat × Nat} {Q : Res → Mem → Prop} {σ : Mem} {x0 x1 x2 x3 x4 : Option Value} {u v : Int32} : X z 35 7 [x0, x1, x2, x3, x4] (.int v :: .int u :: st) cu σ Q = (X z 35 8 [x0, x1, x2, x3, x4] (.int (u + v) :: st) cu σ Q) := by
  rw [x35_7]
  rfl
theorem v35_8 {z : P0} {st : List Value} {cu : Nat × Nat} {Q : Res → Mem → Prop} {σ : Mem} {x0 x2 x3 x4 : Option Value} {u : Int32} : X z 35 8 [x0, some (.int u), x2, x3, x4] (st) cu σ Q = (X z 35 9 [x0, some (.int u), x2, x3, x4] (.int u :: st) cu σ Q) := by
  rw [x35_8]
  rfl
theorem v35_9 {z : P0} {st : List Value} {cu : Nat × Nat} {Q : Res → Mem → Prop} {σ : Mem} {x0 x1 x2 x3 x4 : Option Value} {u v : Int32} : X z 35 9 [x0, x1, x2, x3, x4] (.int v :: .int u :: st) cu σ Q = (X z 35 10 [x0, x1, x2, x3, x4] (.int (u + v) :: st) cu σ Q) := by
  rw [x35_9]
  rfl
theorem v35_10 {z : P0} {st : List Value} {cu : Nat × Nat} {Q : Res → Mem → Prop} {σ : Mem} {x0 x1 x2 x4 : Option Value} {u : Int32} : X z 35 10 [x0, x1, x2, some (.int u), x4] (st) cu σ Q = (X z 35 11 [x0, x1, x2, some (.int u), x4] (.int u :: st) cu σ Q) := by
  rw [x35_10]
  rfl
theorem v35_11 {z : P0} {st : List Value} {cu : Nat × Nat} {Q : Res → Mem → Prop} {σ : Mem} {x0 x1 x2 x3 x4 : Option Value} {u v : Int32} : X z 35 11 [x0, x1, x2, x3, x4] (.int v :: .int u :: st) cu σ Q = (if v < u then X z 35 20 [x0, x1, x2, x3, x4] (st) cu σ Q else X z 35 14 [x0, x1, x2, x3, x4] (st) cu σ Q) := by
  rw [x35_11]
  obtain ⟨K, I, R, L, sz, ex⟩ := σ
  exact br_ite
theorem v35_14 {z : P0} {st : List Value} {cu : Nat × Nat} {Q : Res → Mem → Prop} {σ : Mem} {x0 x1 x3 x4 : Option Value} {u : Int32} : X z 35 14 [x0, x1, some (.int u), x3, x4] (st) cu σ Q = (X z 35 15 [x0, x1, some (.int u), x3, x4] (.int u :: st) cu σ Q) := by
  rw [x35_14]
  rfl
theorem v35_15 {z : P0} {st : List Value} {cu : Nat × Nat} {Q : Res → Mem → Prop} {σ : Mem} {x0 x1 x2 x3 x4 : Option Value} : X z 35 15 [x0, x1, x2, x3, x4] (st) cu σ Q = (X z 35 16 [x0, x1, x2, x3, x4] (.int (nI 1) :: st) cu σ Q) := by
  rw [x35_15]
  rfl
theorem v35_16 {z : P0} {st : List Value} {cu : Nat × Nat} {Q : Res → Mem → Prop} {σ : Mem} {x0 x1 x2 x3 x4 : Option Value} {u v : Int32} : X z 35 16 [x0, x1, x2, x3, x4] (.int v :: .int u :: st) cu σ Q = (X z 35 17 [x0, x1, x2, x3, x4] (.int (u + v) :: st) cu σ Q) := by
  rw [x35_16]
  rfl
theorem v35_17 {z : P0} {st : List Value} {cu : Nat × Nat} {Q : Res → Mem → Prop} {σ : Mem} {x0 x2 x3 x4 : Option Value} {u : Int32} : X z 35 17 [x0, some (.int u), x2, x3, x4] (st) cu σ Q = (X z 35 18 [x0, some (.int u), x2, x3, x4] (.int u :: st) cu σ Q) := by
  rw [x35_17]
  rfl
theorem v35_18 {z : P0} {st : List Value} {cu : Nat × Nat} {Q : Res → Mem → Prop} {σ : Mem} {x0 x1 x2 x3 x4 : Option Value} {u v : Int32} : X z 35 18 [x0, x1, x2, x3, x4] (.int v :: .int u :: st) cu σ Q = (X z 35 19 [x0, x1, x2, x3, x4] (.int (u + v) :: st) cu σ Q) := by
  rw [x35_18]
  rfl
theorem v35_19 {z : P0} {cu : Nat × Nat} {Q : Res → Mem → Prop} {σ : Mem} {x0 x1 x2 x3 x4 : Option Value} {v : Int32} : X z 35 19 [x0, x1, x2, x3, x4] ([.int v]) cu σ Q = (Q (.inl (some (.int v))) σ) := by
  rw [x35_19]
  exact propext ⟨fun h => h.2, fun h => ⟨trivial, h⟩⟩
theorem v35_20 {z : P0} {st : List Value} {cu : Nat × Nat} {Q : Res → Mem → Prop} {σ : Mem} {x0 x2 x3 x4 : Option Value} {u : Int32} : X z 35 20 [x0, some (.int u), x2, x3, x4] (st) cu σ Q = (X z 35 21 [x0, some (.int u), x2, x3, x4] (.int u :: st) cu σ Q) := by
  rw [x35_20]
  rfl
theorem v35_21 {z : P0} {st : List Value} {cu : Nat × Nat} {Q : Res → Mem → Prop} {σ : Mem} {x0 x1 x2 x4 : Option Value} {u : Int32} : X z 35 21 [x0, x1, x2, some (.int u), x4] (st) cu σ Q = (X z 35 22 [x0, x1, x2, some (.int u), x4] (.int u :: st) cu σ Q) := by
  rw [x35_21]
  rfl
theorem v35_22 {z : P0} {st : List Value} {cu : Nat × Nat} {Q : Res → Mem → Prop} {σ : Mem} {x0 x1 x2 x3 x4 : Option Value} {u v : Int32} : X z 35 22 [x0, x1, x2, x3, x4] (.int v :: .int u :: st) cu σ Q = (if v < u then X z 35 25 [x0, x1, x2, x3, x4] (st) cu σ Q else X z 35 30 [x0, x1, x2, x3, x4] (st) cu σ Q) := by
  rw [x35_22]
  obtain ⟨K, I, R, L, sz, ex⟩ := σ
  exact br_ge
theorem v35_25 {z : P0} {st : List Value} {cu : Nat × Nat} {Q : Res → Mem → Prop} {σ : Mem} {x0 x1 x2 x4 : Option Value} {u : Int32} : X z 35 25 [x0, x1, x2, some (.int u), x4] (st) cu σ Q = (X z 35 26 [x0, x1, x2, some (.int u), x4] (.int u :: st) cu σ Q) := by
  rw [x35_25]
  rfl
theorem v35_26 {z : P0} {st : List Value} {cu : Nat × Nat} {Q : Res → Mem → Prop} {σ : Mem} {x0 x1 x2 x3 x4 : Option Value} : X z 35 26 [x0, x1, x2, x3, x4] (st) cu σ Q = (X z 35 27 [x0, x1, x2, x3, x4] (.int (nI 1) :: st) cu σ Q) := by
  rw [x35_26]
  rfl
theorem v35_27 {z : P0} {st : List Value} {cu : Nat × Nat} {Q : Res → Mem → Prop} {σ : Mem} {x0 x1 x2 x3 x4 : Option Value} {u v : Int32} : X z 35 27 [x0, x1, x2, x3, x4] (.int v :: .int u :: st) cu σ Q = (if u < v then X z 35 30 [x0, x1, x2, x3, x4] (st) cu σ Q else X z 35 42 [x0, x1, x2, x3, x4] (st) cu σ Q) := by
  rw [x35_27]
  obtain ⟨K, I, R, L, sz, ex⟩ := σ
  exact br_ge
theorem v35_30 {z : P0} {st : List Value} {cu : Nat × Nat} {Q : Res → Mem → Prop} {σ : Mem} {x1 x2 x3 x4 : Option Value} {u : Nat} : X z 35 30 [some (.ref u), x1, x2, x3, x4] (st) cu σ Q = (X z 35 31 [some (.ref u), x1, x2, x3, x4] (.ref u :: st) cu σ Q) := by
  rw [x35_30]
  rfl
theorem v35_31 {z : P0} {st : List Value} {cu : Nat × Nat} {Q : Res → Mem → Prop} {σ : Mem} {x0 x1 x2 x3 x4 : Option Value} {u : Nat} : X z 35 31 [x0, x1, x2, x3, x4] (.ref u :: st) cu σ Q = (X z 35 32 [x0, x1, x2, x3, x4] (.ref u :: .ref u :: st) cu σ Q) := by
  rw [x35_31]
  exact propext ⟨fun h => h.2, fun h => ⟨rfl, h⟩⟩
theorem v35_31i {z : P0} {st : List Value} {cu : Nat × Nat} {Q : Res → Mem → Prop} {σ : Mem} {x0 x1 x2 x3 x4 : Option Value} {u : Int32} : X z 35 31 [x0, x1, x2, x3, x4] (.int u :: st) cu σ Q = (X z 35 32 [x0, x1, x2, x3, x4] (.int u :: .int u :: st) cu σ Q) := by
  rw [x35_31]
  exact propext ⟨fun h => h.2, fun h => ⟨rfl, h⟩⟩
theorem v35_32 {z : P0} {st : List Value} {cu : Nat × Nat} {Q : Res → Mem → Prop} {K : Nat → Nat × Nat} {I : Nat → Nat → Int32} {R : Nat → Nat → Option Nat} {L : Nat → Nat → Int64} {sz : Nat} {ex : Bool} {x0 x1 x2 x3 x4 : Option Value} {u : Nat} : X z 35 32 [x0, x1, x2, x3, x4] (.ref u :: st) cu (K, I, R, L, sz, ex) Q = ((K u).1 = 105 ∧ X z 35 35 [x0, x1, x2, x3, x4] (.int (I u 3) :: st) cu (K, I, R, L, sz, ex) Q) := by
  rw [x35_32]
  rfl
theorem v35_35 {z : P0} {st : List Value} {cu : Nat × Nat} {Q : Res → Mem → Prop} {σ : Mem} {x0 x1 x2 x3 x4 : Option Value} : X z 35 35 [x0, x1, x2, x3, x4] (st) cu σ Q = (X z 35 36 [x0, x1, x2, x3, x4] (.int (nI 1) :: st) cu σ Q) := by
  rw [x35_35]
  rfl
theorem v35_36 {z : P0} {st : List Value} {cu : Nat × Nat} {Q : Res → Mem → Prop} {σ : Mem} {x0 x1 x2 x3 x4 : Option Value} {u v : Int32} : X z 35 36 [x0, x1, x2, x3, x4] (.int v :: .int u :: st) cu σ Q = (X z 35 37 [x0, x1, x2, x3, x4] (.int (u + v) :: st) cu σ Q) := by
  rw [x35_36]
  rfl
theorem v35_37 {z : P0} {st : List Value} {cu : Nat × Nat} {Q : Res → Mem → Prop} {K : Nat → Nat × Nat} {I : Nat → Nat → Int32} {R : Nat → Nat → Option Nat} {L : Nat → Nat → Int64} {sz : Nat} {ex : Bool} {x0 x1 x2 x3 x4 : Option Value} {u : Nat} {v : Int32} : X z 35 37 [x0, x1, x2, x3, x4] (.int v :: .ref u :: st) cu (K, I, R, L, sz, ex) Q = ((K u).1 = 105 ∧ X z 35 40 [x0, x1, x2, x3, x4] (st) cu (K, up2 I u 3 v, R, L, sz, ex) Q) := by
  rw [x35_37]
  exact i_putI
theorem v35_40 {z : P0} {st : List Value} {cu : Nat × Nat} {Q : Res → Mem → Prop} {σ : Mem} {x0 x2 x3 x4 : Option Value} {u : Int32} : X z 35 40 [x0, some (.int u), x2, x3, x4] (st) cu σ Q = (X z 35 41 [x0, some (.int u), x2, x3, x4] (.int u :: st) cu σ Q) := by
  rw [x35_40]
  rfl
theorem v35_41 {z : P0} {cu : Nat × Nat} {Q : Res → Mem → Prop} {σ : Mem} {x0 x1 x2 x3 x4 : Option Value} {v : Int32} : X z 35 41 [x0, x1, x2, x3, x4] ([.int v]) cu σ Q = (Q (.inl (some (.int v))) σ) := by
  rw [x35_41]
  exact propext ⟨fun h => h.2, fun h => ⟨trivial, h⟩⟩
theorem v35_42 {z : P0} {st : List Value} {cu : Nat × Nat} {Q : Res → Mem → Prop} {σ : Mem} {x0 x2 x3 x4 : Option Value} {u : Int32} : X z 35 42 [x0, some (.int u), x2, x3, x4] (st) cu σ Q = (X z 35 43 [x0, some (.int u), x2, x3, x4] (.int u :: st) cu σ Q) := by
  rw [x35_42]
  rfl
theorem v35_43 {z : P0} {st : List Value} {cu : Nat × Nat} {Q : Res → Mem → Prop} {σ : Mem} {x0 x1 x2 x4 : Option Value} {u : Int32} : X z 35 43 [x0, x1, x2, some (.int u), x4] (st) cu σ Q = (X z 35 44 [x0, x1, x2, some (.int u), x4] (.int u :: st) cu σ Q) := by
  rw [x35_43]
  rfl
theorem v35_44 {z : P0} {st : List Value} {cu : Nat × Nat} {Q : Res → Mem → Prop} {σ : Mem} {x0 x1 x2 x3 x4 : Option Value} {u v : Int32} : X z 35 44 [x0, x1, x2, x3, x4] (.int v :: .int u :: st) cu σ Q = (¬ v = 0 ∧ X z 35 45 [x0, x1, x2, x3, x4] (.int (u - u / v * v) :: st) cu σ Q) := by
  rw [x35_44]
  rfl
theorem v35_45 {z : P0} {st : List Value} {cu : Nat × Nat} {Q : Res → Mem → Prop} {σ : Mem} {x0 x1 x2 x3 x4 : Option Value} {u : Int32} : X z 35 45 [x0, x1, x2, x3, x4] (.int u :: st) cu σ Q = (cat2 x3 = false ∧ X z 35 47 [x0, x1, x2, x3, some (.int u)] (st) cu σ Q) := by
  rw [x35_45]
  obtain ⟨K, I, R, L, sz, ex⟩ := σ
  exact i_istore.trans sl_4
theorem v35_47 {z : P0} {st : List Value} {cu : Nat × Nat} {Q : Res → Mem → Prop} {σ : Mem} {x1 x2 x3 x4 : Option Value} {u : Nat} : X z 35 47 [some (.ref u), x1, x2, x3, x4] (st) cu σ Q = (X z 35 48 [some (.ref u), x1, x2, x3, x4] (.ref u :: st) cu σ Q) := by
  rw [x35_47]
  rfl
theorem v35_48 {z : P0} {st : List Value} {cu : Nat × Nat} {Q : Res → Mem → Prop} {σ : Mem} {x0 x1 x2 x3 x4 : Option Value} {u : Nat} : X z 35 48 [x0, x1, x2, x3, x4] (.ref u :: st) cu σ Q = (X z 35 49 [x0, x1, x2, x3, x4] (.ref u :: .ref u :: st) cu σ Q) := by
  rw [x35_48]
  exact propext ⟨fun h => h.2, fun h => ⟨rfl, h⟩⟩
theorem v35_48i {z : P0} {st : List Value} {cu : Nat × Nat} {Q : Res → Mem → Prop} {σ : Mem} {x0 x1 x2 x3 x4 : Option Value} {u : Int32} : X z 35 48 [x0, x1, x2, x3, x4] (.int u :: st) cu σ Q = (X z 35 49 [x0, x1, x2, x3, x4] (.int u :: .int u :: st) cu σ Q) := by
  rw [x35_48]
  exact propext ⟨fun h => h.2, fun h => ⟨rfl, h⟩⟩
theorem v35_49 {z : P0} {st : List Value} {cu : Nat × Nat} {Q : Res → Mem → Prop} {K : Nat → Nat × Nat} {I : Nat → Nat → Int32} {R : Nat → Nat → Option Nat} {L : Nat → Nat → Int64} {sz : Nat} {ex : Bool} {x0 x1 x2 x3 x4 : Option Value} {u : Nat} : X z 35 49 [x0, x1, x2, x3, x4] (.ref u :: st) cu (K, I, R, L, sz, ex) Q = ((K u).1 = 105 ∧ X z 35 52 [x0, x1, x2, x3, x4] (.int (I u 3) :: st) cu (K, I, R, L, sz, ex) Q) := by
  rw [x35_49]
  rfl
theorem v35_52 {z : P0} {st : List Value} {cu : Nat × Nat} {Q : Res → Mem → Prop} {σ : Mem} {x0 x2 x3 x4 : Option Value} {u : Int32} : X z 35 52 [x0, some (.int u), x2, x3, x4] (st) cu σ Q = (X z 35 53 [x0, some (.int u), x2, x3, x4] (.int u :: st) cu σ Q) := by
  rw [x35_52]
  rfl
theorem v35_53 {z : P0} {st : List Value} {cu : Nat × Nat} {Q : Res → Mem → Prop} {σ : Mem} {x0 x1 x2 x4 : Option Value} {u : Int32} : X z 35 53 [x0, x1, x2, some (.int u), x4] (st) cu σ Q = (X z 35 54 [x0, x1, x2, some (.int u), x4] (.int u :: st) cu σ Q) := by
  rw [x35_53]
  rfl
theorem v35_54 {z : P0} {st : List Value} {cu : Nat × Nat} {Q : Res → Mem → Prop} {σ : Mem} {x0 x1 x2 x3 x4 : Option Value} {u v : Int32} : X z 35 54 [x0, x1, x2, x3, x4] (.int v :: .int u :: st) cu σ Q = (¬ v = 0 ∧ X z 35 55 [x0, x1, x2, x3, x4] (.int (u / v) :: st) cu σ Q) := by
  rw [x35_54]
  rfl
theorem v35_55 {z : P0} {st : List Value} {cu : Nat × Nat} {Q : Res → Mem → Prop} {σ : Mem} {x0 x1 x2 x3 : Option Value} {u : Int32} : X z 35 55 [x0, x1, x2, x3, some (.int u)] (st) cu σ Q = (X z 35 57 [x0, x1, x2, x3, some (.int u)] (.int u :: st) cu σ Q) := by
  rw [x35_55]
  rfl
theorem v35_57 {z : P0} {st : List Value} {cu : Nat × Nat} {Q : Res → Mem → Prop} {σ : Mem} {x0 x1 x2 x3 x4 : Option Value} {u : Int32} : X z 35 57 [x0, x1, x2, x3, x4] (.int u :: st) cu σ Q = (if nI 0 < u then X z 35 60 [x0, x1, x2, x3, x4] (st) cu σ Q else X z 35 64 [x0, x1, x2, x3, x4] (st) cu σ Q) := by
  rw [x35_57]
  rw [nI_0]
  obtain ⟨K, I, R, L, sz, ex⟩ := σ
  exact br_ge
theorem v35_60 {z : P0} {st : List Value} {cu : Nat × Nat} {Q : Res → Mem → Prop} {σ : Mem} {x0 x1 x2 x3 x4 : Option Value} : X z 35 60 [x0, x1, x2, x3, x4] (st) cu σ Q = (X z 35 61 [x0, x1, x2, x3, x4] (.int (nI 1) :: st) cu σ Q) := by
  rw [x35_60]
  rfl
theorem v35_61 {z : P0} {st : List Value} {cu : Nat × Nat} {Q : Res → Mem → Prop} {σ : Mem} {x0 x1 x2 x3 x4 : Option Value} : X z 35 61 [x0, x1, x2, x3, x4] (st) cu σ Q = (X z 35 65 [x0, x1, x2, x3, x4] (st) cu σ Q) := by
  rw [x35_61]
  rfl
theorem v35_64 {z : P0} {st : List Value} {cu : Nat × Nat} {Q : Res → Mem → Prop} {σ : Mem} {x0 x1 x2 x3 x4 : Option Value} : X z 35 64 [x0, x1, x2, x3, x4] (st) cu σ Q = (X z 35 65 [x0, x1, x2, x3, x4] (.int (nI 0) :: st) cu σ Q) := by
  rw [x35_64]
  rfl
theorem v35_65 {z : P0} {st : List Value} {cu : Nat × Nat} {Q : Res → Mem → Prop} {σ : Mem} {x0 x1 x2 x3 x4 : Option Value} {u v : Int32} : X z 35 65 [x0, x1, x2, x3, x4] (.int v :: .int u :: st) cu σ Q = (X z 35 66 [x0, x1, x2, x3, x4] (.int (u + v) :: st) cu σ Q) := by
  rw [x35_65]
  rfl
theorem v35_66 {z : P0} {st : List Value} {cu : Nat × Nat} {Q : Res → Mem → Prop} {σ : Mem} {x0 x1 x2 x3 x4 : Option Value} {u v : Int32} : X z 35 66 [x0, x1, x2, x3, x4] (.int v :: .int u :: st) cu σ Q = (X z 35 67 [x0, x1, x2, x3, x4] (.int (u + v) :: st) cu σ Q) := by
  rw [x35_66]
  rfl
theorem v35_67 {z : P0} {st : List Value} {cu : Nat × Nat} {Q : Res → Mem → Prop} {K : Nat → Nat × Nat} {I : Nat → Nat → Int32} {R : Nat → Nat → Option Nat} {L : Nat → Nat → Int64} {sz : Nat} {ex : Bool} {x0 x1 x2 x3 x4 : Option Value} {u : Nat} {v : Int32} : X z 35 67 [x0, x1, x2, x3, x4] (.int v :: .ref u :: st) cu (K, I, R, L, sz, ex) Q = ((K u).1 = 105 ∧ X z 35 70 [x0, x1, x2, x3, x4] (st) cu (K, up2 I u 3 v, R, L, sz, ex) Q) := by
  rw [x35_67]
  exact i_putI
theorem v35_70 {z : P0} {st : List Value} {cu : Nat × Nat} {Q : Res → Mem → Prop} {σ : Mem} {x0 x1 x2 x3 : Option Value} {u : Int32} : X z 35 70 [x0, x1, x2, x3, some (.int u)] (st) cu σ Q = (X z 35 72 [x0, x1, x2, x3, some (.int u)] (.int u :: st) cu σ Q) := by
  rw [x35_70]
  rfl
theorem v35_72 {z : P0} {st : List Value} {cu : Nat × Nat} {Q : Res → Mem → Prop} {σ : Mem} {x0 x1 x2 x3 x4 : Option Value} {u : Int32} : X z 35 72 [x0, x1, x2, x3, x4] (.int u :: st) cu σ Q = (if nI 0 < u then X z 35 75 [x0, x1, x2, x3, x4] (st) cu σ Q else X z 35 80 [x0, x1, x2, x3, x4] (st) cu σ Q) := by
  rw [x35_72]
  rw [nI_0]
  obtain ⟨K, I, R, L, sz, ex⟩ := σ
  exact br_ge
theorem v35_75 {z : P0} {st : List Value} {cu : Nat × Nat} {Q : Res → Mem → Prop} {σ : Mem} {x0 x1 x2 x3 : Option Value} {u : Int32} : X z 35 75 [x0, x1, x2, x3, some (.int u)] (st) cu σ Q = (X z 35 77 [x0, x1, x2, x3, some (.int u)] (.int u :: st) cu σ Q) := by
  rw [x35_75]
  rfl
theorem v35_77 {z : P0} {st : List Value} {cu : Nat × Nat} {Q : Res → Mem → Prop} {σ : Mem} {x0 x1 x2 x3 x4 : Option Value} : X z 35 77 [x0, x1, x2, x3, x4] (st) cu σ Q = (X z 35 81 [x0, x1, x2, x3, x4] (st) cu σ Q) := by
  rw [x35_77]
  rfl
theorem v35_80 {z : P0} {st : List Value} {cu : Nat × Nat} {Q : Res → Mem → Prop} {σ : Mem} {x0 x1 x2 x4 : Option Value} {u : Int32} : X z 35 80 [x0, x1, x2, some (.int u), x4] (st) cu σ Q = (X z 35 81 [x0, x1, x2, some (.int u), x4] (.int u :: st) cu σ Q) := by
  rw [x35_80]
  rfl
theorem v35_81 {z : P0} {cu : Nat × Nat} {Q : Res → Mem → Prop} {σ : Mem} {x0 x1 x2 x3 x4 : Option Value} {v : Int32} : X z 35 81 [x0, x1, x2, x3, x4] ([.int v]) cu σ Q = (Q (.inl (some (.int v))) σ) := by
  rw [x35_81]
  exact propext ⟨fun h => h.2, fun h => ⟨trivial, h⟩⟩
theorem v36_0 {z : P0} {st : List Value} {cu : Nat × Nat} {Q : Res → Mem → Prop} {σ : Mem} {x1 x2 x3 : Option Value} {u : Nat} : X z 36 0 [some (.ref u), x1, x2, x3] (st) cu σ Q = (X z 36 1 [some (.ref u), x1, x2, x3] (.ref u :: st) cu σ Q) := by
  rw [x36_0]
  rfl
theorem v36_1 {z : P0} {st : List Value} {cu : Nat × Nat} {Q : Res → Mem → Prop} {σ : Mem} {x0 x1 x2 x3 : Option Value} {u : Nat} : X z 36 1 [x0, x1, x2, x3] (.ref u :: st) cu σ Q = (wsum st ≤ 8 ∧ X z 36 4 [x0, x1, x2, x3] (st) cu σ Q) := by
  rw [x36_1]
  exact propext ⟨fun h => h.2, fun h => ⟨rfl, h⟩⟩
theorem v36_4 {z : P0} {st : List Value} {cu : Nat × Nat} {Q : Res → Mem → Prop} {σ : Mem} {x1 x2 x3 : Option Value} {u : Nat} : X z 36 4 [some (.ref u), x1, x2, x3] (st) cu σ Q = (X z 36 5 [some (.ref u), x1, x2, x3] (.ref u :: st) cu σ Q) := by
  rw [x36_4]
  rfl
theorem v36_5 {z : P0} {st : List Value} {cu : Nat × Nat} {Q : Res → Mem → Prop} {σ : Mem} {x0 x1 x2 x3 : Option Value} : X z 36 5 [x0, x1, x2, x3] (st) cu σ Q = (X z 36 7 [x0, x1, x2, x3] (.int (nI 20) :: st) cu σ Q) := by
  rw [x36_5]
  rfl
theorem v36_7 {z : P0} {st : List Value} {Q : Res → Mem → Prop} {K : Nat → Nat × Nat} {I : Nat → Nat → Int32} {R : Nat → Nat → Option Nat} {L : Nat → Nat → Int64} {sz : Nat} {ex : Bool} {x0 x1 x2 x3 : Option Value} {c n : Nat} {v : Int32} : X z 36 7 [x0, x1, x2, x3] (.int v :: st) (c, n) (K, I, R, L, sz, ex) Q = (ex = true ∧ ¬ v < 0 ∧ v.toNatClampNeg ≤ 3000 ∧ (c + 1 ≤ 45 ∧ n + v.toNatClampNeg ≤ 382) ∧ X z 36 10 [x0, x1, x2, x3] (.ref sz :: st) (c + 1, n + v.toNatClampNeg) (upK K sz (22, v.toNatClampNeg), I, R, L, sz + 1, ex) Q) := by
  rw [x36_7]
  rfl
theorem v36_10 {z : P0} {st : List Value} {cu : Nat × Nat} {Q : Res → Mem → Prop} {K : Nat → Nat × Nat} {I : Nat → Nat → Int32} {R : Nat → Nat → Option Nat} {L : Nat → Nat → Int64} {sz : Nat} {ex : Bool} {x0 x1 x2 x3 : Option Value} {u v : Nat} : X z 36 10 [x0, x1, x2, x3] (.ref v :: .ref u :: st) cu (K, I, R, L, sz, ex) Q = ((K u).1 = 106 ∧ X z 36 13 [x0, x1, x2, x3] (st) cu (K, I, up2 R u 0 (some v), L, sz, ex) Q) := by
  rw [x36_10]
  exact i_putA
theorem v36_13 {z : P0} {st : List Value} {cu : Nat × Nat} {Q : Res → Mem → Prop} {σ : Mem} {x1 x2 x3 : Option Value} {u : Nat} : X z 36 13 [some (.ref u), x1, x2, x3] (st) cu σ Q = (X z 36 14 [some (.ref u), x1, x2, x3] (.ref u :: st) cu σ Q) := by
  rw [x36_13]
  rfl
theorem v36_14 {z : P0} {st : List Value} {cu : Nat × Nat} {Q : Res → Mem → Prop} {σ : Mem} {x0 x1 x2 x3 : Option Value} : X z 36 14 [x0, x1, x2, x3] (st) cu σ Q = (X z 36 16 [x0, x1, x2, x3] (.int (nI 20) :: st) cu σ Q) := by
  rw [x36_14]
  rfl
theorem v36_16 {z : P0} {st : List Value} {Q : Res → Mem → Prop} {K : Nat → Nat × Nat} {I : Nat → Nat → Int32} {R : Nat → Nat → Option Nat} {L : Nat → Nat → Int64} {sz : Nat} {ex : Bool} {x0 x1 x2 x3 : Option Value} {c n : Nat} {v : Int32} : X z 36 16 [x0, x1, x2, x3] (.int v :: st) (c, n) (K, I, R, L, sz, ex) Q = (ex = true ∧ ¬ v < 0 ∧ v.toNatClampNeg ≤ 3000 ∧ (c + 1 ≤ 45 ∧ n + v.toNatClampNeg ≤ 382) ∧ X z 36 18 [x0, x1, x2, x3] (.ref sz :: st) (c + 1, n + v.toNatClampNeg) (upK K sz (20, v.toNatClampNeg), I, R, L, sz + 1, ex) Q) := by
  rw [x36_16]
  rfl
theorem v36_18 {z : P0} {st : List Value} {cu : Nat × Nat} {Q : Res → Mem → Prop} {K : Nat → Nat × Nat} {I : Nat → Nat → Int32} {R : Nat → Nat → Option Nat} {L : Nat → Nat → Int64} {sz : Nat} {ex : Bool} {x0 x1 x2 x3 : Option Value} {u v : Nat} : X z 36 18 [x0, x1, x2, x3] (.ref v :: .ref u :: st) cu (K, I, R, L, sz, ex) Q = ((K u).1 = 106 ∧ X z 36 21 [x0, x1, x2, x3] (st) cu (K, I, up2 R u 2 (some v), L, sz, ex) Q) := by
  rw [x36_18]
  exact i_putA
theorem v36_21 {z : P0} {st : List Value} {cu : Nat × Nat} {Q : Res → Mem → Prop} {σ : Mem} {x1 x2 x3 : Option Value} {u : Nat} : X z 36 21 [some (.ref u), x1, x2, x3] (st) cu σ Q = (X z 36 22 [some (.ref u), x1, x2, x3] (.ref u :: st) cu σ Q) := by
  rw [x36_21]
  rfl
theorem v36_22 {z : P0} {st : List Value} {cu : Nat × Nat} {Q : Res → Mem → Prop} {σ : Mem} {x0 x1 x2 x3 : Option Value} : X z 36 22 [x0, x1, x2, x3] (st) cu σ Q = (X z 36 24 [x0, x1, x2, x3] (.int (nI 20) :: st) cu σ Q) := by
  rw [x36_22]
  rfl
theorem v36_24 {z : P0} {st : List Value} {Q : Res → Mem → Prop} {K : Nat → Nat × Nat} {I : Nat → Nat → Int32} {R : Nat → Nat → Option Nat} {L : Nat → Nat → Int64} {sz : Nat} {ex : Bool} {x0 x1 x2 x3 : Option Value} {c n : Nat} {v : Int32} : X z 36 24 [x0, x1, x2, x3] (.int v :: st) (c, n) (K, I, R, L, sz, ex) Q = (ex = true ∧ ¬ v < 0 ∧ v.toNatClampNeg ≤ 3000 ∧ (c + 1 ≤ 45 ∧ n + v.toNatClampNeg ≤ 382) ∧ X z 36 26 [x0, x1, x2, x3] (.ref sz :: st) (c + 1, n + v.toNatClampNeg) (upK K sz (20, v.toNatClampNeg), I, R, L, sz + 1, ex) Q) := by
  rw [x36_24]
  rfl
theorem v36_26 {z : P0} {st : List Value} {cu : Nat × Nat} {Q : Res → Mem → Prop} {K : Nat → Nat × Nat} {I : Nat → Nat → Int32} {R : Nat → Nat → Option Nat} {L : Nat → Nat → Int64} {sz : Nat} {ex : Bool} {x0 x1 x2 x3 : Option Value} {u v : Nat} : X z 36 26 [x0, x1, x2, x3] (.ref v :: .ref u :: st) cu (K, I, R, L, sz, ex) Q = ((K u).1 = 106 ∧ X z 36 29 [x0, x1, x2, x3] (st) cu (K, I, up2 R u 3 (some v), L, sz, ex) Q) := by
  rw [x36_26]
  exact i_putA
theorem v36_29 {z : P0} {st : List Value} {cu : Nat × Nat} {Q : Res → Mem → Prop} {σ : Mem} {x1 x2 x3 : Option Value} {u : Nat} : X z 36 29 [some (.ref u), x1, x2, x3] (st) cu σ Q = (X z 36 30 [some (.ref u), x1, x2, x3] (.ref u :: st) cu σ Q) := by
  rw [x36_29]
  rfl
theorem v36_30 {z : P0} {st : List Value} {cu : Nat × Nat} {Q : Res → Mem → Prop} {σ : Mem} {x0 x1 x2 x3 : Option Value} : X z 36 30 [x0, x1, x2, x3] (st) cu σ Q = (X z 36 32 [x0, x1, x2, x3] (.int (nI 41) :: st) cu σ Q) := by
  rw [x36_30]
  rfl
theorem v36_32 {z : P0} {st : List Value} {Q : Res → Mem → Prop} {K : Nat → Nat × Nat} {I : Nat → Nat → Int32} {R : Nat → Nat → Option Nat} {L : Nat → Nat → Int64} {sz : Nat} {ex : Bool} {x0 x1 x2 x3 : Option Value} {c n : Nat} {v : Int32} : X z 36 32 [x0, x1, x2, x3] (.int v :: st) (c, n) (K, I, R, L, sz, ex) Q = (ex = true ∧ ¬ v < 0 ∧ v.toNatClampNeg ≤ 3000 ∧ (c + 1 ≤ 45 ∧ n + v.toNatClampNeg ≤ 382) ∧ X z 36 34 [x0, x1, x2, x3] (.ref sz :: st) (c + 1, n + v.toNatClampNeg) (upK K sz (20, v.toNatClampNeg), I, R, L, sz + 1, ex) Q) := by
  rw [x36_32]
  rfl
theorem v36_34 {z : P0} {st : List Value} {cu : Nat × Nat} {Q : Res → Mem → Prop} {K : Nat → Nat × Nat} {I : Nat → Nat → Int32} {R : Nat → Nat → Option Nat} {L : Nat → Nat → Int64} {sz : Nat} {ex : Bool} {x0 x1 x2 x3 : Option Value} {u v : Nat} : X z 36 34 [x0, x1, x2, x3] (.ref v :: .ref u :: st) cu (K, I, R, L, sz, ex) Q = ((K u).1 = 106 ∧ X z 36 37 [x0, x1, x2, x3] (st) cu (K, I, up2 R u 6 (some v), L, sz, ex) Q) := by
  rw [x36_34]
  exact i_putA
theorem v36_37 {z : P0} {st : List Value} {cu : Nat × Nat} {Q : Res → Mem → Prop} {σ : Mem} {x1 x2 x3 : Option Value} {u : Nat} : X z 36 37 [some (.ref u), x1, x2, x3] (st) cu σ Q = (X z 36 38 [some (.ref u), x1, x2, x3] (.ref u :: st) cu σ Q) := by
  rw [x36_37]
  rfl
theorem v36_38 {z : P0} {st : List Value} {cu : Nat × Nat} {Q : Res → Mem → Prop} {σ : Mem} {x0 x1 x2 x3 : Option Value} : X z 36 38 [x0, x1, x2, x3] (st) cu σ Q = (X z 36 40 [x0, x1, x2, x3] (.int (nI 41) :: st) cu σ Q) := by
  rw [x36_38]
  rfl
theorem v36_40 {z : P0} {st : List Value} {Q : Res → Mem → Prop} {K : Nat → Nat × Nat} {I : Nat → Nat → Int32} {R : Nat → Nat → Option Nat} {L : Nat → Nat → Int64} {sz : Nat} {ex : Bool} {x0 x1 x2 x3 : Option Value} {c n : Nat} {v : Int32} : X z 36 40 [x0, x1, x2, x3] (.int v :: st) (c, n) (K, I, R, L, sz, ex) Q = (ex = true ∧ ¬ v < 0 ∧ v.toNatClampNeg ≤ 3000 ∧ (c + 1 ≤ 45 ∧ n + v.toNatClampNeg ≤ 382) ∧ X z 36 42 [x0, x1, x2, x3] (.ref sz :: st) (c + 1, n + v.toNatClampNeg) (upK K sz (20, v.toNatClampNeg), I, R, L, sz + 1, ex) Q) := by
  rw [x36_40]
  rfl
theorem v36_42 {z : P0} {st : List Value} {cu : Nat × Nat} {Q : Res → Mem → Prop} {K : Nat → Nat × Nat} {I : Nat → Nat → Int32} {R : Nat → Nat → Option Nat} {L : Nat → Nat → Int64} {sz : Nat} {ex : Bool} {x0 x1 x2 x3 : Option Value} {u v : Nat} : X z 36 42 [x0, x1, x2, x3] (.ref v :: .ref u :: st) cu (K, I, R, L, sz, ex) Q = ((K u).1 = 106 ∧ X z 36 45 [x0, x1, x2, x3] (st) cu (K, I, up2 R u 7 (some v), L, sz, ex) Q) := by
  rw [x36_42]
  exact i_putA
theorem v36_45 {z : P0} {st : List Value} {cu : Nat × Nat} {Q : Res → Mem → Prop} {σ : Mem} {x1 x2 x3 : Option Value} {u : Nat} : X z 36 45 [some (.ref u), x1, x2, x3] (st) cu σ Q = (X z 36 46 [some (.ref u), x1, x2, x3] (.ref u :: st) cu σ Q) := by
  rw [x36_45]
  rfl
theorem v36_46 {z : P0} {st : List Value} {cu : Nat × Nat} {Q : Res → Mem → Prop} {σ : Mem} {x0 x2 x3 : Option Value} {u : Nat} : X z 36 46 [x0, some (.ref u), x2, x3] (st) cu σ Q = (X z 36 47 [x0, some (.ref u), x2, x3] (.ref u :: st) cu σ Q) := by
  rw [x36_46]
  rfl
theorem v36_47 {z : P0} {st : List Value} {cu : Nat × Nat} {Q : Res → Mem → Prop} {K : Nat → Nat × Nat} {I : Nat → Nat → Int32} {R : Nat → Nat → Option Nat} {L : Nat → Nat → Int64} {sz : Nat} {ex : Bool} {x0 x1 x2 x3 : Option Value} {u v : Nat} : X z 36 47 [x0, x1, x2, x3] (.ref v :: .ref u :: st) cu (K, I, R, L, sz, ex) Q = ((K u).1 = 106 ∧ X z 36 50 [x0, x1, x2, x3] (st) cu (K, I, up2 R u 4 (some v), L, sz, ex) Q) := by
  rw [x36_47]
  exact i_putA
theorem v36_50 {z : P0} {st : List Value} {cu : Nat × Nat} {Q : Res → Mem → Prop} {σ : Mem} {x1 x2 x3 : Option Value} {u : Nat} : X z 36 50 [some (.ref u), x1, x2, x3] (st) cu σ Q = (X z 36 51 [some (.ref u), x1, x2, x3] (.ref u :: st) cu σ Q) := by
  rw [x36_50]
  rfl
theorem v36_51 {z : P0} {st : List Value} {cu : Nat × Nat} {Q : Res → Mem → Prop} {σ : Mem} {x0 x1 x3 : Option Value} {u : Nat} : X z 36 51 [x0, x1, some (.ref u), x3] (st) cu σ Q = (X z 36 52 [x0, x1, some (.ref u), x3] (.ref u :: st) cu σ Q) := by
  rw [x36_51]
  rfl
theorem v36_52 {z : P0} {st : List Value} {cu : Nat × Nat} {Q : Res → Mem → Prop} {K : Nat → Nat × Nat} {I : Nat → Nat → Int32} {R : Nat → Nat → Option Nat} {L : Nat → Nat → Int64} {sz : Nat} {ex : Bool} {x0 x1 x2 x3 : Option Value} {u v : Nat} : X z 36 52 [x0, x1, x2, x3] (.ref v :: .ref u :: st) cu (K, I, R, L, sz, ex) Q = ((K u).1 = 106 ∧ X z 36 55 [x0, x1, x2, x3] (st) cu (K, I, up2 R u 5 (some v), L, sz, ex) Q) := by
  rw [x36_52]
  exact i_putA
theorem v36_55 {z : P0} {st : List Value} {cu : Nat × Nat} {Q : Res → Mem → Prop} {σ : Mem} {x0 x1 x2 x3 : Option Value} : X z 36 55 [x0, x1, x2, x3] (st) cu σ Q = (X z 36 56 [x0, x1, x2, x3] (.int (nI 0) :: st) cu σ Q) := by
  rw [x36_55]
  rfl
theorem v36_56 {z : P0} {st : List Value} {cu : Nat × Nat} {Q : Res → Mem → Prop} {σ : Mem} {x0 x1 x2 x3 : Option Value} {u : Int32} : X z 36 56 [x0, x1, x2, x3] (.int u :: st) cu σ Q = (cat2 x2 = false ∧ X z 36 57 [x0, x1, x2, some (.int u)] (st) cu σ Q) := by
  rw [x36_56]
  obtain ⟨K, I, R, L, sz, ex⟩ := σ
  exact i_istore_n.trans sl_3
theorem v36_57 {z : P0} {st : List Value} {cu : Nat × Nat} {Q : Res → Mem → Prop} {σ : Mem} {x0 x1 x2 : Option Value} {u : Int32} : X z 36 57 [x0, x1, x2, some (.int u)] (st) cu σ Q = (X z 36 58 [x0, x1, x2, some (.int u)] (.int u :: st) cu σ Q) := by
  rw [x36_57]
  rfl
theorem v36_58 {z : P0} {st : List Value} {cu : Nat × Nat} {Q : Res → Mem → Prop} {σ : Mem} {x0 x1 x2 x3 : Option Value} : X z 36 58 [x0, x1, x2, x3] (st) cu σ Q = (X z 36 60 [x0, x1, x2, x3] (.int (nI 20) :: st) cu σ Q) := by
  rw [x36_58]
  rfl
theorem v36_60 {z : P0} {st : List Value} {cu : Nat × Nat} {Q : Res → Mem → Prop} {σ : Mem} {x0 x1 x2 x3 : Option Value} {u v : Int32} : X z 36 60 [x0, x1, x2, x3] (.int v :: .int u :: st) cu σ Q = (if u < v then X z 36 63 [x0, x1, x2, x3] (st) cu σ Q else X z 36 82 [x0, x1, x2, x3] (st) cu σ Q) := by
  rw [x36_60]
  obtain ⟨K, I, R, L, sz, ex⟩ := σ
  exact br_ge
theorem v36_63 {z : P0} {st : List Value} {cu : Nat × Nat} {Q : Res → Mem → Prop} {σ : Mem} {x1 x2 x3 : Option Value} {u : Nat} : X z 36 63 [some (.ref u), x1, x2, x3] (st) cu σ Q = (X z 36 64 [some (.ref u), x1, x2, x3] (.ref u :: st) cu σ Q) := by
  rw [x36_63]
  rfl
theorem v36_64 {z : P0} {st : List Value} {cu : Nat × Nat} {Q : Res → Mem → Prop} {K : Nat → Nat × Nat} {I : Nat → Nat → Int32} {R : Nat → Nat → Option Nat} {L : Nat → Nat → Int64} {sz : Nat} {ex : Bool} {x0 x1 x2 x3 : Option Value} {u : Nat} : X z 36 64 [x0, x1, x2, x3] (.ref u :: st) cu (K, I, R, L, sz, ex) Q = ((K u).1 = 106 ∧ X z 36 67 [x0, x1, x2, x3] (va_rf (R u 0) :: st) cu (K, I, R, L, sz, ex) Q) := by
  rw [x36_64]
  rfl
theorem v36_67 {z : P0} {st : List Value} {cu : Nat × Nat} {Q : Res → Mem → Prop} {σ : Mem} {x0 x1 x2 : Option Value} {u : Int32} : X z 36 67 [x0, x1, x2, some (.int u)] (st) cu σ Q = (X z 36 68 [x0, x1, x2, some (.int u)] (.int u :: st) cu σ Q) := by
  rw [x36_67]
  rfl
theorem v36_68 {z : P0} {st : List Value} {Q : Res → Mem → Prop} {K : Nat → Nat × Nat} {I : Nat → Nat → Int32} {R : Nat → Nat → Option Nat} {L : Nat → Nat → Int64} {sz : Nat} {ex : Bool} {x0 x1 x2 x3 : Option Value} {c n : Nat} : X z 36 68 [x0, x1, x2, x3] (st) (c, n) (K, I, R, L, sz, ex) Q = (ex = true ∧ (c + 1 ≤ 45 ∧ n + 6 ≤ 382) ∧ X z 36 71 [x0, x1, x2, x3] (.ref sz :: st) (c + 1, n + 6) (upK K sz (102, 0), I, R, L, sz + 1, ex) Q) := by
  rw [x36_68]
  rfl
theorem v36_71 {z : P0} {st : List Value} {cu : Nat × Nat} {Q : Res → Mem → Prop} {σ : Mem} {x0 x1 x2 x3 : Option Value} {u : Nat} : X z 36 71 [x0, x1, x2, x3] (.ref u :: st) cu σ Q = (X z 36 72 [x0, x1, x2, x3] (.ref u :: .ref u :: st) cu σ Q) := by
  rw [x36_71]
  exact propext ⟨fun h => h.2, fun h => ⟨rfl, h⟩⟩
theorem v36_71i {z : P0} {st : List Value} {cu : Nat × Nat} {Q : Res → Mem → Prop} {σ : Mem} {x0 x1 x2 x3 : Option Value} {u : Int32} : X z 36 71 [x0, x1, x2, x3] (.int u :: st) cu σ Q = (X z 36 72 [x0, x1, x2, x3] (.int u :: .int u :: st) cu σ Q) := by
  rw [x36_71]
  exact propext ⟨fun h => h.2, fun h => ⟨rfl, h⟩⟩
theorem u36_72 {z : P0} {ls : Lcs} {st : List Value} {c n : Nat} {K : Nat → Nat × Nat} {I : Nat → Nat → Int32} {R : Nat → Nat → Option Nat} {L : Nat → Nat → Int64} {sz : Nat} {ex : Bool} {Q : Res → Mem → Prop} {x : Nat} : X z 36 72 ls (.ref x :: st) (c, n) (K, I, R, L, sz, ex) Q = ((K x).1 = 102 ∧ wsum st ≤ 8 ∧ c + 1 ≤ 45 ∧ n + 6 ≤ 382 ∧ X z 20 0 [some (.ref x)] [] (0, 0) (K, I, R, L, sz, ex) (aftr (X z) mT 36 72 ls st (c + 1, n + 6) Q)) := v36_72
theorem v36_75 {z : P0} {st : List Value} {cu : Nat × Nat} {Q : Res → Mem → Prop} {K : Nat → Nat × Nat} {I : Nat → Nat → Int32} {R : Nat → Nat → Option Nat} {L : Nat → Nat → Int64} {sz : Nat} {ex : Bool} {x0 x1 x2 x3 : Option Value} {u v : Nat} {j : Int32} : X z 36 75 [x0, x1, x2, x3] (.ref v :: .int j :: .ref u :: st) cu (K, I, R, L, sz, ex) Q = (((K u).1 = 22 ∨ (K u).1 = 23 ∨ (K u).1 = 24 ∨ (K u).1 = 25) ∧ (K v).1 = elC (K u).1 ∧ vp_in j (K u).2 ∧ X z 36 76 [x0, x1, x2, x3] (st) cu (K, I, up2 R u j.toNatClampNeg (some v), L, sz, ex) Q) := by
  rw [x36_75]
  rfl
theorem v36_76 {z : P0} {st : List Value} {cu : Nat × Nat} {Q : Res → Mem → Prop} {σ : Mem} {x0 x1 x2 : Option Value} {u : Int32} : X z 36 76 [x0, x1, x2, some (.int u)] (st) cu σ Q = (cat2 x2 = false ∧ X z 36 79 [x0, x1, x2, some (.int (u + nI 1))] (st) cu σ Q) := by
  rw [x36_76]
  obtain ⟨K, I, R, L, sz, ex⟩ := σ
  exact i_iinc.trans (gl_3.trans (ldI_i.trans sl_3))
theorem v36_79 {z : P0} {st : List Value} {cu : Nat × Nat} {Q : Res → Mem → Prop} {σ : Mem} {x0 x1 x2 x3 : Option Value} : X z 36 79 [x0, x1, x2, x3] (st) cu σ Q = (X z 36 57 [x0, x1, x2, x3] (st) cu σ Q) := by
  rw [x36_79]
  rfl
theorem v36_82 {z : P0} {cu : Nat × Nat} {Q : Res → Mem → Prop} {σ : Mem} {x0 x1 x2 x3 : Option Value} : X z 36 82 [x0, x1, x2, x3] ([]) cu σ Q = (Q (.inl none) σ) := by
  rw [x36_82]
  rfl
theorem v37_0 {z : P0} {st : List Value} {cu : Nat × Nat} {Q : Res → Mem → Prop} {σ : Mem} {x0 : Option Value} {u : Int32} : X z 37 0 [x0, some (.int u)] (st) cu σ Q = (X z 37 1 [x0, some (.int u)] (.int u :: st) cu σ Q) := by
  rw [x37_0]
  rfl
theorem v37_1 {z : P0} {st : List Value} {cu : Nat × Nat} {Q : Res → Mem → Prop} {σ : Mem} {x0 x1 : Option Value} {u : Int32} : X z 37 1 [x0, x1] (.int u :: st) cu σ Q = (if u < nI 0 then X z 37 16 [x0, x1] (st) cu σ Q else X z 37 4 [x0, x1] (st) cu σ Q) := by
  rw [x37_1]
  rw [nI_0]
  obtain ⟨K, I, R, L, sz, ex⟩ := σ
  exact br_ite
theorem v37_4 {z : P0} {st : List Value} {cu : Nat × Nat} {Q : Res → Mem → Prop} {σ : Mem} {x0 : Option Value} {u : Int32} : X z 37 4 [x0, some (.int u)] (st) cu σ Q = (X z 37 5 [x0, some (.int u)] (.int u :: st) cu σ Q) := by
  rw [x37_4]
  rfl
theorem v37_5 {z : P0} {st : List Value} {cu : Nat × Nat} {Q : Res → Mem → Prop} {σ : Mem} {x1 : Option Value} {u : Nat} : X z 37 5 [some (.ref u), x1] (st) cu σ Q = (X z 37 6 [some (.ref u), x1] (.ref u :: st) cu σ Q) := by
  rw [x37_5]
  rfl
theorem v37_6 {z : P0} {st : List Value} {cu : Nat × Nat} {Q : Res → Mem → Prop} {K : Nat → Nat × Nat} {I : Nat → Nat → Int32} {R : Nat → Nat → Option Nat} {L : Nat → Nat → Int64} {sz : Nat} {ex : Bool} {x0 x1 : Option Value} {u : Nat} : X z 37 6 [x0, x1] (.ref u :: st) cu (K, I, R, L, sz, ex) Q = ((K u).1 = 106 ∧ X z 37 9 [x0, x1] (.int (I u 1) :: st) cu (K, I, R, L, sz, ex) Q) := by
  rw [x37_6]
  rfl
theorem v37_9 {z : P0} {st : List Value} {cu : Nat × Nat} {Q : Res → Mem → Prop} {σ : Mem} {x0 x1 : Option Value} {u v : Int32} : X z 37 9 [x0, x1] (.int v :: .int u :: st) cu σ Q = (if u < v then X z 37 12 [x0, x1] (st) cu σ Q else X z 37 16 [x0, x1] (st) cu σ Q) := by
  rw [x37_9]
  obtain ⟨K, I, R, L, sz, ex⟩ := σ
  exact br_ge
theorem v37_12 {z : P0} {st : List Value} {cu : Nat × Nat} {Q : Res → Mem → Prop} {σ : Mem} {x0 x1 : Option Value} : X z 37 12 [x0, x1] (st) cu σ Q = (X z 37 13 [x0, x1] (.int (nI 1) :: st) cu σ Q) := by
  rw [x37_12]
  rfl
theorem v37_13 {z : P0} {st : List Value} {cu : Nat × Nat} {Q : Res → Mem → Prop} {σ : Mem} {x0 x1 : Option Value} : X z 37 13 [x0, x1] (st) cu σ Q = (X z 37 17 [x0, x1] (st) cu σ Q) := by
  rw [x37_13]
  rfl
theorem v37_16 {z : P0} {st : List Value} {cu : Nat × Nat} {Q : Res → Mem → Prop} {σ : Mem} {x0 x1 : Option Value} : X z 37 16 [x0, x1] (st) cu σ Q = (X z 37 17 [x0, x1] (.int (nI 0) :: st) cu σ Q) := by
  rw [x37_16]
  rfl
theorem v37_17 {z : P0} {cu : Nat × Nat} {Q : Res → Mem → Prop} {σ : Mem} {x0 x1 : Option Value} {v : Int32} : X z 37 17 [x0, x1] ([.int v]) cu σ Q = ((v = nI 0 ∨ v = nI 1) ∧ Q (.inl (some (.int v))) σ) := by
  rw [x37_17]
  rw [nI_0, one1]
  rfl
theorem v38_0 {z : P0} {st : List Value} {cu : Nat × Nat} {Q : Res → Mem → Prop} {σ : Mem} {x1 x2 x3 x4 : Option Value} {u : Nat} : X z 38 0 [some (.ref u), x1, x2, x3, x4] (st) cu σ Q = (X z 38 1 [some (.ref u), x1, x2, x3, x4] (.ref u :: st) cu σ Q) := by
  rw [x38_0]
  rfl
theorem v38_1 {z : P0} {st : List Value} {cu : Nat × Nat} {Q : Res → Mem → Prop} {σ : Mem} {x0 x1 x2 x3 x4 : Option Value} : X z 38 1 [x0, x1, x2, x3, x4] (st) cu σ Q = (X z 38 2 [x0, x1, x2, x3, x4] (.int (nI 0) :: st) cu σ Q) := by
  rw [x38_1]
  rfl
theorem v38_2 {z : P0} {st : List Value} {cu : Nat × Nat} {Q : Res → Mem → Prop} {K : Nat → Nat × Nat} {I : Nat → Nat → Int32} {R : Nat → Nat → Option Nat} {L : Nat → Nat → Int64} {sz : Nat} {ex : Bool} {x0 x1 x2 x3 x4 : Option Value} {u : Nat} {v : Int32} : X z 38 2 [x0, x1, x2, x3, x4] (.int v :: .ref u :: st) cu (K, I, R, L, sz, ex) Q = ((K u).1 = 106 ∧ X z 38 5 [x0, x1, x2, x3, x4] (st) cu (K, up2 I u 8 v, R, L, sz, ex) Q) := by
  rw [x38_2]
  exact i_putI
theorem v38_5 {z : P0} {st : List Value} {cu : Nat × Nat} {Q : Res → Mem → Prop} {σ : Mem} {x1 x2 x3 x4 : Option Value} {u : Nat} : X z 38 5 [some (.ref u), x1, x2, x3, x4] (st) cu σ Q = (X z 38 6 [some (.ref u), x1, x2, x3, x4] (.ref u :: st) cu σ Q) := by
  rw [x38_5]
  rfl
theorem v38_6 {z : P0} {st : List Value} {cu : Nat × Nat} {Q : Res → Mem → Prop} {σ : Mem} {x0 x1 x2 x3 x4 : Option Value} : X z 38 6 [x0, x1, x2, x3, x4] (st) cu σ Q = (X z 38 7 [x0, x1, x2, x3, x4] (.int (nI 0) :: st) cu σ Q) := by
  rw [x38_6]
  rfl
theorem v38_7 {z : P0} {st : List Value} {cu : Nat × Nat} {Q : Res → Mem → Prop} {K : Nat → Nat × Nat} {I : Nat → Nat → Int32} {R : Nat → Nat → Option Nat} {L : Nat → Nat → Int64} {sz : Nat} {ex : Bool} {x0 x1 x2 x3 x4 : Option Value} {u : Nat} {v : Int32} : X z 38 7 [x0, x1, x2, x3, x4] (.int v :: .ref u :: st) cu (K, I, R, L, sz, ex) Q = ((K u).1 = 106 ∧ X z 38 10 [x0, x1, x2, x3, x4] (st) cu (K, up2 I u 9 v, R, L, sz, ex) Q) := by
  rw [x38_7]
  exact i_putI
theorem v38_10 {z : P0} {st : List Value} {cu : Nat × Nat} {Q : Res → Mem → Prop} {σ : Mem} {x1 x2 x3 x4 : Option Value} {u : Nat} : X z 38 10 [some (.ref u), x1, x2, x3, x4] (st) cu σ Q = (X z 38 11 [some (.ref u), x1, x2, x3, x4] (.ref u :: st) cu σ Q) := by
  rw [x38_10]
  rfl
theorem v38_11 {z : P0} {st : List Value} {cu : Nat × Nat} {Q : Res → Mem → Prop} {σ : Mem} {x0 x1 x2 x3 x4 : Option Value} : X z 38 11 [x0, x1, x2, x3, x4] (st) cu σ Q = (X z 38 12 [x0, x1, x2, x3, x4] (.int (nI 0) :: st) cu σ Q) := by
  rw [x38_11]
  rfl
theorem v38_12 {z : P0} {st : List Value} {cu : Nat × Nat} {Q : Res → Mem → Prop} {K : Nat → Nat × Nat} {I : Nat → Nat → Int32} {R : Nat → Nat → Option Nat} {L : Nat → Nat → Int64} {sz : Nat} {ex : Bool} {x0 x1 x2 x3 x4 : Option Value} {u : Nat} {v : Int32} : X z 38 12 [x0, x1, x2, x3, x4] (.int v :: .ref u :: st) cu (K, I, R, L, sz, ex) Q = ((K u).1 = 106 ∧ X z 38 15 [x0, x1, x2, x3, x4] (st) cu (K, up2 I u 10 v, R, L, sz, ex) Q) := by
  rw [x38_12]
  exact i_putI
theorem v38_15 {z : P0} {st : List Value} {cu : Nat × Nat} {Q : Res → Mem → Prop} {σ : Mem} {x1 x2 x3 x4 : Option Value} {u : Nat} : X z 38 15 [some (.ref u), x1, x2, x3, x4] (st) cu σ Q = (X z 38 16 [some (.ref u), x1, x2, x3, x4] (.ref u :: st) cu σ Q) := by
  rw [x38_15]
  rfl
theorem v38_16 {z : P0} {st : List Value} {cu : Nat × Nat} {Q : Res → Mem → Prop} {σ : Mem} {x0 x2 x3 x4 : Option Value} {u : Nat} : X z 38 16 [x0, some (.ref u), x2, x3, x4] (st) cu σ Q = (X z 38 17 [x0, some (.ref u), x2, x3, x4] (.ref u :: st) cu σ Q) := by
  rw [x38_16]
  rfl
theorem v38_17 {z : P0} {st : List Value} {cu : Nat × Nat} {Q : Res → Mem → Prop} {σ : Mem} {x0 x1 x3 x4 : Option Value} {u : Nat} : X z 38 17 [x0, x1, some (.ref u), x3, x4] (st) cu σ Q = (X z 38 18 [x0, x1, some (.ref u), x3, x4] (.ref u :: st) cu σ Q) := by
  rw [x38_17]
  rfl
theorem u38_18 {z : P0} {ls : Lcs} {st : List Value} {K : Nat → Nat × Nat} {I : Nat → Nat → Int32} {R : Nat → Nat → Option Nat} {L : Nat → Nat → Int64} {sz : Nat} {ex : Bool} {Q : Res → Mem → Prop} {x : Nat} {a0 : Nat} {a1 : Nat} : X z 38 18 ls (.ref a1 :: .ref a0 :: .ref x :: st) (0, 0) (K, I, R, L, sz, ex) Q = ((K x).1 = 106 ∧ wsum st ≤ 8 ∧ X z 40 0 [some (.ref x), some (.ref a0), some (.ref a1), none, none, none] [] (0, 0) (K, I, R, L, sz, ex) (aftr (X z) mT 38 18 ls st (0, 0) Q)) := v38_18 (c := 0) (n := 0)
theorem v38_21 {z : P0} {st : List Value} {cu : Nat × Nat} {Q : Res → Mem → Prop} {σ : Mem} {x0 x1 x2 x3 x4 : Option Value} : X z 38 21 [x0, x1, x2, x3, x4] (st) cu σ Q = (X z 38 22 [x0, x1, x2, x3, x4] (.int (nI 0) :: st) cu σ Q) := by
  rw [x38_21]
  rfl
theorem v38_22 {z : P0} {st : List Value} {cu : Nat × Nat} {Q : Res → Mem → Prop} {σ : Mem} {x0 x1 x2 x3 x4 : Option Value} {u : Int32} : X z 38 22 [x0, x1, x2, x3, x4] (.int u :: st) cu σ Q = (cat2 x2 = false ∧ X z 38 23 [x0, x1, x2, some (.int u), x4] (st) cu σ Q) := by
  rw [x38_22]
  obtain ⟨K, I, R, L, sz, ex⟩ := σ
  exact i_istore_n.trans sl_3
theorem v38_23 {z : P0} {st : List Value} {cu : Nat × Nat} {Q : Res → Mem → Prop} {σ : Mem} {x0 x1 x2 x4 : Option Value} {u : Int32} : X z 38 23 [x0, x1, x2, some (.int u), x4] (st) cu σ Q = (X z 38 24 [x0, x1, x2, some (.int u), x4] (.int u :: st) cu σ Q) := by
  rw [x38_23]
  rfl
theorem v38_24 {z : P0} {st : List Value} {cu : Nat × Nat} {Q : Res → Mem → Prop} {σ : Mem} {x1 x2 x3 x4 : Option Value} {u : Nat} : X z 38 24 [some (.ref u), x1, x2, x3, x4] (st) cu σ Q = (X z 38 25 [some (.ref u), x1, x2, x3, x4] (.ref u :: st) cu σ Q) := by
  rw [x38_24]
  rfl
theorem v38_25 {z : P0} {st : List Value} {cu : Nat × Nat} {Q : Res → Mem → Prop} {K : Nat → Nat × Nat} {I : Nat → Nat → Int32} {R : Nat → Nat → Option Nat} {L : Nat → Nat → Int64} {sz : Nat} {ex : Bool} {x0 x1 x2 x3 x4 : Option Value} {u : Nat} : X z 38 25 [x0, x1, x2, x3, x4] (.ref u :: st) cu (K, I, R, L, sz, ex) Q = ((K u).1 = 106 ∧ X z 38 28 [x0, x1, x2, x3, x4] (.int (I u 1) :: st) cu (K, I, R, L, sz, ex) Q) := by
  rw [x38_25]
  rfl
theorem v38_28 {z : P0} {st : List Value} {cu : Nat × Nat} {Q : Res → Mem → Prop} {σ : Mem} {x0 x1 x2 x3 x4 : Option Value} {u v : Int32} : X z 38 28 [x0, x1, x2, x3, x4] (.int v :: .int u :: st) cu σ Q = (if u < v then X z 38 31 [x0, x1, x2, x3, x4] (st) cu σ Q else X z 38 134 [x0, x1, x2, x3, x4] (st) cu σ Q) := by
  rw [x38_28]
  obtain ⟨K, I, R, L, sz, ex⟩ := σ
  exact br_ge
theorem v38_31 {z : P0} {st : List Value} {cu : Nat × Nat} {Q : Res → Mem → Prop} {σ : Mem} {x1 x2 x3 x4 : Option Value} {u : Nat} : X z 38 31 [some (.ref u), x1, x2, x3, x4] (st) cu σ Q = (X z 38 32 [some (.ref u), x1, x2, x3, x4] (.ref u :: st) cu σ Q) := by
  rw [x38_31]
  rfl
theorem v38_32 {z : P0} {st : List Value} {cu : Nat × Nat} {Q : Res → Mem → Prop} {K : Nat → Nat × Nat} {I : Nat → Nat → Int32} {R : Nat → Nat → Option Nat} {L : Nat → Nat → Int64} {sz : Nat} {ex : Bool} {x0 x1 x2 x3 x4 : Option Value} {u : Nat} : X z 38 32 [x0, x1, x2, x3, x4] (.ref u :: st) cu (K, I, R, L, sz, ex) Q = ((K u).1 = 106 ∧ X z 38 35 [x0, x1, x2, x3, x4] (va_rf (R u 0) :: st) cu (K, I, R, L, sz, ex) Q) := by
  rw [x38_32]
  rfl
theorem v38_35 {z : P0} {st : List Value} {cu : Nat × Nat} {Q : Res → Mem → Prop} {σ : Mem} {x0 x1 x2 x4 : Option Value} {u : Int32} : X z 38 35 [x0, x1, x2, some (.int u), x4] (st) cu σ Q = (X z 38 36 [x0, x1, x2, some (.int u), x4] (.int u :: st) cu σ Q) := by
  rw [x38_35]
  rfl
theorem v38_36 {z : P0} {st : List Value} {cu : Nat × Nat} {Q : Res → Mem → Prop} {K : Nat → Nat × Nat} {I : Nat → Nat → Int32} {R : Nat → Nat → Option Nat} {L : Nat → Nat → Int64} {sz : Nat} {ex : Bool} {x0 x1 x2 x3 x4 : Option Value} {u : Nat} {v : Int32} : X z 38 36 [x0, x1, x2, x3, x4] (.int v :: .ref u :: st) cu (K, I, R, L, sz, ex) Q = (((K u).1 = 22 ∨ (K u).1 = 23 ∨ (K u).1 = 24 ∨ (K u).1 = 25) ∧ vp_in v (K u).2 ∧ X z 38 37 [x0, x1, x2, x3, x4] (va_rf (R u v.toNatClampNeg) :: st) cu (K, I, R, L, sz, ex) Q) := by
  rw [x38_36]
  rfl
theorem v38_37 {z : P0} {st : List Value} {cu : Nat × Nat} {Q : Res → Mem → Prop} {σ : Mem} {x0 x1 x2 x3 x4 : Option Value} {u : Nat} : X z 38 37 [x0, x1, x2, x3, x4] (.ref u :: st) cu σ Q = (cat2 x3 = false ∧ X z 38 39 [x0, x1, x2, x3, some (.ref u)] (st) cu σ Q) := by
  rw [x38_37]
  obtain ⟨K, I, R, L, sz, ex⟩ := σ
  exact i_astore.trans sl_4
theorem v38_39 {z : P0} {st : List Value} {cu : Nat × Nat} {Q : Res → Mem → Prop} {σ : Mem} {x1 x2 x3 x4 : Option Value} {u : Nat} : X z 38 39 [some (.ref u), x1, x2, x3, x4] (st) cu σ Q = (X z 38 40 [some (.ref u), x1, x2, x3, x4] (.ref u :: st) cu σ Q) := by
  rw [x38_39]
  rfl
theorem v38_40 {z : P0} {st : List Value} {cu : Nat × Nat} {Q : Res → Mem → Prop} {K : Nat → Nat × Nat} {I : Nat → Nat → Int32} {R : Nat → Nat → Option Nat} {L : Nat → Nat → Int64} {sz : Nat} {ex : Bool} {x0 x1 x2 x3 x4 : Option Value} {u : Nat} : X z 38 40 [x0, x1, x2, x3, x4] (.ref u :: st) cu (K, I, R, L, sz, ex) Q = ((K u).1 = 106 ∧ X z 38 43 [x0, x1, x2, x3, x4] (va_rf (R u 4) :: st) cu (K, I, R, L, sz, ex) Q) := by
  rw [x38_40]
  rfl
theorem v38_43 {z : P0} {st : List Value} {cu : Nat × Nat} {Q : Res → Mem → Prop} {σ : Mem} {x0 x2 x3 x4 : Option Value} {u : Nat} : X z 38 43 [x0, some (.ref u), x2, x3, x4] (st) cu σ Q = (X z 38 44 [x0, some (.ref u), x2, x3, x4] (.ref u :: st) cu σ Q) := by
  rw [x38_43]
  rfl
theorem v38_44 {z : P0} {st : List Value} {cu : Nat × Nat} {Q : Res → Mem → Prop} {σ : Mem} {x0 x1 x2 x3 : Option Value} {u : Nat} : X z 38 44 [x0, x1, x2, x3, some (.ref u)] (st) cu σ Q = (X z 38 46 [x0, x1, x2, x3, some (.ref u)] (.ref u :: st) cu σ Q) := by
  rw [x38_44]
  rfl
theorem u38_46 {z : P0} {ls : Lcs} {st : List Value} {K : Nat → Nat × Nat} {I : Nat → Nat → Int32} {R : Nat → Nat → Option Nat} {L : Nat → Nat → Int64} {sz : Nat} {ex : Bool} {Q : Res → Mem → Prop} {x : Nat} {a0 : Nat} {a1 : Nat} : X z 38 46 ls (.ref a1 :: .ref a0 :: .ref x :: st) (0, 0) (K, I, R, L, sz, ex) Q = ((K x).1 = 101 ∧ wsum st ≤ 8 ∧ X z 10 0 [some (.ref x), some (.ref a0), some (.ref a1), none, none, none, none] [] (0, 0) (K, I, R, L, sz, ex) (aftr (X z) mT 38 46 ls st (0, 0) Q)) := v38_46 (c := 0) (n := 0)
theorem v38_49 {z : P0} {st : List Value} {cu : Nat × Nat} {Q : Res → Mem → Prop} {σ : Mem} {x1 x2 x3 x4 : Option Value} {u : Nat} : X z 38 49 [some (.ref u), x1, x2, x3, x4] (st) cu σ Q = (X z 38 50 [some (.ref u), x1, x2, x3, x4] (.ref u :: st) cu σ Q) := by
  rw [x38_49]
  rfl
theorem v38_50 {z : P0} {st : List Value} {cu : Nat × Nat} {Q : Res → Mem → Prop} {K : Nat → Nat × Nat} {I : Nat → Nat → Int32} {R : Nat → Nat → Option Nat} {L : Nat → Nat → Int64} {sz : Nat} {ex : Bool} {x0 x1 x2 x3 x4 : Option Value} {u : Nat} : X z 38 50 [x0, x1, x2, x3, x4] (.ref u :: st) cu (K, I, R, L, sz, ex) Q = ((K u).1 = 106 ∧ X z 38 53 [x0, x1, x2, x3, x4] (va_rf (R u 5) :: st) cu (K, I, R, L, sz, ex) Q) := by
  rw [x38_50]
  rfl
theorem v38_53 {z : P0} {st : List Value} {cu : Nat × Nat} {Q : Res → Mem → Prop} {σ : Mem} {x1 x2 x3 x4 : Option Value} {u : Nat} : X z 38 53 [some (.ref u), x1, x2, x3, x4] (st) cu σ Q = (X z 38 54 [some (.ref u), x1, x2, x3, x4] (.ref u :: st) cu σ Q) := by
  rw [x38_53]
  rfl
theorem v38_54 {z : P0} {st : List Value} {cu : Nat × Nat} {Q : Res → Mem → Prop} {K : Nat → Nat × Nat} {I : Nat → Nat → Int32} {R : Nat → Nat → Option Nat} {L : Nat → Nat → Int64} {sz : Nat} {ex : Bool} {x0 x1 x2 x3 x4 : Option Value} {u : Nat} : X z 38 54 [x0, x1, x2, x3, x4] (.ref u :: st) cu (K, I, R, L, sz, ex) Q = ((K u).1 = 106 ∧ X z 38 57 [x0, x1, x2, x3, x4] (va_rf (R u 4) :: st) cu (K, I, R, L, sz, ex) Q) := by
  rw [x38_54]
  rfl
theorem v38_57 {z : P0} {st : List Value} {cu : Nat × Nat} {Q : Res → Mem → Prop} {K : Nat → Nat × Nat} {I : Nat → Nat → Int32} {R : Nat → Nat → Option Nat} {L : Nat → Nat → Int64} {sz : Nat} {ex : Bool} {x0 x1 x2 x3 x4 : Option Value} {u : Nat} : X z 38 57 [x0, x1, x2, x3, x4] (.ref u :: st) cu (K, I, R, L, sz, ex) Q = ((K u).1 = 101 ∧ X z 38 60 [x0, x1, x2, x3, x4] (va_rf (R u 0) :: st) cu (K, I, R, L, sz, ex) Q) := by
  rw [x38_57]
  rfl
theorem v38_60 {z : P0} {st : List Value} {cu : Nat × Nat} {Q : Res → Mem → Prop} {σ : Mem} {x1 x2 x3 x4 : Option Value} {u : Nat} : X z 38 60 [some (.ref u), x1, x2, x3, x4] (st) cu σ Q = (X z 38 61 [some (.ref u), x1, x2, x3, x4] (.ref u :: st) cu σ Q) := by
  rw [x38_60]
  rfl
theorem v38_61 {z : P0} {st : List Value} {cu : Nat × Nat} {Q : Res → Mem → Prop} {K : Nat → Nat × Nat} {I : Nat → Nat → Int32} {R : Nat → Nat → Option Nat} {L : Nat → Nat → Int64} {sz : Nat} {ex : Bool} {x0 x1 x2 x3 x4 : Option Value} {u : Nat} : X z 38 61 [x0, x1, x2, x3, x4] (.ref u :: st) cu (K, I, R, L, sz, ex) Q = ((K u).1 = 106 ∧ X z 38 64 [x0, x1, x2, x3, x4] (va_rf (R u 4) :: st) cu (K, I, R, L, sz, ex) Q) := by
  rw [x38_61]
  rfl
theorem v38_64 {z : P0} {st : List Value} {cu : Nat × Nat} {Q : Res → Mem → Prop} {K : Nat → Nat × Nat} {I : Nat → Nat → Int32} {R : Nat → Nat → Option Nat} {L : Nat → Nat → Int64} {sz : Nat} {ex : Bool} {x0 x1 x2 x3 x4 : Option Value} {u : Nat} : X z 38 64 [x0, x1, x2, x3, x4] (.ref u :: st) cu (K, I, R, L, sz, ex) Q = ((K u).1 = 101 ∧ X z 38 67 [x0, x1, x2, x3, x4] (.int (I u 1) :: st) cu (K, I, R, L, sz, ex) Q) := by
  rw [x38_64]
  rfl
theorem u38_67 {z : P0} {ls : Lcs} {st : List Value} {K : Nat → Nat × Nat} {I : Nat → Nat → Int32} {R : Nat → Nat → Option Nat} {L : Nat → Nat → Int64} {sz : Nat} {ex : Bool} {Q : Res → Mem → Prop} {x : Nat} {a0 : Nat} {a1 : Int32} : X z 38 67 ls (.int a1 :: .ref a0 :: .ref x :: st) (0, 0) (K, I, R, L, sz, ex) Q = ((K x).1 = 105 ∧ wsum st ≤ 8 ∧ X z 33 0 [some (.ref x), some (.ref a0), some (.int a1), none, none, none] [] (0, 0) (K, I, R, L, sz, ex) (aftr (X z) mT 38 67 ls st (0, 0) Q)) := v38_67 (c := 0) (n := 0)
theorem v38_70 {z : P0} {st : List Value} {cu : Nat × Nat} {Q : Res → Mem → Prop} {σ : Mem} {x1 x2 x3 x4 : Option Value} {u : Nat} : X z 38 70 [some (.ref u), x1, x2, x3, x4] (st) cu σ Q = (X z 38 71 [some (.ref u), x1, x2, x3, x4] (.ref u :: st) cu σ Q) := by
  rw [x38_70]
  rfl
theorem v38_71 {z : P0} {st : List Value} {cu : Nat × Nat} {Q : Res → Mem → Prop} {K : Nat → Nat × Nat} {I : Nat → Nat → Int32} {R : Nat → Nat → Option Nat} {L : Nat → Nat → Int64} {sz : Nat} {ex : Bool} {x0 x1 x2 x3 x4 : Option Value} {u : Nat} : X z 38 71 [x0, x1, x2, x3, x4] (.ref u :: st) cu (K, I, R, L, sz, ex) Q = ((K u).1 = 106 ∧ X z 38 74 [x0, x1, x2, x3, x4] (va_rf (R u 5) :: st) cu (K, I, R, L, sz, ex) Q) := by
  rw [x38_71]
  rfl
theorem v38_74 {z : P0} {st : List Value} {cu : Nat × Nat} {Q : Res → Mem → Prop} {σ : Mem} {x0 x1 x3 x4 : Option Value} {u : Nat} : X z 38 74 [x0, x1, some (.ref u), x3, x4] (st) cu σ Q = (X z 38 75 [x0, x1, some (.ref u), x3, x4] (.ref u :: st) cu σ Q) := by
  rw [x38_74]
  rfl
theorem v38_75 {z : P0} {st : List Value} {cu : Nat × Nat} {Q : Res → Mem → Prop} {σ : Mem} {x0 x1 x2 x3 x4 : Option Value} : X z 38 75 [x0, x1, x2, x3, x4] (st) cu σ Q = (X z 38 76 [x0, x1, x2, x3, x4] (.int (nI 0) :: st) cu σ Q) := by
  rw [x38_75]
  rfl
theorem v38_76 {z : P0} {st : List Value} {cu : Nat × Nat} {Q : Res → Mem → Prop} {K : Nat → Nat × Nat} {I : Nat → Nat → Int32} {R : Nat → Nat → Option Nat} {L : Nat → Nat → Int64} {sz : Nat} {ex : Bool} {x0 x1 x2 x3 x4 : Option Value} {u : Nat} {v : Int32} : X z 38 76 [x0, x1, x2, x3, x4] (.int v :: .ref u :: st) cu (K, I, R, L, sz, ex) Q = (((K u).1 = 20 ∨ (K u).1 = 50) ∧ vp_in v (K u).2 ∧ X z 38 77 [x0, x1, x2, x3, x4] (.int (I u v.toNatClampNeg) :: st) cu (K, I, R, L, sz, ex) Q) := by
  rw [x38_76]
  rfl
theorem v38_77 {z : P0} {st : List Value} {cu : Nat × Nat} {Q : Res → Mem → Prop} {σ : Mem} {x0 x1 x3 x4 : Option Value} {u : Nat} : X z 38 77 [x0, x1, some (.ref u), x3, x4] (st) cu σ Q = (X z 38 78 [x0, x1, some (.ref u), x3, x4] (.ref u :: st) cu σ Q) := by
  rw [x38_77]
  rfl
theorem v38_78 {z : P0} {st : List Value} {cu : Nat × Nat} {Q : Res → Mem → Prop} {σ : Mem} {x0 x1 x2 x3 x4 : Option Value} : X z 38 78 [x0, x1, x2, x3, x4] (st) cu σ Q = (X z 38 79 [x0, x1, x2, x3, x4] (.int (nI 1) :: st) cu σ Q) := by
  rw [x38_78]
  rfl
theorem v38_79 {z : P0} {st : List Value} {cu : Nat × Nat} {Q : Res → Mem → Prop} {K : Nat → Nat × Nat} {I : Nat → Nat → Int32} {R : Nat → Nat → Option Nat} {L : Nat → Nat → Int64} {sz : Nat} {ex : Bool} {x0 x1 x2 x3 x4 : Option Value} {u : Nat} {v : Int32} : X z 38 79 [x0, x1, x2, x3, x4] (.int v :: .ref u :: st) cu (K, I, R, L, sz, ex) Q = (((K u).1 = 20 ∨ (K u).1 = 50) ∧ vp_in v (K u).2 ∧ X z 38 80 [x0, x1, x2, x3, x4] (.int (I u v.toNatClampNeg) :: st) cu (K, I, R, L, sz, ex) Q) := by
  rw [x38_79]
  rfl
theorem u38_80 {z : P0} {ls : Lcs} {st : List Value} {K : Nat → Nat × Nat} {I : Nat → Nat → Int32} {R : Nat → Nat → Option Nat} {L : Nat → Nat → Int64} {sz : Nat} {ex : Bool} {Q : Res → Mem → Prop} {x : Nat} {a0 : Int32} {a1 : Int32} : X z 38 80 ls (.int a1 :: .int a0 :: .ref x :: st) (0, 0) (K, I, R, L, sz, ex) Q = ((K x).1 = 105 ∧ wsum st ≤ 8 ∧ X z 34 0 [some (.ref x), some (.int a0), some (.int a1), none, none, none] [] (0, 0) (K, I, R, L, sz, ex) (aftr (X z) mT 38 80 ls st (0, 0) Q)) := v38_80 (c := 0) (n := 0)
theorem v38_83 {z : P0} {st : List Value} {cu : Nat × Nat} {Q : Res → Mem → Prop} {σ : Mem} {x0 x1 x2 x3 : Option Value} {u : Nat} : X z 38 83 [x0, x1, x2, x3, some (.ref u)] (st) cu σ Q = (X z 38 85 [x0, x1, x2, x3, some (.ref u)] (.ref u :: st) cu σ Q) := by
  rw [x38_83]
  rfl
theorem v38_85 {z : P0} {st : List Value} {cu : Nat × Nat} {Q : Res → Mem → Prop} {σ : Mem} {x1 x2 x3 x4 : Option Value} {u : Nat} : X z 38 85 [some (.ref u), x1, x2, x3, x4] (st) cu σ Q = (X z 38 86 [some (.ref u), x1, x2, x3, x4] (.ref u :: st) cu σ Q) := by
  rw [x38_85]
  rfl
theorem v38_86 {z : P0} {st : List Value} {cu : Nat × Nat} {Q : Res → Mem → Prop} {K : Nat → Nat × Nat} {I : Nat → Nat → Int32} {R : Nat → Nat → Option Nat} {L : Nat → Nat → Int64} {sz : Nat} {ex : Bool} {x0 x1 x2 x3 x4 : Option Value} {u : Nat} : X z 38 86 [x0, x1, x2, x3, x4] (.ref u :: st) cu (K, I, R, L, sz, ex) Q = ((K u).1 = 106 ∧ X z 38 89 [x0, x1, x2, x3, x4] (va_rf (R u 4) :: st) cu (K, I, R, L, sz, ex) Q) := by
  rw [x38_86]
  rfl
theorem v38_89 {z : P0} {st : List Value} {cu : Nat × Nat} {Q : Res → Mem → Prop} {K : Nat → Nat × Nat} {I : Nat → Nat → Int32} {R : Nat → Nat → Option Nat} {L : Nat → Nat → Int64} {sz : Nat} {ex : Bool} {x0 x1 x2 x3 x4 : Option Value} {u : Nat} : X z 38 89 [x0, x1, x2, x3, x4] (.ref u :: st) cu (K, I, R, L, sz, ex) Q = ((K u).1 = 101 ∧ X z 38 92 [x0, x1, x2, x3, x4] (.int (I u 1) :: st) cu (K, I, R, L, sz, ex) Q) := by
  rw [x38_89]
  rfl
theorem v38_92 {z : P0} {st : List Value} {cu : Nat × Nat} {Q : Res → Mem → Prop} {K : Nat → Nat × Nat} {I : Nat → Nat → Int32} {R : Nat → Nat → Option Nat} {L : Nat → Nat → Int64} {sz : Nat} {ex : Bool} {x0 x1 x2 x3 x4 : Option Value} {u : Nat} {v : Int32} : X z 38 92 [x0, x1, x2, x3, x4] (.int v :: .ref u :: st) cu (K, I, R, L, sz, ex) Q = ((K u).1 = 102 ∧ X z 38 95 [x0, x1, x2, x3, x4] (st) cu (K, up2 I u 3 v, R, L, sz, ex) Q) := by
  rw [x38_92]
  exact i_putI
theorem v38_95 {z : P0} {st : List Value} {cu : Nat × Nat} {Q : Res → Mem → Prop} {σ : Mem} {x0 x1 x2 x3 : Option Value} {u : Nat} : X z 38 95 [x0, x1, x2, x3, some (.ref u)] (st) cu σ Q = (X z 38 97 [x0, x1, x2, x3, some (.ref u)] (.ref u :: st) cu σ Q) := by
  rw [x38_95]
  rfl
theorem v38_97 {z : P0} {st : List Value} {cu : Nat × Nat} {Q : Res → Mem → Prop} {σ : Mem} {x1 x2 x3 x4 : Option Value} {u : Nat} : X z 38 97 [some (.ref u), x1, x2, x3, x4] (st) cu σ Q = (X z 38 98 [some (.ref u), x1, x2, x3, x4] (.ref u :: st) cu σ Q) := by
  rw [x38_97]
  rfl
theorem v38_98 {z : P0} {st : List Value} {cu : Nat × Nat} {Q : Res → Mem → Prop} {K : Nat → Nat × Nat} {I : Nat → Nat → Int32} {R : Nat → Nat → Option Nat} {L : Nat → Nat → Int64} {sz : Nat} {ex : Bool} {x0 x1 x2 x3 x4 : Option Value} {u : Nat} : X z 38 98 [x0, x1, x2, x3, x4] (.ref u :: st) cu (K, I, R, L, sz, ex) Q = ((K u).1 = 106 ∧ X z 38 101 [x0, x1, x2, x3, x4] (va_rf (R u 5) :: st) cu (K, I, R, L, sz, ex) Q) := by
  rw [x38_98]
  rfl
theorem v38_101 {z : P0} {st : List Value} {cu : Nat × Nat} {Q : Res → Mem → Prop} {K : Nat → Nat × Nat} {I : Nat → Nat → Int32} {R : Nat → Nat → Option Nat} {L : Nat → Nat → Int64} {sz : Nat} {ex : Bool} {x0 x1 x2 x3 x4 : Option Value} {u : Nat} : X z 38 101 [x0, x1, x2, x3, x4] (.ref u :: st) cu (K, I, R, L, sz, ex) Q = ((K u).1 = 105 ∧ X z 38 104 [x0, x1, x2, x3, x4] (.int (I u 3) :: st) cu (K, I, R, L, sz, ex) Q) := by
  rw [x38_101]
  rfl
theorem v38_104 {z : P0} {st : List Value} {cu : Nat × Nat} {Q : Res → Mem → Prop} {K : Nat → Nat × Nat} {I : Nat → Nat → Int32} {R : Nat → Nat → Option Nat} {L : Nat → Nat → Int64} {sz : Nat} {ex : Bool} {x0 x1 x2 x3 x4 : Option Value} {u : Nat} {v : Int32} : X z 38 104 [x0, x1, x2, x3, x4] (.int v :: .ref u :: st) cu (K, I, R, L, sz, ex) Q = ((K u).1 = 102 ∧ X z 38 107 [x0, x1, x2, x3, x4] (st) cu (K, up2 I u 4 v, R, L, sz, ex) Q) := by
  rw [x38_104]
  exact i_putI
theorem v38_107 {z : P0} {st : List Value} {cu : Nat × Nat} {Q : Res → Mem → Prop} {σ : Mem} {x0 x1 x2 x3 : Option Value} {u : Nat} : X z 38 107 [x0, x1, x2, x3, some (.ref u)] (st) cu σ Q = (X z 38 109 [x0, x1, x2, x3, some (.ref u)] (.ref u :: st) cu σ Q) := by
  rw [x38_107]
  rfl
theorem v38_109 {z : P0} {st : List Value} {cu : Nat × Nat} {Q : Res → Mem → Prop} {σ : Mem} {x1 x2 x3 x4 : Option Value} {u : Nat} : X z 38 109 [some (.ref u), x1, x2, x3, x4] (st) cu σ Q = (X z 38 110 [some (.ref u), x1, x2, x3, x4] (.ref u :: st) cu σ Q) := by
  rw [x38_109]
  rfl
theorem v38_110 {z : P0} {st : List Value} {cu : Nat × Nat} {Q : Res → Mem → Prop} {K : Nat → Nat × Nat} {I : Nat → Nat → Int32} {R : Nat → Nat → Option Nat} {L : Nat → Nat → Int64} {sz : Nat} {ex : Bool} {x0 x1 x2 x3 x4 : Option Value} {u : Nat} : X z 38 110 [x0, x1, x2, x3, x4] (.ref u :: st) cu (K, I, R, L, sz, ex) Q = ((K u).1 = 106 ∧ X z 38 113 [x0, x1, x2, x3, x4] (va_rf (R u 5) :: st) cu (K, I, R, L, sz, ex) Q) := by
  rw [x38_110]
  rfl
theorem v38_113 {z : P0} {st : List Value} {cu : Nat × Nat} {Q : Res → Mem → Prop} {K : Nat → Nat × Nat} {I : Nat → Nat → Int32} {R : Nat → Nat → Option Nat} {L : Nat → Nat → Int64} {sz : Nat} {ex : Bool} {x0 x1 x2 x3 x4 : Option Value} {u : Nat} : X z 38 113 [x0, x1, x2, x3, x4] (.ref u :: st) cu (K, I, R, L, sz, ex) Q = ((K u).1 = 105 ∧ X z 38 116 [x0, x1, x2, x3, x4] (.int (I u 4) :: st) cu (K, I, R, L, sz, ex) Q) := by
  rw [x38_113]
  rfl
theorem v38_116 {z : P0} {st : List Value} {cu : Nat × Nat} {Q : Res → Mem → Prop} {K : Nat → Nat × Nat} {I : Nat → Nat → Int32} {R : Nat → Nat → Option Nat} {L : Nat → Nat → Int64} {sz : Nat} {ex : Bool} {x0 x1 x2 x3 x4 : Option Value} {u : Nat} {v : Int32} : X z 38 116 [x0, x1, x2, x3, x4] (.int v :: .ref u :: st) cu (K, I, R, L, sz, ex) Q = ((K u).1 = 102 ∧ X z 38 119 [x0, x1, x2, x3, x4] (st) cu (K, up2 I u 5 v, R, L, sz, ex) Q) := by
  rw [x38_116]
  exact i_putI
theorem v38_119 {z : P0} {st : List Value} {cu : Nat × Nat} {Q : Res → Mem → Prop} {σ : Mem} {x1 x2 x3 x4 : Option Value} {u : Nat} : X z 38 119 [some (.ref u), x1, x2, x3, x4] (st) cu σ Q = (X z 38 120 [some (.ref u), x1, x2, x3, x4] (.ref u :: st) cu σ Q) := by
  rw [x38_119]
  rfl
theorem v38_120 {z : P0} {st : List Value} {cu : Nat × Nat} {Q : Res → Mem → Prop} {σ : Mem} {x0 x1 x2 x3 : Option Value} {u : Nat} : X z 38 120 [x0, x1, x2, x3, some (.ref u)] (st) cu σ Q = (X z 38 122 [x0, x1, x2, x3, some (.ref u)] (.ref u :: st) cu σ Q) := by
  rw [x38_120]
  rfl
theorem v38_122 {z : P0} {st : List Value} {cu : Nat × Nat} {Q : Res → Mem → Prop} {σ : Mem} {x0 x1 x3 x4 : Option Value} {u : Nat} : X z 38 122 [x0, x1, some (.ref u), x3, x4] (st) cu σ Q = (X z 38 123 [x0, x1, some (.ref u), x3, x4] (.ref u :: st) cu σ Q) := by
  rw [x38_122]
  rfl
theorem v38_123 {z : P0} {st : List Value} {cu : Nat × Nat} {Q : Res → Mem → Prop} {σ : Mem} {x0 x1 x2 x3 x4 : Option Value} : X z 38 123 [x0, x1, x2, x3, x4] (st) cu σ Q = (X z 38 124 [x0, x1, x2, x3, x4] (.int (nI 4) :: st) cu σ Q) := by
  rw [x38_123]
  rfl
theorem v38_124 {z : P0} {st : List Value} {cu : Nat × Nat} {Q : Res → Mem → Prop} {K : Nat → Nat × Nat} {I : Nat → Nat → Int32} {R : Nat → Nat → Option Nat} {L : Nat → Nat → Int64} {sz : Nat} {ex : Bool} {x0 x1 x2 x3 x4 : Option Value} {u : Nat} {v : Int32} : X z 38 124 [x0, x1, x2, x3, x4] (.int v :: .ref u :: st) cu (K, I, R, L, sz, ex) Q = (((K u).1 = 20 ∨ (K u).1 = 50) ∧ vp_in v (K u).2 ∧ X z 38 125 [x0, x1, x2, x3, x4] (.int (I u v.toNatClampNeg) :: st) cu (K, I, R, L, sz, ex) Q) := by
  rw [x38_124]
  rfl
theorem u38_125 {z : P0} {ls : Lcs} {st : List Value} {K : Nat → Nat × Nat} {I : Nat → Nat → Int32} {R : Nat → Nat → Option Nat} {L : Nat → Nat → Int64} {sz : Nat} {ex : Bool} {Q : Res → Mem → Prop} {x : Nat} {a0 : Nat} {a1 : Int32} : X z 38 125 ls (.int a1 :: .ref a0 :: .ref x :: st) (0, 0) (K, I, R, L, sz, ex) Q = ((K x).1 = 106 ∧ wsum st ≤ 8 ∧ X z 42 0 [some (.ref x), some (.ref a0), some (.int a1), none] [] (0, 0) (K, I, R, L, sz, ex) (aftr (X z) mT 38 125 ls st (0, 0) Q)) := v38_125 (c := 0) (n := 0)
theorem v38_128 {z : P0} {st : List Value} {cu : Nat × Nat} {Q : Res → Mem → Prop} {σ : Mem} {x0 x1 x2 x4 : Option Value} {u : Int32} : X z 38 128 [x0, x1, x2, some (.int u), x4] (st) cu σ Q = (cat2 x2 = false ∧ X z 38 131 [x0, x1, x2, some (.int (u + nI 1)), x4] (st) cu σ Q) := by
  rw [x38_128]
  obtain ⟨K, I, R, L, sz, ex⟩ := σ
  exact i_iinc.trans (gl_3.trans (ldI_i.trans sl_3))
theorem v38_131 {z : P0} {st : List Value} {cu : Nat × Nat} {Q : Res → Mem → Prop} {σ : Mem} {x0 x1 x2 x3 x4 : Option Value} : X z 38 131 [x0, x1, x2, x3, x4] (st) cu σ Q = (X z 38 23 [x0, x1, x2, x3, x4] (st) cu σ Q) := by
  rw [x38_131]
  rfl
theorem v38_134 {z : P0} {st : List Value} {cu : Nat × Nat} {Q : Res → Mem → Prop} {σ : Mem} {x1 x2 x3 x4 : Option Value} {u : Nat} : X z 38 134 [some (.ref u), x1, x2, x3, x4] (st) cu σ Q = (X z 38 135 [some (.ref u), x1, x2, x3, x4] (.ref u :: st) cu σ Q) := by
  rw [x38_134]
  rfl
theorem v38_135 {z : P0} {st : List Value} {cu : Nat × Nat} {Q : Res → Mem → Prop} {σ : Mem} {x1 x2 x3 x4 : Option Value} {u : Nat} : X z 38 135 [some (.ref u), x1, x2, x3, x4] (st) cu σ Q = (X z 38 136 [some (.ref u), x1, x2, x3, x4] (.ref u :: st) cu σ Q) := by
  rw [x38_135]
  rfl
theorem v38_136 {z : P0} {st : List Value} {cu : Nat × Nat} {Q : Res → Mem → Prop} {K : Nat → Nat × Nat} {I : Nat → Nat → Int32} {R : Nat → Nat → Option Nat} {L : Nat → Nat → Int64} {sz : Nat} {ex : Bool} {x0 x1 x2 x3 x4 : Option Value} {u : Nat} : X z 38 136 [x0, x1, x2, x3, x4] (.ref u :: st) cu (K, I, R, L, sz, ex) Q = ((K u).1 = 106 ∧ X z 38 139 [x0, x1, x2, x3, x4] (.int (I u 10) :: st) cu (K, I, R, L, sz, ex) Q) := by
  rw [x38_136]
  rfl
theorem v38_139 {z : P0} {st : List Value} {cu : Nat × Nat} {Q : Res → Mem → Prop} {σ : Mem} {x0 x1 x3 x4 : Option Value} {u : Nat} : X z 38 139 [x0, x1, some (.ref u), x3, x4] (st) cu σ Q = (X z 38 140 [x0, x1, some (.ref u), x3, x4] (.ref u :: st) cu σ Q) := by
  rw [x38_139]
  rfl
theorem v38_140 {z : P0} {st : List Value} {cu : Nat × Nat} {Q : Res → Mem → Prop} {σ : Mem} {x0 x1 x2 x3 x4 : Option Value} : X z 38 140 [x0, x1, x2, x3, x4] (st) cu σ Q = (X z 38 141 [x0, x1, x2, x3, x4] (.int (nI 5) :: st) cu σ Q) := by
  rw [x38_140]
  rfl
theorem v38_141 {z : P0} {st : List Value} {cu : Nat × Nat} {Q : Res → Mem → Prop} {K : Nat → Nat × Nat} {I : Nat → Nat → Int32} {R : Nat → Nat → Option Nat} {L : Nat → Nat → Int64} {sz : Nat} {ex : Bool} {x0 x1 x2 x3 x4 : Option Value} {u : Nat} {v : Int32} : X z 38 141 [x0, x1, x2, x3, x4] (.int v :: .ref u :: st) cu (K, I, R, L, sz, ex) Q = (((K u).1 = 20 ∨ (K u).1 = 50) ∧ vp_in v (K u).2 ∧ X z 38 142 [x0, x1, x2, x3, x4] (.int (I u v.toNatClampNeg) :: st) cu (K, I, R, L, sz, ex) Q) := by
  rw [x38_141]
  rfl
theorem v38_142 {z : P0} {st : List Value} {cu : Nat × Nat} {Q : Res → Mem → Prop} {σ : Mem} {x0 x1 x2 x3 x4 : Option Value} {u v : Int32} : X z 38 142 [x0, x1, x2, x3, x4] (.int v :: .int u :: st) cu σ Q = (X z 38 143 [x0, x1, x2, x3, x4] (.int (u * v) :: st) cu σ Q) := by
  rw [x38_142]
  rfl
theorem v38_143 {z : P0} {st : List Value} {cu : Nat × Nat} {Q : Res → Mem → Prop} {K : Nat → Nat × Nat} {I : Nat → Nat → Int32} {R : Nat → Nat → Option Nat} {L : Nat → Nat → Int64} {sz : Nat} {ex : Bool} {x0 x1 x2 x3 x4 : Option Value} {u : Nat} {v : Int32} : X z 38 143 [x0, x1, x2, x3, x4] (.int v :: .ref u :: st) cu (K, I, R, L, sz, ex) Q = ((K u).1 = 106 ∧ X z 38 146 [x0, x1, x2, x3, x4] (st) cu (K, up2 I u 11 v, R, L, sz, ex) Q) := by
  rw [x38_143]
  exact i_putI
theorem v38_146 {z : P0} {cu : Nat × Nat} {Q : Res → Mem → Prop} {σ : Mem} {x0 x1 x2 x3 x4 : Option Value} : X z 38 146 [x0, x1, x2, x3, x4] ([]) cu σ Q = (Q (.inl none) σ) := by
  rw [x38_146]
  rfl
theorem v40_0 {z : P0} {st : List Value} {cu : Nat × Nat} {Q : Res → Mem → Prop} {σ : Mem} {x1 x2 x3 x4 x5 : Option Value} {u : Nat} : X z 40 0 [some (.ref u), x1, x2, x3, x4, x5] (st) cu σ Q = (X z 40 1 [some (.ref u), x1, x2, x3, x4, x5] (.ref u :: st) cu σ Q) := by
  rw [x40_0]
  rfl
theorem v40_1 {z : P0} {st : List Value} {cu : Nat × Nat} {Q : Res → Mem → Prop} {σ : Mem} {x0 x1 x2 x3 x4 x5 : Option Value} : X z 40 1 [x0, x1, x2, x3, x4, x5] (st) cu σ Q = (X z 40 2 [x0, x1, x2, x3, x4, x5] (.int (nI 0) :: st) cu σ Q) := by
  rw [x40_1]
  rfl
theorem v40_2 {z : P0} {st : List Value} {cu : Nat × Nat} {Q : Res → Mem → Prop} {K : Nat → Nat × Nat} {I : Nat → Nat → Int32} {R : Nat → Nat → Option Nat} {L : Nat → Nat → Int64} {sz : Nat} {ex : Bool} {x0 x1 x2 x3 x4 x5 : Option Value} {u : Nat} {v : Int32} : X z 40 2 [x0, x1, x2, x3, x4, x5] (.int v :: .ref u :: st) cu (K, I, R, L, sz, ex) Q = ((K u).1 = 106 ∧ X z 40 5 [x0, x1, x2, x3, x4, x5] (st) cu (K, up2 I u 1 v, R, L, sz, ex) Q) := by
  rw [x40_2]
  exact i_putI
theorem v40_5 {z : P0} {st : List Value} {cu : Nat × Nat} {Q : Res → Mem → Prop} {σ : Mem} {x0 x1 x2 x3 x4 x5 : Option Value} : X z 40 5 [x0, x1, x2, x3, x4, x5] (st) cu σ Q = (X z 40 6 [x0, x1, x2, x3, x4, x5] (.int (nI 0) :: st) cu σ Q) := by
  rw [x40_5]
  rfl
theorem v40_6 {z : P0} {st : List Value} {cu : Nat × Nat} {Q : Res → Mem → Prop} {σ : Mem} {x0 x1 x2 x3 x4 x5 : Option Value} {u : Int32} : X z 40 6 [x0, x1, x2, x3, x4, x5] (.int u :: st) cu σ Q = (cat2 x2 = false ∧ X z 40 7 [x0, x1, x2, some (.int u), x4, x5] (st) cu σ Q) := by
  rw [x40_6]
  obtain ⟨K, I, R, L, sz, ex⟩ := σ
  exact i_istore_n.trans sl_3
theorem v40_7 {z : P0} {st : List Value} {cu : Nat × Nat} {Q : Res → Mem → Prop} {σ : Mem} {x0 x1 x2 x4 x5 : Option Value} {u : Int32} : X z 40 7 [x0, x1, x2, some (.int u), x4, x5] (st) cu σ Q = (X z 40 8 [x0, x1, x2, some (.int u), x4, x5] (.int u :: st) cu σ Q) := by
  rw [x40_7]
  rfl
theorem v40_8 {z : P0} {st : List Value} {cu : Nat × Nat} {Q : Res → Mem → Prop} {σ : Mem} {x0 x2 x3 x4 x5 : Option Value} {u : Nat} : X z 40 8 [x0, some (.ref u), x2, x3, x4, x5] (st) cu σ Q = (X z 40 9 [x0, some (.ref u), x2, x3, x4, x5] (.ref u :: st) cu σ Q) := by
  rw [x40_8]
  rfl
theorem v40_9 {z : P0} {st : List Value} {cu : Nat × Nat} {Q : Res → Mem → Prop} {K : Nat → Nat × Nat} {I : Nat → Nat → Int32} {R : Nat → Nat → Option Nat} {L : Nat → Nat → Int64} {sz : Nat} {ex : Bool} {x0 x1 x2 x3 x4 x5 : Option Value} {u : Nat} : X z 40 9 [x0, x1, x2, x3, x4, x5] (.ref u :: st) cu (K, I, R, L, sz, ex) Q = ((K u).1 = 108 ∧ X z 40 12 [x0, x1, x2, x3, x4, x5] (.int (I u 1) :: st) cu (K, I, R, L, sz, ex) Q) := by
  rw [x40_9]
  rfl
theorem v40_12 {z : P0} {st : List Value} {cu : Nat × Nat} {Q : Res → Mem → Prop} {σ : Mem} {x0 x1 x2 x3 x4 x5 : Option Value} {u v : Int32} : X z 40 12 [x0, x1, x2, x3, x4, x5] (.int v :: .int u :: st) cu σ Q = (if u < v then X z 40 15 [x0, x1, x2, x3, x4, x5] (st) cu σ Q else X z 40 97 [x0, x1, x2, x3, x4, x5] (st) cu σ Q) := by
  rw [x40_12]
  obtain ⟨K, I, R, L, sz, ex⟩ := σ
  exact br_ge
theorem v40_15 {z : P0} {st : List Value} {cu : Nat × Nat} {Q : Res → Mem → Prop} {σ : Mem} {x0 x2 x3 x4 x5 : Option Value} {u : Nat} : X z 40 15 [x0, some (.ref u), x2, x3, x4, x5] (st) cu σ Q = (X z 40 16 [x0, some (.ref u), x2, x3, x4, x5] (.ref u :: st) cu σ Q) := by
  rw [x40_15]
  rfl
theorem v40_16 {z : P0} {st : List Value} {cu : Nat × Nat} {Q : Res → Mem → Prop} {K : Nat → Nat × Nat} {I : Nat → Nat → Int32} {R : Nat → Nat → Option Nat} {L : Nat → Nat → Int64} {sz : Nat} {ex : Bool} {x0 x1 x2 x3 x4 x5 : Option Value} {u : Nat} : X z 40 16 [x0, x1, x2, x3, x4, x5] (.ref u :: st) cu (K, I, R, L, sz, ex) Q = ((K u).1 = 108 ∧ X z 40 19 [x0, x1, x2, x3, x4, x5] (va_rf (R u 0) :: st) cu (K, I, R, L, sz, ex) Q) := by
  rw [x40_16]
  rfl
theorem v40_19 {z : P0} {st : List Value} {cu : Nat × Nat} {Q : Res → Mem → Prop} {σ : Mem} {x0 x1 x2 x4 x5 : Option Value} {u : Int32} : X z 40 19 [x0, x1, x2, some (.int u), x4, x5] (st) cu σ Q = (X z 40 20 [x0, x1, x2, some (.int u), x4, x5] (.int u :: st) cu σ Q) := by
  rw [x40_19]
  rfl
theorem v40_20 {z : P0} {st : List Value} {cu : Nat × Nat} {Q : Res → Mem → Prop} {K : Nat → Nat × Nat} {I : Nat → Nat → Int32} {R : Nat → Nat → Option Nat} {L : Nat → Nat → Int64} {sz : Nat} {ex : Bool} {x0 x1 x2 x3 x4 x5 : Option Value} {u : Nat} {v : Int32} : X z 40 20 [x0, x1, x2, x3, x4, x5] (.int v :: .ref u :: st) cu (K, I, R, L, sz, ex) Q = (((K u).1 = 22 ∨ (K u).1 = 23 ∨ (K u).1 = 24 ∨ (K u).1 = 25) ∧ vp_in v (K u).2 ∧ X z 40 21 [x0, x1, x2, x3, x4, x5] (va_rf (R u v.toNatClampNeg) :: st) cu (K, I, R, L, sz, ex) Q) := by
  rw [x40_20]
  rfl
theorem v40_21 {z : P0} {st : List Value} {cu : Nat × Nat} {Q : Res → Mem → Prop} {σ : Mem} {x0 x1 x2 x3 x4 x5 : Option Value} {u : Nat} : X z 40 21 [x0, x1, x2, x3, x4, x5] (.ref u :: st) cu σ Q = (cat2 x3 = false ∧ X z 40 23 [x0, x1, x2, x3, some (.ref u), x5] (st) cu σ Q) := by
  rw [x40_21]
  obtain ⟨K, I, R, L, sz, ex⟩ := σ
  exact i_astore.trans sl_4
theorem v40_23 {z : P0} {st : List Value} {cu : Nat × Nat} {Q : Res → Mem → Prop} {σ : Mem} {x1 x2 x3 x4 x5 : Option Value} {u : Nat} : X z 40 23 [some (.ref u), x1, x2, x3, x4, x5] (st) cu σ Q = (X z 40 24 [some (.ref u), x1, x2, x3, x4, x5] (.ref u :: st) cu σ Q) := by
  rw [x40_23]
  rfl
theorem v40_24 {z : P0} {st : List Value} {cu : Nat × Nat} {Q : Res → Mem → Prop} {K : Nat → Nat × Nat} {I : Nat → Nat → Int32} {R : Nat → Nat → Option Nat} {L : Nat → Nat → Int64} {sz : Nat} {ex : Bool} {x0 x1 x2 x3 x4 x5 : Option Value} {u : Nat} : X z 40 24 [x0, x1, x2, x3, x4, x5] (.ref u :: st) cu (K, I, R, L, sz, ex) Q = ((K u).1 = 106 ∧ X z 40 27 [x0, x1, x2, x3, x4, x5] (va_rf (R u 2) :: st) cu (K, I, R, L, sz, ex) Q) := by
  rw [x40_24]
  rfl
theorem v40_27 {z : P0} {st : List Value} {cu : Nat × Nat} {Q : Res → Mem → Prop} {σ : Mem} {x0 x1 x2 x4 x5 : Option Value} {u : Int32} : X z 40 27 [x0, x1, x2, some (.int u), x4, x5] (st) cu σ Q = (X z 40 28 [x0, x1, x2, some (.int u), x4, x5] (.int u :: st) cu σ Q) := by
  rw [x40_27]
  rfl
theorem v40_28 {z : P0} {st : List Value} {cu : Nat × Nat} {Q : Res → Mem → Prop} {σ : Mem} {x0 x2 x3 x4 x5 : Option Value} {u : Nat} : X z 40 28 [x0, some (.ref u), x2, x3, x4, x5] (st) cu σ Q = (X z 40 29 [x0, some (.ref u), x2, x3, x4, x5] (.ref u :: st) cu σ Q) := by
  rw [x40_28]
  rfl
theorem v40_29 {z : P0} {st : List Value} {cu : Nat × Nat} {Q : Res → Mem → Prop} {σ : Mem} {x0 x2 x3 x4 x5 : Option Value} {u : Nat} : X z 40 29 [x0, some (.ref u), x2, x3, x4, x5] (st) cu σ Q = (X z 40 30 [x0, some (.ref u), x2, x3, x4, x5] (.ref u :: st) cu σ Q) := by
  rw [x40_29]
  rfl
theorem v40_30 {z : P0} {st : List Value} {cu : Nat × Nat} {Q : Res → Mem → Prop} {K : Nat → Nat × Nat} {I : Nat → Nat → Int32} {R : Nat → Nat → Option Nat} {L : Nat → Nat → Int64} {sz : Nat} {ex : Bool} {x0 x1 x2 x3 x4 x5 : Option Value} {u : Nat} : X z 40 30 [x0, x1, x2, x3, x4, x5] (.ref u :: st) cu (K, I, R, L, sz, ex) Q = ((K u).1 = 108 ∧ X z 40 33 [x0, x1, x2, x3, x4, x5] (.int (I u 6) :: st) cu (K, I, R, L, sz, ex) Q) := by
  rw [x40_30]
  rfl
theorem v40_33 {z : P0} {st : List Value} {cu : Nat × Nat} {Q : Res → Mem → Prop} {σ : Mem} {x0 x1 x2 x3 x5 : Option Value} {u : Nat} : X z 40 33 [x0, x1, x2, x3, some (.ref u), x5] (st) cu σ Q = (X z 40 35 [x0, x1, x2, x3, some (.ref u), x5] (.ref u :: st) cu σ Q) := by
  rw [x40_33]
  rfl
theorem v40_35 {z : P0} {st : List Value} {cu : Nat × Nat} {Q : Res → Mem → Prop} {σ : Mem} {x0 x1 x3 x4 x5 : Option Value} {u : Nat} : X z 40 35 [x0, x1, some (.ref u), x3, x4, x5] (st) cu σ Q = (X z 40 36 [x0, x1, some (.ref u), x3, x4, x5] (.ref u :: st) cu σ Q) := by
  rw [x40_35]
  rfl
theorem v40_36 {z : P0} {st : List Value} {cu : Nat × Nat} {Q : Res → Mem → Prop} {σ : Mem} {x0 x1 x2 x3 x4 x5 : Option Value} : X z 40 36 [x0, x1, x2, x3, x4, x5] (st) cu σ Q = (X z 40 37 [x0, x1, x2, x3, x4, x5] (.int (nI 3) :: st) cu σ Q) := by
  rw [x40_36]
  rfl
theorem v40_37 {z : P0} {st : List Value} {cu : Nat × Nat} {Q : Res → Mem → Prop} {K : Nat → Nat × Nat} {I : Nat → Nat → Int32} {R : Nat → Nat → Option Nat} {L : Nat → Nat → Int64} {sz : Nat} {ex : Bool} {x0 x1 x2 x3 x4 x5 : Option Value} {u : Nat} {v : Int32} : X z 40 37 [x0, x1, x2, x3, x4, x5] (.int v :: .ref u :: st) cu (K, I, R, L, sz, ex) Q = (((K u).1 = 20 ∨ (K u).1 = 50) ∧ vp_in v (K u).2 ∧ X z 40 38 [x0, x1, x2, x3, x4, x5] (.int (I u v.toNatClampNeg) :: st) cu (K, I, R, L, sz, ex) Q) := by
  rw [x40_37]
  rfl
theorem u40_38 {z : P0} {ls : Lcs} {st : List Value} {K : Nat → Nat × Nat} {I : Nat → Nat → Int32} {R : Nat → Nat → Option Nat} {L : Nat → Nat → Int64} {sz : Nat} {ex : Bool} {Q : Res → Mem → Prop} {x : Nat} {a0 : Int32} {a1 : Nat} {a2 : Int32} : X z 40 38 ls (.int a2 :: .ref a1 :: .int a0 :: .ref x :: st) (0, 0) (K, I, R, L, sz, ex) Q = ((K x).1 = 108 ∧ wsum st ≤ 8 ∧ X z 49 0 [some (.ref x), some (.int a0), some (.ref a1), some (.int a2)] [] (0, 0) (K, I, R, L, sz, ex) (aftr (X z) mT 40 38 ls st (0, 0) Q)) := v40_38 (c := 0) (n := 0)
theorem v40_41 {z : P0} {st : List Value} {cu : Nat × Nat} {Q : Res → Mem → Prop} {K : Nat → Nat × Nat} {I : Nat → Nat → Int32} {R : Nat → Nat → Option Nat} {L : Nat → Nat → Int64} {sz : Nat} {ex : Bool} {x0 x1 x2 x3 x4 x5 : Option Value} {u : Nat} {j v : Int32} : X z 40 41 [x0, x1, x2, x3, x4, x5] (.int v :: .int j :: .ref u :: st) cu (K, I, R, L, sz, ex) Q = ((K u).1 = 20 ∧ vp_in j (K u).2 ∧ X z 40 42 [x0, x1, x2, x3, x4, x5] (st) cu (K, up2 I u j.toNatClampNeg v, R, L, sz, ex) Q) := by
  rw [x40_41]
  rfl
theorem v40_42 {z : P0} {st : List Value} {cu : Nat × Nat} {Q : Res → Mem → Prop} {σ : Mem} {x1 x2 x3 x4 x5 : Option Value} {u : Nat} : X z 40 42 [some (.ref u), x1, x2, x3, x4, x5] (st) cu σ Q = (X z 40 43 [some (.ref u), x1, x2, x3, x4, x5] (.ref u :: st) cu σ Q) := by
  rw [x40_42]
  rfl
theorem v40_43 {z : P0} {st : List Value} {cu : Nat × Nat} {Q : Res → Mem → Prop} {K : Nat → Nat × Nat} {I : Nat → Nat → Int32} {R : Nat → Nat → Option Nat} {L : Nat → Nat → Int64} {sz : Nat} {ex : Bool} {x0 x1 x2 x3 x4 x5 : Option Value} {u : Nat} : X z 40 43 [x0, x1, x2, x3, x4, x5] (.ref u :: st) cu (K, I, R, L, sz, ex) Q = ((K u).1 = 106 ∧ X z 40 46 [x0, x1, x2, x3, x4, x5] (va_rf (R u 3) :: st) cu (K, I, R, L, sz, ex) Q) := by
  rw [x40_43]
  rfl
theorem v40_46 {z : P0} {st : List Value} {cu : Nat × Nat} {Q : Res → Mem → Prop} {σ : Mem} {x0 x1 x2 x4 x5 : Option Value} {u : Int32} : X z 40 46 [x0, x1, x2, some (.int u), x4, x5] (st) cu σ Q = (X z 40 47 [x0, x1, x2, some (.int u), x4, x5] (.int u :: st) cu σ Q) := by
  rw [x40_46]
  rfl
theorem v40_47 {z : P0} {st : List Value} {cu : Nat × Nat} {Q : Res → Mem → Prop} {σ : Mem} {x0 x1 x2 x3 x4 x5 : Option Value} : X z 40 47 [x0, x1, x2, x3, x4, x5] (st) cu σ Q = (X z 40 48 [x0, x1, x2, x3, x4, x5] (.int (nI 4294967295) :: st) cu σ Q) := by
  rw [x40_47]
  rw [neg1]
  rfl
theorem v40_48 {z : P0} {st : List Value} {cu : Nat × Nat} {Q : Res → Mem → Prop} {K : Nat → Nat × Nat} {I : Nat → Nat → Int32} {R : Nat → Nat → Option Nat} {L : Nat → Nat → Int64} {sz : Nat} {ex : Bool} {x0 x1 x2 x3 x4 x5 : Option Value} {u : Nat} {j v : Int32} : X z 40 48 [x0, x1, x2, x3, x4, x5] (.int v :: .int j :: .ref u :: st) cu (K, I, R, L, sz, ex) Q = ((K u).1 = 20 ∧ vp_in j (K u).2 ∧ X z 40 49 [x0, x1, x2, x3, x4, x5] (st) cu (K, up2 I u j.toNatClampNeg v, R, L, sz, ex) Q) := by
  rw [x40_48]
  rfl
theorem v40_49 {z : P0} {st : List Value} {cu : Nat × Nat} {Q : Res → Mem → Prop} {σ : Mem} {x1 x2 x3 x4 x5 : Option Value} {u : Nat} : X z 40 49 [some (.ref u), x1, x2, x3, x4, x5] (st) cu σ Q = (X z 40 50 [some (.ref u), x1, x2, x3, x4, x5] (.ref u :: st) cu σ Q) := by
  rw [x40_49]
  rfl
theorem v40_50 {z : P0} {st : List Value} {cu : Nat × Nat} {Q : Res → Mem → Prop} {K : Nat → Nat × Nat} {I : Nat → Nat → Int32} {R : Nat → Nat → Option Nat} {L : Nat → Nat → Int64} {sz : Nat} {ex : Bool} {x0 x1 x2 x3 x4 x5 : Option Value} {u : Nat} : X z 40 50 [x0, x1, x2, x3, x4, x5] (.ref u :: st) cu (K, I, R, L, sz, ex) Q = ((K u).1 = 106 ∧ X z 40 53 [x0, x1, x2, x3, x4, x5] (va_rf (R u 2) :: st) cu (K, I, R, L, sz, ex) Q) := by
  rw [x40_50]
  rfl
theorem v40_53 {z : P0} {st : List Value} {cu : Nat × Nat} {Q : Res → Mem → Prop} {σ : Mem} {x0 x1 x2 x4 x5 : Option Value} {u : Int32} : X z 40 53 [x0, x1, x2, some (.int u), x4, x5] (st) cu σ Q = (X z 40 54 [x0, x1, x2, some (.int u), x4, x5] (.int u :: st) cu σ Q) := by
  rw [x40_53]
  rfl
theorem v40_54 {z : P0} {st : List Value} {cu : Nat × Nat} {Q : Res → Mem → Prop} {K : Nat → Nat × Nat} {I : Nat → Nat → Int32} {R : Nat → Nat → Option Nat} {L : Nat → Nat → Int64} {sz : Nat} {ex : Bool} {x0 x1 x2 x3 x4 x5 : Option Value} {u : Nat} {v : Int32} : X z 40 54 [x0, x1, x2, x3, x4, x5] (.int v :: .ref u :: st) cu (K, I, R, L, sz, ex) Q = (((K u).1 = 20 ∨ (K u).1 = 50) ∧ vp_in v (K u).2 ∧ X z 40 55 [x0, x1, x2, x3, x4, x5] (.int (I u v.toNatClampNeg) :: st) cu (K, I, R, L, sz, ex) Q) := by
  rw [x40_54]
  rfl
theorem v40_55 {z : P0} {st : List Value} {cu : Nat × Nat} {Q : Res → Mem → Prop} {σ : Mem} {x0 x1 x2 x3 x4 x5 : Option Value} {u : Int32} : X z 40 55 [x0, x1, x2, x3, x4, x5] (.int u :: st) cu σ Q = (if u = nI 0 then X z 40 58 [x0, x1, x2, x3, x4, x5] (st) cu σ Q else X z 40 91 [x0, x1, x2, x3, x4, x5] (st) cu σ Q) := by
  rw [x40_55]
  rw [nI_0]
  obtain ⟨K, I, R, L, sz, ex⟩ := σ
  exact br_ne
theorem v40_58 {z : P0} {st : List Value} {cu : Nat × Nat} {Q : Res → Mem → Prop} {σ : Mem} {x1 x2 x3 x4 x5 : Option Value} {u : Nat} : X z 40 58 [some (.ref u), x1, x2, x3, x4, x5] (st) cu σ Q = (X z 40 59 [some (.ref u), x1, x2, x3, x4, x5] (.ref u :: st) cu σ Q) := by
  rw [x40_58]
  rfl
theorem v40_59 {z : P0} {st : List Value} {cu : Nat × Nat} {Q : Res → Mem → Prop} {σ : Mem} {x0 x1 x2 x3 x5 : Option Value} {u : Nat} : X z 40 59 [x0, x1, x2, x3, some (.ref u), x5] (st) cu σ Q = (X z 40 61 [x0, x1, x2, x3, some (.ref u), x5] (.ref u :: st) cu σ Q) := by
  rw [x40_59]
  rfl
theorem v40_61 {z : P0} {st : List Value} {cu : Nat × Nat} {Q : Res → Mem → Prop} {K : Nat → Nat × Nat} {I : Nat → Nat → Int32} {R : Nat → Nat → Option Nat} {L : Nat → Nat → Int64} {sz : Nat} {ex : Bool} {x0 x1 x2 x3 x4 x5 : Option Value} {u : Nat} : X z 40 61 [x0, x1, x2, x3, x4, x5] (.ref u :: st) cu (K, I, R, L, sz, ex) Q = ((K u).1 = 107 ∧ X z 40 64 [x0, x1, x2, x3, x4, x5] (.int (I u 2) :: st) cu (K, I, R, L, sz, ex) Q) := by
  rw [x40_61]
  rfl
theorem v40_64 {z : P0} {st : List Value} {cu : Nat × Nat} {Q : Res → Mem → Prop} {σ : Mem} {x0 x1 x3 x4 x5 : Option Value} {u : Nat} : X z 40 64 [x0, x1, some (.ref u), x3, x4, x5] (st) cu σ Q = (X z 40 65 [x0, x1, some (.ref u), x3, x4, x5] (.ref u :: st) cu σ Q) := by
  rw [x40_64]
  rfl
theorem v40_65 {z : P0} {st : List Value} {cu : Nat × Nat} {Q : Res → Mem → Prop} {σ : Mem} {x0 x1 x2 x3 x4 x5 : Option Value} : X z 40 65 [x0, x1, x2, x3, x4, x5] (st) cu σ Q = (X z 40 66 [x0, x1, x2, x3, x4, x5] (.int (nI 2) :: st) cu σ Q) := by
  rw [x40_65]
  rfl
theorem v40_66 {z : P0} {st : List Value} {cu : Nat × Nat} {Q : Res → Mem → Prop} {K : Nat → Nat × Nat} {I : Nat → Nat → Int32} {R : Nat → Nat → Option Nat} {L : Nat → Nat → Int64} {sz : Nat} {ex : Bool} {x0 x1 x2 x3 x4 x5 : Option Value} {u : Nat} {v : Int32} : X z 40 66 [x0, x1, x2, x3, x4, x5] (.int v :: .ref u :: st) cu (K, I, R, L, sz, ex) Q = (((K u).1 = 20 ∨ (K u).1 = 50) ∧ vp_in v (K u).2 ∧ X z 40 67 [x0, x1, x2, x3, x4, x5] (.int (I u v.toNatClampNeg) :: st) cu (K, I, R, L, sz, ex) Q) := by
  rw [x40_66]
  rfl
theorem u40_67 {z : P0} {ls : Lcs} {st : List Value} {K : Nat → Nat × Nat} {I : Nat → Nat → Int32} {R : Nat → Nat → Option Nat} {L : Nat → Nat → Int64} {sz : Nat} {ex : Bool} {Q : Res → Mem → Prop} {x : Nat} {a0 : Int32} {a1 : Int32} : X z 40 67 ls (.int a1 :: .int a0 :: .ref x :: st) (0, 0) (K, I, R, L, sz, ex) Q = ((K x).1 = 106 ∧ wsum st ≤ 8 ∧ X z 41 0 [some (.ref x), some (.int a0), some (.int a1), none] [] (0, 0) (K, I, R, L, sz, ex) (aftr (X z) mT 40 67 ls st (0, 0) Q)) := v40_67 (c := 0) (n := 0)
theorem v40_70 {z : P0} {st : List Value} {cu : Nat × Nat} {Q : Res → Mem → Prop} {σ : Mem} {x0 x1 x2 x3 x4 x5 : Option Value} {u : Int32} : X z 40 70 [x0, x1, x2, x3, x4, x5] (.int u :: st) cu σ Q = (cat2 x4 = false ∧ X z 40 72 [x0, x1, x2, x3, x4, some (.int u)] (st) cu σ Q) := by
  rw [x40_70]
  obtain ⟨K, I, R, L, sz, ex⟩ := σ
  exact i_istore.trans sl_5
theorem v40_72 {z : P0} {st : List Value} {cu : Nat × Nat} {Q : Res → Mem → Prop} {σ : Mem} {x1 x2 x3 x4 x5 : Option Value} {u : Nat} : X z 40 72 [some (.ref u), x1, x2, x3, x4, x5] (st) cu σ Q = (X z 40 73 [some (.ref u), x1, x2, x3, x4, x5] (.ref u :: st) cu σ Q) := by
  rw [x40_72]
  rfl
theorem v40_73 {z : P0} {st : List Value} {cu : Nat × Nat} {Q : Res → Mem → Prop} {K : Nat → Nat × Nat} {I : Nat → Nat → Int32} {R : Nat → Nat → Option Nat} {L : Nat → Nat → Int64} {sz : Nat} {ex : Bool} {x0 x1 x2 x3 x4 x5 : Option Value} {u : Nat} : X z 40 73 [x0, x1, x2, x3, x4, x5] (.ref u :: st) cu (K, I, R, L, sz, ex) Q = ((K u).1 = 106 ∧ X z 40 76 [x0, x1, x2, x3, x4, x5] (va_rf (R u 3) :: st) cu (K, I, R, L, sz, ex) Q) := by
  rw [x40_73]
  rfl
theorem v40_76 {z : P0} {st : List Value} {cu : Nat × Nat} {Q : Res → Mem → Prop} {σ : Mem} {x0 x1 x2 x4 x5 : Option Value} {u : Int32} : X z 40 76 [x0, x1, x2, some (.int u), x4, x5] (st) cu σ Q = (X z 40 77 [x0, x1, x2, some (.int u), x4, x5] (.int u :: st) cu σ Q) := by
  rw [x40_76]
  rfl
theorem v40_77 {z : P0} {st : List Value} {cu : Nat × Nat} {Q : Res → Mem → Prop} {σ : Mem} {x0 x1 x2 x3 x4 : Option Value} {u : Int32} : X z 40 77 [x0, x1, x2, x3, x4, some (.int u)] (st) cu σ Q = (X z 40 79 [x0, x1, x2, x3, x4, some (.int u)] (.int u :: st) cu σ Q) := by
  rw [x40_77]
  rfl
theorem v40_79 {z : P0} {st : List Value} {cu : Nat × Nat} {Q : Res → Mem → Prop} {K : Nat → Nat × Nat} {I : Nat → Nat → Int32} {R : Nat → Nat → Option Nat} {L : Nat → Nat → Int64} {sz : Nat} {ex : Bool} {x0 x1 x2 x3 x4 x5 : Option Value} {u : Nat} {j v : Int32} : X z 40 79 [x0, x1, x2, x3, x4, x5] (.int v :: .int j :: .ref u :: st) cu (K, I, R, L, sz, ex) Q = ((K u).1 = 20 ∧ vp_in j (K u).2 ∧ X z 40 80 [x0, x1, x2, x3, x4, x5] (st) cu (K, up2 I u j.toNatClampNeg v, R, L, sz, ex) Q) := by
  rw [x40_79]
  rfl
theorem v40_80 {z : P0} {st : List Value} {cu : Nat × Nat} {Q : Res → Mem → Prop} {σ : Mem} {x1 x2 x3 x4 x5 : Option Value} {u : Nat} : X z 40 80 [some (.ref u), x1, x2, x3, x4, x5] (st) cu σ Q = (X z 40 81 [some (.ref u), x1, x2, x3, x4, x5] (.ref u :: st) cu σ Q) := by
  rw [x40_80]
  rfl
theorem v40_81 {z : P0} {st : List Value} {cu : Nat × Nat} {Q : Res → Mem → Prop} {K : Nat → Nat × Nat} {I : Nat → Nat → Int32} {R : Nat → Nat → Option Nat} {L : Nat → Nat → Int64} {sz : Nat} {ex : Bool} {x0 x1 x2 x3 x4 x5 : Option Value} {u : Nat} : X z 40 81 [x0, x1, x2, x3, x4, x5] (.ref u :: st) cu (K, I, R, L, sz, ex) Q = ((K u).1 = 106 ∧ X z 40 84 [x0, x1, x2, x3, x4, x5] (va_rf (R u 0) :: st) cu (K, I, R, L, sz, ex) Q) := by
  rw [x40_81]
  rfl
theorem v40_84 {z : P0} {st : List Value} {cu : Nat × Nat} {Q : Res → Mem → Prop} {σ : Mem} {x0 x1 x2 x3 x4 : Option Value} {u : Int32} : X z 40 84 [x0, x1, x2, x3, x4, some (.int u)] (st) cu σ Q = (X z 40 86 [x0, x1, x2, x3, x4, some (.int u)] (.int u :: st) cu σ Q) := by
  rw [x40_84]
  rfl
theorem v40_86 {z : P0} {st : List Value} {cu : Nat × Nat} {Q : Res → Mem → Prop} {K : Nat → Nat × Nat} {I : Nat → Nat → Int32} {R : Nat → Nat → Option Nat} {L : Nat → Nat → Int64} {sz : Nat} {ex : Bool} {x0 x1 x2 x3 x4 x5 : Option Value} {u : Nat} {v : Int32} : X z 40 86 [x0, x1, x2, x3, x4, x5] (.int v :: .ref u :: st) cu (K, I, R, L, sz, ex) Q = (((K u).1 = 22 ∨ (K u).1 = 23 ∨ (K u).1 = 24 ∨ (K u).1 = 25) ∧ vp_in v (K u).2 ∧ X z 40 87 [x0, x1, x2, x3, x4, x5] (va_rf (R u v.toNatClampNeg) :: st) cu (K, I, R, L, sz, ex) Q) := by
  rw [x40_86]
  rfl
theorem v40_87 {z : P0} {st : List Value} {cu : Nat × Nat} {Q : Res → Mem → Prop} {σ : Mem} {x0 x1 x2 x4 x5 : Option Value} {u : Int32} : X z 40 87 [x0, x1, x2, some (.int u), x4, x5] (st) cu σ Q = (X z 40 88 [x0, x1, x2, some (.int u), x4, x5] (.int u :: st) cu σ Q) := by
  rw [x40_87]
  rfl
theorem u40_88 {z : P0} {ls : Lcs} {st : List Value} {K : Nat → Nat × Nat} {I : Nat → Nat → Int32} {R : Nat → Nat → Option Nat} {L : Nat → Nat → Int64} {sz : Nat} {ex : Bool} {Q : Res → Mem → Prop} {x : Nat} {a0 : Int32} : X z 40 88 ls (.int a0 :: .ref x :: st) (0, 0) (K, I, R, L, sz, ex) Q = ((K x).1 = 102 ∧ wsum st ≤ 8 ∧ X z 21 0 [some (.ref x), some (.int a0)] [] (0, 0) (K, I, R, L, sz, ex) (aftr (X z) mT 40 88 ls st (0, 0) Q)) := v40_88 (c := 0) (n := 0)
theorem v40_91 {z : P0} {st : List Value} {cu : Nat × Nat} {Q : Res → Mem → Prop} {σ : Mem} {x0 x1 x2 x4 x5 : Option Value} {u : Int32} : X z 40 91 [x0, x1, x2, some (.int u), x4, x5] (st) cu σ Q = (cat2 x2 = false ∧ X z 40 94 [x0, x1, x2, some (.int (u + nI 1)), x4, x5] (st) cu σ Q) := by
  rw [x40_91]
  obtain ⟨K, I, R, L, sz, ex⟩ := σ
  exact i_iinc.trans (gl_3.trans (ldI_i.trans sl_3))
theorem v40_94 {z : P0} {st : List Value} {cu : Nat × Nat} {Q : Res → Mem → Prop} {σ : Mem} {x0 x1 x2 x3 x4 x5 : Option Value} : X z 40 94 [x0, x1, x2, x3, x4, x5] (st) cu σ Q = (X z 40 7 [x0, x1, x2, x3, x4, x5] (st) cu σ Q) := by
  rw [x40_94]
  rfl
theorem v40_97 {z : P0} {cu : Nat × Nat} {Q : Res → Mem → Prop} {σ : Mem} {x0 x1 x2 x3 x4 x5 : Option Value} : X z 40 97 [x0, x1, x2, x3, x4, x5] ([]) cu σ Q = (Q (.inl none) σ) := by
  rw [x40_97]
  rfl
theorem v41_0 {z : P0} {st : List Value} {cu : Nat × Nat} {Q : Res → Mem → Prop} {σ : Mem} {x0 x1 x2 x3 : Option Value} : X z 41 0 [x0, x1, x2, x3] (st) cu σ Q = (X z 41 1 [x0, x1, x2, x3] (.int (nI 0) :: st) cu σ Q) := by
  rw [x41_0]
  rfl
theorem v41_1 {z : P0} {st : List Value} {cu : Nat × Nat} {Q : Res → Mem → Prop} {σ : Mem} {x0 x1 x2 x3 : Option Value} {u : Int32} : X z 41 1 [x0, x1, x2, x3] (.int u :: st) cu σ Q = (cat2 x2 = false ∧ X z 41 2 [x0, x1, x2, some (.int u)] (st) cu σ Q) := by
  rw [x41_1]
  obtain ⟨K, I, R, L, sz, ex⟩ := σ
  exact i_istore_n.trans sl_3
theorem v41_2 {z : P0} {st : List Value} {cu : Nat × Nat} {Q : Res → Mem → Prop} {σ : Mem} {x0 x1 x2 : Option Value} {u : Int32} : X z 41 2 [x0, x1, x2, some (.int u)] (st) cu σ Q = (X z 41 3 [x0, x1, x2, some (.int u)] (.int u :: st) cu σ Q) := by
  rw [x41_2]
  rfl
theorem v41_3 {z : P0} {st : List Value} {cu : Nat × Nat} {Q : Res → Mem → Prop} {σ : Mem} {x1 x2 x3 : Option Value} {u : Nat} : X z 41 3 [some (.ref u), x1, x2, x3] (st) cu σ Q = (X z 41 4 [some (.ref u), x1, x2, x3] (.ref u :: st) cu σ Q) := by
  rw [x41_3]
  rfl
theorem v41_4 {z : P0} {st : List Value} {cu : Nat × Nat} {Q : Res → Mem → Prop} {K : Nat → Nat × Nat} {I : Nat → Nat → Int32} {R : Nat → Nat → Option Nat} {L : Nat → Nat → Int64} {sz : Nat} {ex : Bool} {x0 x1 x2 x3 : Option Value} {u : Nat} : X z 41 4 [x0, x1, x2, x3] (.ref u :: st) cu (K, I, R, L, sz, ex) Q = ((K u).1 = 106 ∧ X z 41 7 [x0, x1, x2, x3] (.int (I u 1) :: st) cu (K, I, R, L, sz, ex) Q) := by
  rw [x41_4]
  rfl
theorem v41_7 {z : P0} {st : List Value} {cu : Nat × Nat} {Q : Res → Mem → Prop} {σ : Mem} {x0 x1 x2 x3 : Option Value} {u v : Int32} : X z 41 7 [x0, x1, x2, x3] (.int v :: .int u :: st) cu σ Q = (if u < v then X z 41 10 [x0, x1, x2, x3] (st) cu σ Q else X z 41 44 [x0, x1, x2, x3] (st) cu σ Q) := by
  rw [x41_7]
  obtain ⟨K, I, R, L, sz, ex⟩ := σ
  exact br_ge
theorem v41_10 {z : P0} {st : List Value} {cu : Nat × Nat} {Q : Res → Mem → Prop} {σ : Mem} {x1 x2 x3 : Option Value} {u : Nat} : X z 41 10 [some (.ref u), x1, x2, x3] (st) cu σ Q = (X z 41 11 [some (.ref u), x1, x2, x3] (.ref u :: st) cu σ Q) := by
  rw [x41_10]
  rfl
theorem v41_11 {z : P0} {st : List Value} {cu : Nat × Nat} {Q : Res → Mem → Prop} {K : Nat → Nat × Nat} {I : Nat → Nat → Int32} {R : Nat → Nat → Option Nat} {L : Nat → Nat → Int64} {sz : Nat} {ex : Bool} {x0 x1 x2 x3 : Option Value} {u : Nat} : X z 41 11 [x0, x1, x2, x3] (.ref u :: st) cu (K, I, R, L, sz, ex) Q = ((K u).1 = 106 ∧ X z 41 14 [x0, x1, x2, x3] (va_rf (R u 0) :: st) cu (K, I, R, L, sz, ex) Q) := by
  rw [x41_11]
  rfl
theorem v41_14 {z : P0} {st : List Value} {cu : Nat × Nat} {Q : Res → Mem → Prop} {σ : Mem} {x0 x1 x2 : Option Value} {u : Int32} : X z 41 14 [x0, x1, x2, some (.int u)] (st) cu σ Q = (X z 41 15 [x0, x1, x2, some (.int u)] (.int u :: st) cu σ Q) := by
  rw [x41_14]
  rfl
theorem v41_15 {z : P0} {st : List Value} {cu : Nat × Nat} {Q : Res → Mem → Prop} {K : Nat → Nat × Nat} {I : Nat → Nat → Int32} {R : Nat → Nat → Option Nat} {L : Nat → Nat → Int64} {sz : Nat} {ex : Bool} {x0 x1 x2 x3 : Option Value} {u : Nat} {v : Int32} : X z 41 15 [x0, x1, x2, x3] (.int v :: .ref u :: st) cu (K, I, R, L, sz, ex) Q = (((K u).1 = 22 ∨ (K u).1 = 23 ∨ (K u).1 = 24 ∨ (K u).1 = 25) ∧ vp_in v (K u).2 ∧ X z 41 16 [x0, x1, x2, x3] (va_rf (R u v.toNatClampNeg) :: st) cu (K, I, R, L, sz, ex) Q) := by
  rw [x41_15]
  rfl
theorem v41_16 {z : P0} {st : List Value} {cu : Nat × Nat} {Q : Res → Mem → Prop} {K : Nat → Nat × Nat} {I : Nat → Nat → Int32} {R : Nat → Nat → Option Nat} {L : Nat → Nat → Int64} {sz : Nat} {ex : Bool} {x0 x1 x2 x3 : Option Value} {u : Nat} : X z 41 16 [x0, x1, x2, x3] (.ref u :: st) cu (K, I, R, L, sz, ex) Q = ((K u).1 = 102 ∧ X z 41 19 [x0, x1, x2, x3] (.int (I u 2) :: st) cu (K, I, R, L, sz, ex) Q) := by
  rw [x41_16]
  rfl
theorem v41_19 {z : P0} {st : List Value} {cu : Nat × Nat} {Q : Res → Mem → Prop} {σ : Mem} {x0 x2 x3 : Option Value} {u : Int32} : X z 41 19 [x0, some (.int u), x2, x3] (st) cu σ Q = (X z 41 20 [x0, some (.int u), x2, x3] (.int u :: st) cu σ Q) := by
  rw [x41_19]
  rfl
theorem v41_20 {z : P0} {st : List Value} {cu : Nat × Nat} {Q : Res → Mem → Prop} {σ : Mem} {x0 x1 x2 x3 : Option Value} {u v : Int32} : X z 41 20 [x0, x1, x2, x3] (.int v :: .int u :: st) cu σ Q = (if u = v then X z 41 23 [x0, x1, x2, x3] (st) cu σ Q else X z 41 38 [x0, x1, x2, x3] (st) cu σ Q) := by
  rw [x41_20]
  obtain ⟨K, I, R, L, sz, ex⟩ := σ
  exact br_ne
theorem v41_23 {z : P0} {st : List Value} {cu : Nat × Nat} {Q : Res → Mem → Prop} {σ : Mem} {x1 x2 x3 : Option Value} {u : Nat} : X z 41 23 [some (.ref u), x1, x2, x3] (st) cu σ Q = (X z 41 24 [some (.ref u), x1, x2, x3] (.ref u :: st) cu σ Q) := by
  rw [x41_23]
  rfl
theorem v41_24 {z : P0} {st : List Value} {cu : Nat × Nat} {Q : Res → Mem → Prop} {K : Nat → Nat × Nat} {I : Nat → Nat → Int32} {R : Nat → Nat → Option Nat} {L : Nat → Nat → Int64} {sz : Nat} {ex : Bool} {x0 x1 x2 x3 : Option Value} {u : Nat} : X z 41 24 [x0, x1, x2, x3] (.ref u :: st) cu (K, I, R, L, sz, ex) Q = ((K u).1 = 106 ∧ X z 41 27 [x0, x1, x2, x3] (va_rf (R u 0) :: st) cu (K, I, R, L, sz, ex) Q) := by
  rw [x41_24]
  rfl
theorem v41_27 {z : P0} {st : List Value} {cu : Nat × Nat} {Q : Res → Mem → Prop} {σ : Mem} {x0 x1 x2 : Option Value} {u : Int32} : X z 41 27 [x0, x1, x2, some (.int u)] (st) cu σ Q = (X z 41 28 [x0, x1, x2, some (.int u)] (.int u :: st) cu σ Q) := by
  rw [x41_27]
  rfl
theorem v41_28 {z : P0} {st : List Value} {cu : Nat × Nat} {Q : Res → Mem → Prop} {K : Nat → Nat × Nat} {I : Nat → Nat → Int32} {R : Nat → Nat → Option Nat} {L : Nat → Nat → Int64} {sz : Nat} {ex : Bool} {x0 x1 x2 x3 : Option Value} {u : Nat} {v : Int32} : X z 41 28 [x0, x1, x2, x3] (.int v :: .ref u :: st) cu (K, I, R, L, sz, ex) Q = (((K u).1 = 22 ∨ (K u).1 = 23 ∨ (K u).1 = 24 ∨ (K u).1 = 25) ∧ vp_in v (K u).2 ∧ X z 41 29 [x0, x1, x2, x3] (va_rf (R u v.toNatClampNeg) :: st) cu (K, I, R, L, sz, ex) Q) := by
  rw [x41_28]
  rfl
theorem v41_29 {z : P0} {st : List Value} {cu : Nat × Nat} {Q : Res → Mem → Prop} {K : Nat → Nat × Nat} {I : Nat → Nat → Int32} {R : Nat → Nat → Option Nat} {L : Nat → Nat → Int64} {sz : Nat} {ex : Bool} {x0 x1 x2 x3 : Option Value} {u : Nat} : X z 41 29 [x0, x1, x2, x3] (.ref u :: st) cu (K, I, R, L, sz, ex) Q = ((K u).1 = 102 ∧ X z 41 32 [x0, x1, x2, x3] (.int (I u 1) :: st) cu (K, I, R, L, sz, ex) Q) := by
  rw [x41_29]
  rfl
theorem v41_32 {z : P0} {st : List Value} {cu : Nat × Nat} {Q : Res → Mem → Prop} {σ : Mem} {x0 x1 x3 : Option Value} {u : Int32} : X z 41 32 [x0, x1, some (.int u), x3] (st) cu σ Q = (X z 41 33 [x0, x1, some (.int u), x3] (.int u :: st) cu σ Q) := by
  rw [x41_32]
  rfl
theorem v41_33 {z : P0} {st : List Value} {cu : Nat × Nat} {Q : Res → Mem → Prop} {σ : Mem} {x0 x1 x2 x3 : Option Value} {u v : Int32} : X z 41 33 [x0, x1, x2, x3] (.int v :: .int u :: st) cu σ Q = (if u < v then X z 41 36 [x0, x1, x2, x3] (st) cu σ Q else X z 41 38 [x0, x1, x2, x3] (st) cu σ Q) := by
  rw [x41_33]
  obtain ⟨K, I, R, L, sz, ex⟩ := σ
  exact br_ge
theorem v41_36 {z : P0} {st : List Value} {cu : Nat × Nat} {Q : Res → Mem → Prop} {σ : Mem} {x0 x1 x2 : Option Value} {u : Int32} : X z 41 36 [x0, x1, x2, some (.int u)] (st) cu σ Q = (X z 41 37 [x0, x1, x2, some (.int u)] (.int u :: st) cu σ Q) := by
  rw [x41_36]
  rfl
theorem v41_37 {z : P0} {cu : Nat × Nat} {Q : Res → Mem → Prop} {σ : Mem} {x0 x1 x2 x3 : Option Value} {v : Int32} : X z 41 37 [x0, x1, x2, x3] ([.int v]) cu σ Q = (Q (.inl (some (.int v))) σ) := by
  rw [x41_37]
  exact propext ⟨fun h => h.2, fun h => ⟨trivial, h⟩⟩
theorem v41_38 {z : P0} {st : List Value} {cu : Nat × Nat} {Q : Res → Mem → Prop} {σ : Mem} {x0 x1 x2 : Option Value} {u : Int32} : X z 41 38 [x0, x1, x2, some (.int u)] (st) cu σ Q = (cat2 x2 = false ∧ X z 41 41 [x0, x1, x2, some (.int (u + nI 1))] (st) cu σ Q) := by
  rw [x41_38]
  obtain ⟨K, I, R, L, sz, ex⟩ := σ
  exact i_iinc.trans (gl_3.trans (ldI_i.trans sl_3))
theorem v41_41 {z : P0} {st : List Value} {cu : Nat × Nat} {Q : Res → Mem → Prop} {σ : Mem} {x0 x1 x2 x3 : Option Value} : X z 41 41 [x0, x1, x2, x3] (st) cu σ Q = (X z 41 2 [x0, x1, x2, x3] (st) cu σ Q) := by
  rw [x41_41]
  rfl
theorem v41_44 {z : P0} {st : List Value} {cu : Nat × Nat} {Q : Res → Mem → Prop} {σ : Mem} {x1 x2 x3 : Option Value} {u : Nat} : X z 41 44 [some (.ref u), x1, x2, x3] (st) cu σ Q = (X z 41 45 [some (.ref u), x1, x2, x3] (.ref u :: st) cu σ Q) := by
  rw [x41_44]
  rfl
theorem v41_45 {z : P0} {st : List Value} {cu : Nat × Nat} {Q : Res → Mem → Prop} {K : Nat → Nat × Nat} {I : Nat → Nat → Int32} {R : Nat → Nat → Option Nat} {L : Nat → Nat → Int64} {sz : Nat} {ex : Bool} {x0 x1 x2 x3 : Option Value} {u : Nat} : X z 41 45 [x0, x1, x2, x3] (.ref u :: st) cu (K, I, R, L, sz, ex) Q = ((K u).1 = 106 ∧ X z 41 48 [x0, x1, x2, x3] (.int (I u 1) :: st) cu (K, I, R, L, sz, ex) Q) := by
  rw [x41_45]
  rfl
theorem v41_48 {z : P0} {st : List Value} {cu : Nat × Nat} {Q : Res → Mem → Prop} {σ : Mem} {x0 x1 x2 x3 : Option Value} {u : Int32} : X z 41 48 [x0, x1, x2, x3] (.int u :: st) cu σ Q = (cat2 x2 = false ∧ X z 41 49 [x0, x1, x2, some (.int u)] (st) cu σ Q) := by
  rw [x41_48]
  obtain ⟨K, I, R, L, sz, ex⟩ := σ
  exact i_istore_n.trans sl_3
theorem v41_49 {z : P0} {st : List Value} {cu : Nat × Nat} {Q : Res → Mem → Prop} {σ : Mem} {x1 x2 x3 : Option Value} {u : Nat} : X z 41 49 [some (.ref u), x1, x2, x3] (st) cu σ Q = (X z 41 50 [some (.ref u), x1, x2, x3] (.ref u :: st) cu σ Q) := by
  rw [x41_49]
  rfl
theorem v41_50 {z : P0} {st : List Value} {cu : Nat × Nat} {Q : Res → Mem → Prop} {K : Nat → Nat × Nat} {I : Nat → Nat → Int32} {R : Nat → Nat → Option Nat} {L : Nat → Nat → Int64} {sz : Nat} {ex : Bool} {x0 x1 x2 x3 : Option Value} {u : Nat} : X z 41 50 [x0, x1, x2, x3] (.ref u :: st) cu (K, I, R, L, sz, ex) Q = ((K u).1 = 106 ∧ X z 41 53 [x0, x1, x2, x3] (va_rf (R u 0) :: st) cu (K, I, R, L, sz, ex) Q) := by
  rw [x41_50]
  rfl
theorem v41_53 {z : P0} {st : List Value} {cu : Nat × Nat} {Q : Res → Mem → Prop} {σ : Mem} {x0 x1 x2 : Option Value} {u : Int32} : X z 41 53 [x0, x1, x2, some (.int u)] (st) cu σ Q = (X z 41 54 [x0, x1, x2, some (.int u)] (.int u :: st) cu σ Q) := by
  rw [x41_53]
  rfl
theorem v41_54 {z : P0} {st : List Value} {cu : Nat × Nat} {Q : Res → Mem → Prop} {K : Nat → Nat × Nat} {I : Nat → Nat → Int32} {R : Nat → Nat → Option Nat} {L : Nat → Nat → Int64} {sz : Nat} {ex : Bool} {x0 x1 x2 x3 : Option Value} {u : Nat} {v : Int32} : X z 41 54 [x0, x1, x2, x3] (.int v :: .ref u :: st) cu (K, I, R, L, sz, ex) Q = (((K u).1 = 22 ∨ (K u).1 = 23 ∨ (K u).1 = 24 ∨ (K u).1 = 25) ∧ vp_in v (K u).2 ∧ X z 41 55 [x0, x1, x2, x3] (va_rf (R u v.toNatClampNeg) :: st) cu (K, I, R, L, sz, ex) Q) := by
  rw [x41_54]
  rfl
theorem v41_55 {z : P0} {st : List Value} {cu : Nat × Nat} {Q : Res → Mem → Prop} {σ : Mem} {x0 x2 x3 : Option Value} {u : Int32} : X z 41 55 [x0, some (.int u), x2, x3] (st) cu σ Q = (X z 41 56 [x0, some (.int u), x2, x3] (.int u :: st) cu σ Q) := by
  rw [x41_55]
  rfl
theorem v41_56 {z : P0} {st : List Value} {cu : Nat × Nat} {Q : Res → Mem → Prop} {K : Nat → Nat × Nat} {I : Nat → Nat → Int32} {R : Nat → Nat → Option Nat} {L : Nat → Nat → Int64} {sz : Nat} {ex : Bool} {x0 x1 x2 x3 : Option Value} {u : Nat} {v : Int32} : X z 41 56 [x0, x1, x2, x3] (.int v :: .ref u :: st) cu (K, I, R, L, sz, ex) Q = ((K u).1 = 102 ∧ X z 41 59 [x0, x1, x2, x3] (st) cu (K, up2 I u 2 v, R, L, sz, ex) Q) := by
  rw [x41_56]
  exact i_putI
theorem v41_59 {z : P0} {st : List Value} {cu : Nat × Nat} {Q : Res → Mem → Prop} {σ : Mem} {x1 x2 x3 : Option Value} {u : Nat} : X z 41 59 [some (.ref u), x1, x2, x3] (st) cu σ Q = (X z 41 60 [some (.ref u), x1, x2, x3] (.ref u :: st) cu σ Q) := by
  rw [x41_59]
  rfl
theorem v41_60 {z : P0} {st : List Value} {cu : Nat × Nat} {Q : Res → Mem → Prop} {K : Nat → Nat × Nat} {I : Nat → Nat → Int32} {R : Nat → Nat → Option Nat} {L : Nat → Nat → Int64} {sz : Nat} {ex : Bool} {x0 x1 x2 x3 : Option Value} {u : Nat} : X z 41 60 [x0, x1, x2, x3] (.ref u :: st) cu (K, I, R, L, sz, ex) Q = ((K u).1 = 106 ∧ X z 41 63 [x0, x1, x2, x3] (va_rf (R u 0) :: st) cu (K, I, R, L, sz, ex) Q) := by
  rw [x41_60]
  rfl
theorem v41_63 {z : P0} {st : List Value} {cu : Nat × Nat} {Q : Res → Mem → Prop} {σ : Mem} {x0 x1 x2 : Option Value} {u : Int32} : X z 41 63 [x0, x1, x2, some (.int u)] (st) cu σ Q = (X z 41 64 [x0, x1, x2, some (.int u)] (.int u :: st) cu σ Q) := by
  rw [x41_63]
  rfl
theorem v41_64 {z : P0} {st : List Value} {cu : Nat × Nat} {Q : Res → Mem → Prop} {K : Nat → Nat × Nat} {I : Nat → Nat → Int32} {R : Nat → Nat → Option Nat} {L : Nat → Nat → Int64} {sz : Nat} {ex : Bool} {x0 x1 x2 x3 : Option Value} {u : Nat} {v : Int32} : X z 41 64 [x0, x1, x2, x3] (.int v :: .ref u :: st) cu (K, I, R, L, sz, ex) Q = (((K u).1 = 22 ∨ (K u).1 = 23 ∨ (K u).1 = 24 ∨ (K u).1 = 25) ∧ vp_in v (K u).2 ∧ X z 41 65 [x0, x1, x2, x3] (va_rf (R u v.toNatClampNeg) :: st) cu (K, I, R, L, sz, ex) Q) := by
  rw [x41_64]
  rfl
theorem v41_65 {z : P0} {st : List Value} {cu : Nat × Nat} {Q : Res → Mem → Prop} {σ : Mem} {x0 x1 x2 x3 : Option Value} : X z 41 65 [x0, x1, x2, x3] (st) cu σ Q = (X z 41 66 [x0, x1, x2, x3] (.int (nI 0) :: st) cu σ Q) := by
  rw [x41_65]
  rfl
theorem v41_66 {z : P0} {st : List Value} {cu : Nat × Nat} {Q : Res → Mem → Prop} {K : Nat → Nat × Nat} {I : Nat → Nat → Int32} {R : Nat → Nat → Option Nat} {L : Nat → Nat → Int64} {sz : Nat} {ex : Bool} {x0 x1 x2 x3 : Option Value} {u : Nat} {v : Int32} : X z 41 66 [x0, x1, x2, x3] (.int v :: .ref u :: st) cu (K, I, R, L, sz, ex) Q = ((K u).1 = 102 ∧ X z 41 69 [x0, x1, x2, x3] (st) cu (K, up2 I u 1 v, R, L, sz, ex) Q) := by
  rw [x41_66]
  exact i_putI
theorem v41_69 {z : P0} {st : List Value} {cu : Nat × Nat} {Q : Res → Mem → Prop} {σ : Mem} {x1 x2 x3 : Option Value} {u : Nat} : X z 41 69 [some (.ref u), x1, x2, x3] (st) cu σ Q = (X z 41 70 [some (.ref u), x1, x2, x3] (.ref u :: st) cu σ Q) := by
  rw [x41_69]
  rfl
theorem v41_70 {z : P0} {st : List Value} {cu : Nat × Nat} {Q : Res → Mem → Prop} {σ : Mem} {x0 x1 x2 : Option Value} {u : Int32} : X z 41 70 [x0, x1, x2, some (.int u)] (st) cu σ Q = (X z 41 71 [x0, x1, x2, some (.int u)] (.int u :: st) cu σ Q) := by
  rw [x41_70]
  rfl
theorem v41_71 {z : P0} {st : List Value} {cu : Nat × Nat} {Q : Res → Mem → Prop} {σ : Mem} {x0 x1 x2 x3 : Option Value} : X z 41 71 [x0, x1, x2, x3] (st) cu σ Q = (X z 41 72 [x0, x1, x2, x3] (.int (nI 1) :: st) cu σ Q) := by
  rw [x41_71]
  rfl
theorem v41_72 {z : P0} {st : List Value} {cu : Nat × Nat} {Q : Res → Mem → Prop} {σ : Mem} {x0 x1 x2 x3 : Option Value} {u v : Int32} : X z 41 72 [x0, x1, x2, x3] (.int v :: .int u :: st) cu σ Q = (X z 41 73 [x0, x1, x2, x3] (.int (u + v) :: st) cu σ Q) := by
  rw [x41_72]
  rfl
theorem v41_73 {z : P0} {st : List Value} {cu : Nat × Nat} {Q : Res → Mem → Prop} {K : Nat → Nat × Nat} {I : Nat → Nat → Int32} {R : Nat → Nat → Option Nat} {L : Nat → Nat → Int64} {sz : Nat} {ex : Bool} {x0 x1 x2 x3 : Option Value} {u : Nat} {v : Int32} : X z 41 73 [x0, x1, x2, x3] (.int v :: .ref u :: st) cu (K, I, R, L, sz, ex) Q = ((K u).1 = 106 ∧ X z 41 76 [x0, x1, x2, x3] (st) cu (K, up2 I u 1 v, R, L, sz, ex) Q) := by
  rw [x41_73]
  exact i_putI
theorem v41_76 {z : P0} {st : List Value} {cu : Nat × Nat} {Q : Res → Mem → Prop} {σ : Mem} {x0 x1 x2 : Option Value} {u : Int32} : X z 41 76 [x0, x1, x2, some (.int u)] (st) cu σ Q = (X z 41 77 [x0, x1, x2, some (.int u)] (.int u :: st) cu σ Q) := by
  rw [x41_76]
  rfl
theorem v41_77 {z : P0} {cu : Nat × Nat} {Q : Res → Mem → Prop} {σ : Mem} {x0 x1 x2 x3 : Option Value} {v : Int32} : X z 41 77 [x0, x1, x2, x3] ([.int v]) cu σ Q = (Q (.inl (some (.int v))) σ) := by
  rw [x41_77]
  exact propext ⟨fun h => h.2, fun h => ⟨trivial, h⟩⟩
theorem v42_0 {z : P0} {st : List Value} {cu : Nat × Nat} {Q : Res → Mem → Prop} {σ : Mem} {x0 x2 x3 : Option Value} {u : Nat} : X z 42 0 [x0, some (.ref u), x2, x3] (st) cu σ Q = (X z 42 1 [x0, some (.ref u), x2, x3] (.ref u :: st) cu σ Q) := by
  rw [x42_0]
  rfl
theorem v42_1 {z : P0} {st : List Value} {cu : Nat × Nat} {Q : Res → Mem → Prop} {K : Nat → Nat × Nat} {I : Nat → Nat → Int32} {R : Nat → Nat → Option Nat} {L : Nat → Nat → Int64} {sz : Nat} {ex : Bool} {x0 x1 x2 x3 : Option Value} {u : Nat} : X z 42 1 [x0, x1, x2, x3] (.ref u :: st) cu (K, I, R, L, sz, ex) Q = ((K u).1 = 102 ∧ X z 42 4 [x0, x1, x2, x3] (.int (I u 5) :: st) cu (K, I, R, L, sz, ex) Q) := by
  rw [x42_1]
  rfl
theorem v42_4 {z : P0} {st : List Value} {cu : Nat × Nat} {Q : Res → Mem → Prop} {σ : Mem} {x0 x1 x3 : Option Value} {u : Int32} : X z 42 4 [x0, x1, some (.int u), x3] (st) cu σ Q = (X z 42 5 [x0, x1, some (.int u), x3] (.int u :: st) cu σ Q) := by
  rw [x42_4]
  rfl
theorem v42_5 {z : P0} {st : List Value} {cu : Nat × Nat} {Q : Res → Mem → Prop} {σ : Mem} {x0 x1 x2 x3 : Option Value} {u v : Int32} : X z 42 5 [x0, x1, x2, x3] (.int v :: .int u :: st) cu σ Q = (if v < u then X z 42 45 [x0, x1, x2, x3] (st) cu σ Q else X z 42 8 [x0, x1, x2, x3] (st) cu σ Q) := by
  rw [x42_5]
  obtain ⟨K, I, R, L, sz, ex⟩ := σ
  exact br_ite
theorem v42_8 {z : P0} {st : List Value} {cu : Nat × Nat} {Q : Res → Mem → Prop} {σ : Mem} {x1 x2 x3 : Option Value} {u : Nat} : X z 42 8 [some (.ref u), x1, x2, x3] (st) cu σ Q = (X z 42 9 [some (.ref u), x1, x2, x3] (.ref u :: st) cu σ Q) := by
  rw [x42_8]
  rfl
theorem v42_9 {z : P0} {st : List Value} {cu : Nat × Nat} {Q : Res → Mem → Prop} {σ : Mem} {x0 x1 x2 x3 : Option Value} {u : Nat} : X z 42 9 [x0, x1, x2, x3] (.ref u :: st) cu σ Q = (X z 42 10 [x0, x1, x2, x3] (.ref u :: .ref u :: st) cu σ Q) := by
  rw [x42_9]
  exact propext ⟨fun h => h.2, fun h => ⟨rfl, h⟩⟩
theorem v42_9i {z : P0} {st : List Value} {cu : Nat × Nat} {Q : Res → Mem → Prop} {σ : Mem} {x0 x1 x2 x3 : Option Value} {u : Int32} : X z 42 9 [x0, x1, x2, x3] (.int u :: st) cu σ Q = (X z 42 10 [x0, x1, x2, x3] (.int u :: .int u :: st) cu σ Q) := by
  rw [x42_9]
  exact propext ⟨fun h => h.2, fun h => ⟨rfl, h⟩⟩
theorem v42_10 {z : P0} {st : List Value} {cu : Nat × Nat} {Q : Res → Mem → Prop} {K : Nat → Nat × Nat} {I : Nat → Nat → Int32} {R : Nat → Nat → Option Nat} {L : Nat → Nat → Int64} {sz : Nat} {ex : Bool} {x0 x1 x2 x3 : Option Value} {u : Nat} : X z 42 10 [x0, x1, x2, x3] (.ref u :: st) cu (K, I, R, L, sz, ex) Q = ((K u).1 = 106 ∧ X z 42 13 [x0, x1, x2, x3] (.int (I u 8) :: st) cu (K, I, R, L, sz, ex) Q) := by
  rw [x42_10]
  rfl
theorem v42_13 {z : P0} {st : List Value} {cu : Nat × Nat} {Q : Res → Mem → Prop} {σ : Mem} {x0 x1 x2 x3 : Option Value} : X z 42 13 [x0, x1, x2, x3] (st) cu σ Q = (X z 42 14 [x0, x1, x2, x3] (.int (nI 1) :: st) cu σ Q) := by
  rw [x42_13]
  rfl
theorem v42_14 {z : P0} {st : List Value} {cu : Nat × Nat} {Q : Res → Mem → Prop} {σ : Mem} {x0 x1 x2 x3 : Option Value} {u v : Int32} : X z 42 14 [x0, x1, x2, x3] (.int v :: .int u :: st) cu σ Q = (X z 42 15 [x0, x1, x2, x3] (.int (u + v) :: st) cu σ Q) := by
  rw [x42_14]
  rfl
theorem v42_15 {z : P0} {st : List Value} {cu : Nat × Nat} {Q : Res → Mem → Prop} {K : Nat → Nat × Nat} {I : Nat → Nat → Int32} {R : Nat → Nat → Option Nat} {L : Nat → Nat → Int64} {sz : Nat} {ex : Bool} {x0 x1 x2 x3 : Option Value} {u : Nat} {v : Int32} : X z 42 15 [x0, x1, x2, x3] (.int v :: .ref u :: st) cu (K, I, R, L, sz, ex) Q = ((K u).1 = 106 ∧ X z 42 18 [x0, x1, x2, x3] (st) cu (K, up2 I u 8 v, R, L, sz, ex) Q) := by
  rw [x42_15]
  exact i_putI
theorem v42_18 {z : P0} {st : List Value} {cu : Nat × Nat} {Q : Res → Mem → Prop} {σ : Mem} {x1 x2 x3 : Option Value} {u : Nat} : X z 42 18 [some (.ref u), x1, x2, x3] (st) cu σ Q = (X z 42 19 [some (.ref u), x1, x2, x3] (.ref u :: st) cu σ Q) := by
  rw [x42_18]
  rfl
theorem v42_19 {z : P0} {st : List Value} {cu : Nat × Nat} {Q : Res → Mem → Prop} {σ : Mem} {x0 x1 x2 x3 : Option Value} {u : Nat} : X z 42 19 [x0, x1, x2, x3] (.ref u :: st) cu σ Q = (X z 42 20 [x0, x1, x2, x3] (.ref u :: .ref u :: st) cu σ Q) := by
  rw [x42_19]
  exact propext ⟨fun h => h.2, fun h => ⟨rfl, h⟩⟩
theorem v42_19i {z : P0} {st : List Value} {cu : Nat × Nat} {Q : Res → Mem → Prop} {σ : Mem} {x0 x1 x2 x3 : Option Value} {u : Int32} : X z 42 19 [x0, x1, x2, x3] (.int u :: st) cu σ Q = (X z 42 20 [x0, x1, x2, x3] (.int u :: .int u :: st) cu σ Q) := by
  rw [x42_19]
  exact propext ⟨fun h => h.2, fun h => ⟨rfl, h⟩⟩
theorem v42_20 {z : P0} {st : List Value} {cu : Nat × Nat} {Q : Res → Mem → Prop} {K : Nat → Nat × Nat} {I : Nat → Nat → Int32} {R : Nat → Nat → Option Nat} {L : Nat → Nat → Int64} {sz : Nat} {ex : Bool} {x0 x1 x2 x3 : Option Value} {u : Nat} : X z 42 20 [x0, x1, x2, x3] (.ref u :: st) cu (K, I, R, L, sz, ex) Q = ((K u).1 = 106 ∧ X z 42 23 [x0, x1, x2, x3] (.int (I u 9) :: st) cu (K, I, R, L, sz, ex) Q) := by
  rw [x42_20]
  rfl
theorem v42_23 {z : P0} {st : List Value} {cu : Nat × Nat} {Q : Res → Mem → Prop} {σ : Mem} {x0 x2 x3 : Option Value} {u : Nat} : X z 42 23 [x0, some (.ref u), x2, x3] (st) cu σ Q = (X z 42 24 [x0, some (.ref u), x2, x3] (.ref u :: st) cu σ Q) := by
  rw [x42_23]
  rfl
theorem v42_24 {z : P0} {st : List Value} {cu : Nat × Nat} {Q : Res → Mem → Prop} {K : Nat → Nat × Nat} {I : Nat → Nat → Int32} {R : Nat → Nat → Option Nat} {L : Nat → Nat → Int64} {sz : Nat} {ex : Bool} {x0 x1 x2 x3 : Option Value} {u : Nat} : X z 42 24 [x0, x1, x2, x3] (.ref u :: st) cu (K, I, R, L, sz, ex) Q = ((K u).1 = 102 ∧ X z 42 27 [x0, x1, x2, x3] (.int (I u 1) :: st) cu (K, I, R, L, sz, ex) Q) := by
  rw [x42_24]
  rfl
theorem v42_27 {z : P0} {st : List Value} {cu : Nat × Nat} {Q : Res → Mem → Prop} {σ : Mem} {x0 x1 x2 x3 : Option Value} {u v : Int32} : X z 42 27 [x0, x1, x2, x3] (.int v :: .int u :: st) cu σ Q = (X z 42 28 [x0, x1, x2, x3] (.int (u + v) :: st) cu σ Q) := by
  rw [x42_27]
  rfl
theorem v42_28 {z : P0} {st : List Value} {cu : Nat × Nat} {Q : Res → Mem → Prop} {K : Nat → Nat × Nat} {I : Nat → Nat → Int32} {R : Nat → Nat → Option Nat} {L : Nat → Nat → Int64} {sz : Nat} {ex : Bool} {x0 x1 x2 x3 : Option Value} {u : Nat} {v : Int32} : X z 42 28 [x0, x1, x2, x3] (.int v :: .ref u :: st) cu (K, I, R, L, sz, ex) Q = ((K u).1 = 106 ∧ X z 42 31 [x0, x1, x2, x3] (st) cu (K, up2 I u 9 v, R, L, sz, ex) Q) := by
  rw [x42_28]
  exact i_putI
theorem v42_31 {z : P0} {st : List Value} {cu : Nat × Nat} {Q : Res → Mem → Prop} {σ : Mem} {x1 x2 x3 : Option Value} {u : Nat} : X z 42 31 [some (.ref u), x1, x2, x3] (st) cu σ Q = (X z 42 32 [some (.ref u), x1, x2, x3] (.ref u :: st) cu σ Q) := by
  rw [x42_31]
  rfl
theorem v42_32 {z : P0} {st : List Value} {cu : Nat × Nat} {Q : Res → Mem → Prop} {σ : Mem} {x0 x1 x2 x3 : Option Value} {u : Nat} : X z 42 32 [x0, x1, x2, x3] (.ref u :: st) cu σ Q = (X z 42 33 [x0, x1, x2, x3] (.ref u :: .ref u :: st) cu σ Q) := by
  rw [x42_32]
  exact propext ⟨fun h => h.2, fun h => ⟨rfl, h⟩⟩
theorem v42_32i {z : P0} {st : List Value} {cu : Nat × Nat} {Q : Res → Mem → Prop} {σ : Mem} {x0 x1 x2 x3 : Option Value} {u : Int32} : X z 42 32 [x0, x1, x2, x3] (.int u :: st) cu σ Q = (X z 42 33 [x0, x1, x2, x3] (.int u :: .int u :: st) cu σ Q) := by
  rw [x42_32]
  exact propext ⟨fun h => h.2, fun h => ⟨rfl, h⟩⟩
theorem v42_33 {z : P0} {st : List Value} {cu : Nat × Nat} {Q : Res → Mem → Prop} {K : Nat → Nat × Nat} {I : Nat → Nat → Int32} {R : Nat → Nat → Option Nat} {L : Nat → Nat → Int64} {sz : Nat} {ex : Bool} {x0 x1 x2 x3 : Option Value} {u : Nat} : X z 42 33 [x0, x1, x2, x3] (.ref u :: st) cu (K, I, R, L, sz, ex) Q = ((K u).1 = 106 ∧ X z 42 36 [x0, x1, x2, x3] (.int (I u 10) :: st) cu (K, I, R, L, sz, ex) Q) := by
  rw [x42_33]
  rfl
theorem v42_36 {z : P0} {st : List Value} {cu : Nat × Nat} {Q : Res → Mem → Prop} {σ : Mem} {x0 x2 x3 : Option Value} {u : Nat} : X z 42 36 [x0, some (.ref u), x2, x3] (st) cu σ Q = (X z 42 37 [x0, some (.ref u), x2, x3] (.ref u :: st) cu σ Q) := by
  rw [x42_36]
  rfl
theorem v42_37 {z : P0} {st : List Value} {cu : Nat × Nat} {Q : Res → Mem → Prop} {K : Nat → Nat × Nat} {I : Nat → Nat → Int32} {R : Nat → Nat → Option Nat} {L : Nat → Nat → Int64} {sz : Nat} {ex : Bool} {x0 x1 x2 x3 : Option Value} {u : Nat} : X z 42 37 [x0, x1, x2, x3] (.ref u :: st) cu (K, I, R, L, sz, ex) Q = ((K u).1 = 102 ∧ X z 42 40 [x0, x1, x2, x3] (.int (I u 5) :: st) cu (K, I, R, L, sz, ex) Q) := by
  rw [x42_37]
  rfl
theorem v42_40 {z : P0} {st : List Value} {cu : Nat × Nat} {Q : Res → Mem → Prop} {σ : Mem} {x0 x1 x2 x3 : Option Value} {u v : Int32} : X z 42 40 [x0, x1, x2, x3] (.int v :: .int u :: st) cu σ Q = (X z 42 41 [x0, x1, x2, x3] (.int (u + v) :: st) cu σ Q) := by
  rw [x42_40]
  rfl
theorem v42_41 {z : P0} {st : List Value} {cu : Nat × Nat} {Q : Res → Mem → Prop} {K : Nat → Nat × Nat} {I : Nat → Nat → Int32} {R : Nat → Nat → Option Nat} {L : Nat → Nat → Int64} {sz : Nat} {ex : Bool} {x0 x1 x2 x3 : Option Value} {u : Nat} {v : Int32} : X z 42 41 [x0, x1, x2, x3] (.int v :: .ref u :: st) cu (K, I, R, L, sz, ex) Q = ((K u).1 = 106 ∧ X z 42 44 [x0, x1, x2, x3] (st) cu (K, up2 I u 10 v, R, L, sz, ex) Q) := by
  rw [x42_41]
  exact i_putI
theorem v42_44 {z : P0} {cu : Nat × Nat} {Q : Res → Mem → Prop} {σ : Mem} {x0 x1 x2 x3 : Option Value} : X z 42 44 [x0, x1, x2, x3] ([]) cu σ Q = (Q (.inl none) σ) := by
  rw [x42_44]
  rfl
theorem v42_45 {z : P0} {st : List Value} {cu : Nat × Nat} {Q : Res → Mem → Prop} {σ : Mem} {x0 x1 x2 x3 : Option Value} : X z 42 45 [x0, x1, x2, x3] (st) cu σ Q = (X z 42 46 [x0, x1, x2, x3] (.int (nI 0) :: st) cu σ Q) := by
  rw [x42_45]
  rfl
theorem v42_46 {z : P0} {st : List Value} {cu : Nat × Nat} {Q : Res → Mem → Prop} {σ : Mem} {x0 x1 x2 x3 : Option Value} {u : Int32} : X z 42 46 [x0, x1, x2, x3] (.int u :: st) cu σ Q = (cat2 x2 = false ∧ X z 42 47 [x0, x1, x2, some (.int u)] (st) cu σ Q) := by
  rw [x42_46]
  obtain ⟨K, I, R, L, sz, ex⟩ := σ
  exact i_istore_n.trans sl_3
theorem v42_47 {z : P0} {st : List Value} {cu : Nat × Nat} {Q : Res → Mem → Prop} {σ : Mem} {x0 x1 x2 : Option Value} {u : Int32} : X z 42 47 [x0, x1, x2, some (.int u)] (st) cu σ Q = (X z 42 48 [x0, x1, x2, some (.int u)] (.int u :: st) cu σ Q) := by
  rw [x42_47]
  rfl
theorem v42_48 {z : P0} {st : List Value} {cu : Nat × Nat} {Q : Res → Mem → Prop} {σ : Mem} {x0 x2 x3 : Option Value} {u : Nat} : X z 42 48 [x0, some (.ref u), x2, x3] (st) cu σ Q = (X z 42 49 [x0, some (.ref u), x2, x3] (.ref u :: st) cu σ Q) := by
  rw [x42_48]
  rfl
theorem v42_49 {z : P0} {st : List Value} {cu : Nat × Nat} {Q : Res → Mem → Prop} {K : Nat → Nat × Nat} {I : Nat → Nat → Int32} {R : Nat → Nat → Option Nat} {L : Nat → Nat → Int64} {sz : Nat} {ex : Bool} {x0 x1 x2 x3 : Option Value} {u : Nat} : X z 42 49 [x0, x1, x2, x3] (.ref u :: st) cu (K, I, R, L, sz, ex) Q = ((K u).1 = 102 ∧ X z 42 52 [x0, x1, x2, x3] (.int (I u 1) :: st) cu (K, I, R, L, sz, ex) Q) := by
  rw [x42_49]
  rfl
theorem v42_52 {z : P0} {st : List Value} {cu : Nat × Nat} {Q : Res → Mem → Prop} {σ : Mem} {x0 x1 x2 x3 : Option Value} {u v : Int32} : X z 42 52 [x0, x1, x2, x3] (.int v :: .int u :: st) cu σ Q = (if u < v then X z 42 55 [x0, x1, x2, x3] (st) cu σ Q else X z 42 73 [x0, x1, x2, x3] (st) cu σ Q) := by
  rw [x42_52]
  obtain ⟨K, I, R, L, sz, ex⟩ := σ
  exact br_ge
theorem v42_55 {z : P0} {st : List Value} {cu : Nat × Nat} {Q : Res → Mem → Prop} {σ : Mem} {x1 x2 x3 : Option Value} {u : Nat} : X z 42 55 [some (.ref u), x1, x2, x3] (st) cu σ Q = (X z 42 56 [some (.ref u), x1, x2, x3] (.ref u :: st) cu σ Q) := by
  rw [x42_55]
  rfl
theorem v42_56 {z : P0} {st : List Value} {cu : Nat × Nat} {Q : Res → Mem → Prop} {K : Nat → Nat × Nat} {I : Nat → Nat → Int32} {R : Nat → Nat → Option Nat} {L : Nat → Nat → Int64} {sz : Nat} {ex : Bool} {x0 x1 x2 x3 : Option Value} {u : Nat} : X z 42 56 [x0, x1, x2, x3] (.ref u :: st) cu (K, I, R, L, sz, ex) Q = ((K u).1 = 106 ∧ X z 42 59 [x0, x1, x2, x3] (va_rf (R u 2) :: st) cu (K, I, R, L, sz, ex) Q) := by
  rw [x42_56]
  rfl
theorem v42_59 {z : P0} {st : List Value} {cu : Nat × Nat} {Q : Res → Mem → Prop} {σ : Mem} {x0 x2 x3 : Option Value} {u : Nat} : X z 42 59 [x0, some (.ref u), x2, x3] (st) cu σ Q = (X z 42 60 [x0, some (.ref u), x2, x3] (.ref u :: st) cu σ Q) := by
  rw [x42_59]
  rfl
theorem v42_60 {z : P0} {st : List Value} {cu : Nat × Nat} {Q : Res → Mem → Prop} {K : Nat → Nat × Nat} {I : Nat → Nat → Int32} {R : Nat → Nat → Option Nat} {L : Nat → Nat → Int64} {sz : Nat} {ex : Bool} {x0 x1 x2 x3 : Option Value} {u : Nat} : X z 42 60 [x0, x1, x2, x3] (.ref u :: st) cu (K, I, R, L, sz, ex) Q = ((K u).1 = 102 ∧ X z 42 63 [x0, x1, x2, x3] (va_rf (R u 0) :: st) cu (K, I, R, L, sz, ex) Q) := by
  rw [x42_60]
  rfl
theorem v42_63 {z : P0} {st : List Value} {cu : Nat × Nat} {Q : Res → Mem → Prop} {σ : Mem} {x0 x1 x2 : Option Value} {u : Int32} : X z 42 63 [x0, x1, x2, some (.int u)] (st) cu σ Q = (X z 42 64 [x0, x1, x2, some (.int u)] (.int u :: st) cu σ Q) := by
  rw [x42_63]
  rfl
theorem v42_64 {z : P0} {st : List Value} {cu : Nat × Nat} {Q : Res → Mem → Prop} {K : Nat → Nat × Nat} {I : Nat → Nat → Int32} {R : Nat → Nat → Option Nat} {L : Nat → Nat → Int64} {sz : Nat} {ex : Bool} {x0 x1 x2 x3 : Option Value} {u : Nat} {v : Int32} : X z 42 64 [x0, x1, x2, x3] (.int v :: .ref u :: st) cu (K, I, R, L, sz, ex) Q = (((K u).1 = 20 ∨ (K u).1 = 50) ∧ vp_in v (K u).2 ∧ X z 42 65 [x0, x1, x2, x3] (.int (I u v.toNatClampNeg) :: st) cu (K, I, R, L, sz, ex) Q) := by
  rw [x42_64]
  rfl
theorem v42_65 {z : P0} {st : List Value} {cu : Nat × Nat} {Q : Res → Mem → Prop} {σ : Mem} {x0 x1 x2 x3 : Option Value} : X z 42 65 [x0, x1, x2, x3] (st) cu σ Q = (X z 42 66 [x0, x1, x2, x3] (.int (nI 4) :: st) cu σ Q) := by
  rw [x42_65]
  rfl
theorem v42_66 {z : P0} {st : List Value} {cu : Nat × Nat} {Q : Res → Mem → Prop} {K : Nat → Nat × Nat} {I : Nat → Nat → Int32} {R : Nat → Nat → Option Nat} {L : Nat → Nat → Int64} {sz : Nat} {ex : Bool} {x0 x1 x2 x3 : Option Value} {u : Nat} {j v : Int32} : X z 42 66 [x0, x1, x2, x3] (.int v :: .int j :: .ref u :: st) cu (K, I, R, L, sz, ex) Q = ((K u).1 = 20 ∧ vp_in j (K u).2 ∧ X z 42 67 [x0, x1, x2, x3] (st) cu (K, up2 I u j.toNatClampNeg v, R, L, sz, ex) Q) := by
  rw [x42_66]
  rfl
theorem v42_67 {z : P0} {st : List Value} {cu : Nat × Nat} {Q : Res → Mem → Prop} {σ : Mem} {x0 x1 x2 : Option Value} {u : Int32} : X z 42 67 [x0, x1, x2, some (.int u)] (st) cu σ Q = (cat2 x2 = false ∧ X z 42 70 [x0, x1, x2, some (.int (u + nI 1))] (st) cu σ Q) := by
  rw [x42_67]
  obtain ⟨K, I, R, L, sz, ex⟩ := σ
  exact i_iinc.trans (gl_3.trans (ldI_i.trans sl_3))
theorem v42_70 {z : P0} {st : List Value} {cu : Nat × Nat} {Q : Res → Mem → Prop} {σ : Mem} {x0 x1 x2 x3 : Option Value} : X z 42 70 [x0, x1, x2, x3] (st) cu σ Q = (X z 42 47 [x0, x1, x2, x3] (st) cu σ Q) := by
  rw [x42_70]
  rfl
theorem v42_73 {z : P0} {cu : Nat × Nat} {Q : Res → Mem → Prop} {σ : Mem} {x0 x1 x2 x3 : Option Value} : X z 42 73 [x0, x1, x2, x3] ([]) cu σ Q = (Q (.inl none) σ) := by
  rw [x42_73]
  rfl
theorem v44_0 {z : P0} {st : List Value} {cu : Nat × Nat} {Q : Res → Mem → Prop} {σ : Mem} {u : Nat} : X z 44 0 [some (.ref u)] (st) cu σ Q = (X z 44 1 [some (.ref u)] (.ref u :: st) cu σ Q) := by
  rw [x44_0]
  rfl
theorem v44_1 {z : P0} {st : List Value} {cu : Nat × Nat} {Q : Res → Mem → Prop} {σ : Mem} {x0 : Option Value} {u : Nat} : X z 44 1 [x0] (.ref u :: st) cu σ Q = (wsum st ≤ 8 ∧ X z 44 4 [x0] (st) cu σ Q) := by
  rw [x44_1]
  exact propext ⟨fun h => h.2, fun h => ⟨rfl, h⟩⟩
theorem v44_4 {z : P0} {st : List Value} {cu : Nat × Nat} {Q : Res → Mem → Prop} {σ : Mem} {u : Nat} : X z 44 4 [some (.ref u)] (st) cu σ Q = (X z 44 5 [some (.ref u)] (.ref u :: st) cu σ Q) := by
  rw [x44_4]
  rfl
theorem v44_5 {z : P0} {st : List Value} {cu : Nat × Nat} {Q : Res → Mem → Prop} {σ : Mem} {x0 : Option Value} : X z 44 5 [x0] (st) cu σ Q = (X z 44 7 [x0] (.int (nI 8) :: st) cu σ Q) := by
  rw [x44_5]
  rfl
theorem v44_7 {z : P0} {st : List Value} {Q : Res → Mem → Prop} {K : Nat → Nat × Nat} {I : Nat → Nat → Int32} {R : Nat → Nat → Option Nat} {L : Nat → Nat → Int64} {sz : Nat} {ex : Bool} {x0 : Option Value} {c n : Nat} {v : Int32} : X z 44 7 [x0] (.int v :: st) (c, n) (K, I, R, L, sz, ex) Q = (ex = true ∧ ¬ v < 0 ∧ v.toNatClampNeg ≤ 3000 ∧ (c + 1 ≤ 1 ∧ n + v.toNatClampNeg ≤ 8) ∧ X z 44 9 [x0] (.ref sz :: st) (c + 1, n + v.toNatClampNeg) (upK K sz (20, v.toNatClampNeg), I, R, L, sz + 1, ex) Q) := by
  rw [x44_7]
  rfl
theorem v44_9 {z : P0} {st : List Value} {cu : Nat × Nat} {Q : Res → Mem → Prop} {K : Nat → Nat × Nat} {I : Nat → Nat → Int32} {R : Nat → Nat → Option Nat} {L : Nat → Nat → Int64} {sz : Nat} {ex : Bool} {x0 : Option Value} {u v : Nat} : X z 44 9 [x0] (.ref v :: .ref u :: st) cu (K, I, R, L, sz, ex) Q = ((K u).1 = 107 ∧ X z 44 12 [x0] (st) cu (K, I, up2 R u 0 (some v), L, sz, ex) Q) := by
  rw [x44_9]
  exact i_putA
theorem v44_12 {z : P0} {cu : Nat × Nat} {Q : Res → Mem → Prop} {σ : Mem} {x0 : Option Value} : X z 44 12 [x0] ([]) cu σ Q = (Q (.inl none) σ) := by
  rw [x44_12]
  rfl
theorem v45_0 {z : P0} {st : List Value} {cu : Nat × Nat} {Q : Res → Mem → Prop} {σ : Mem} {x1 x2 x3 : Option Value} {u : Nat} : X z 45 0 [some (.ref u), x1, x2, x3] (st) cu σ Q = (X z 45 1 [some (.ref u), x1, x2, x3] (.ref u :: st) cu σ Q) := by
  rw [x45_0]
  rfl
theorem v45_1 {z : P0} {st : List Value} {cu : Nat × Nat} {Q : Res → Mem → Prop} {σ : Mem} {x0 x2 x3 : Option Value} {u : Nat} : X z 45 1 [x0, some (.ref u), x2, x3] (st) cu σ Q = (X z 45 2 [x0, some (.ref u), x2, x3] (.ref u :: st) cu σ Q) := by
  rw [x45_1]
  rfl
theorem v45_2 {z : P0} {st : List Value} {cu : Nat × Nat} {Q : Res → Mem → Prop} {K : Nat → Nat × Nat} {I : Nat → Nat → Int32} {R : Nat → Nat → Option Nat} {L : Nat → Nat → Int64} {sz : Nat} {ex : Bool} {x0 x1 x2 x3 : Option Value} {u : Nat} : X z 45 2 [x0, x1, x2, x3] (.ref u :: st) cu (K, I, R, L, sz, ex) Q = ((K u).1 = 100 ∧ X z 45 5 [x0, x1, x2, x3] (.int (I u 1) :: st) cu (K, I, R, L, sz, ex) Q) := by
  rw [x45_2]
  rfl
theorem v45_5 {z : P0} {st : List Value} {cu : Nat × Nat} {Q : Res → Mem → Prop} {σ : Mem} {x0 x1 x2 x3 : Option Value} : X z 45 5 [x0, x1, x2, x3] (st) cu σ Q = (X z 45 7 [x0, x1, x2, x3] (.int (nI 8) :: st) cu σ Q) := by
  rw [x45_5]
  rfl
theorem u45_7 {z : P0} {ls : Lcs} {st : List Value} {K : Nat → Nat × Nat} {I : Nat → Nat → Int32} {R : Nat → Nat → Option Nat} {L : Nat → Nat → Int64} {sz : Nat} {ex : Bool} {Q : Res → Mem → Prop} {a0 : Int32} {a1 : Int32} : X z 45 7 ls (.int a1 :: .int a0 :: st) (0, 0) (K, I, R, L, sz, ex) Q = (wsum st ≤ 8 ∧ X z 184 0 [some (.int a0), some (.int a1)] [] (0, 0) (K, I, R, L, sz, ex) (aftr (X z) mT 45 7 ls st (0, 0) Q)) := v45_7 (c := 0) (n := 0)
theorem v45_10 {z : P0} {st : List Value} {cu : Nat × Nat} {Q : Res → Mem → Prop} {K : Nat → Nat × Nat} {I : Nat → Nat → Int32} {R : Nat → Nat → Option Nat} {L : Nat → Nat → Int64} {sz : Nat} {ex : Bool} {x0 x1 x2 x3 : Option Value} {u : Nat} {v : Int32} : X z 45 10 [x0, x1, x2, x3] (.int v :: .ref u :: st) cu (K, I, R, L, sz, ex) Q = ((K u).1 = 107 ∧ X z 45 13 [x0, x1, x2, x3] (st) cu (K, up2 I u 1 v, R, L, sz, ex) Q) := by
  rw [x45_10]
  exact i_putI
theorem v45_13 {z : P0} {st : List Value} {cu : Nat × Nat} {Q : Res → Mem → Prop} {σ : Mem} {x0 x2 x3 : Option Value} {u : Nat} : X z 45 13 [x0, some (.ref u), x2, x3] (st) cu σ Q = (X z 45 14 [x0, some (.ref u), x2, x3] (.ref u :: st) cu σ Q) := by
  rw [x45_13]
  rfl
theorem v45_14 {z : P0} {st : List Value} {cu : Nat × Nat} {Q : Res → Mem → Prop} {K : Nat → Nat × Nat} {I : Nat → Nat → Int32} {R : Nat → Nat → Option Nat} {L : Nat → Nat → Int64} {sz : Nat} {ex : Bool} {x0 x1 x2 x3 : Option Value} {u : Nat} : X z 45 14 [x0, x1, x2, x3] (.ref u :: st) cu (K, I, R, L, sz, ex) Q = ((K u).1 = 100 ∧ X z 45 17 [x0, x1, x2, x3] (va_rf (R u 0) :: st) cu (K, I, R, L, sz, ex) Q) := by
  rw [x45_14]
  rfl
theorem v45_17 {z : P0} {st : List Value} {cu : Nat × Nat} {Q : Res → Mem → Prop} {σ : Mem} {x0 x1 x2 x3 : Option Value} : X z 45 17 [x0, x1, x2, x3] (st) cu σ Q = (X z 45 18 [x0, x1, x2, x3] (.int (nI 0) :: st) cu σ Q) := by
  rw [x45_17]
  rfl
theorem v45_18 {z : P0} {st : List Value} {cu : Nat × Nat} {Q : Res → Mem → Prop} {σ : Mem} {x1 x2 x3 : Option Value} {u : Nat} : X z 45 18 [some (.ref u), x1, x2, x3] (st) cu σ Q = (X z 45 19 [some (.ref u), x1, x2, x3] (.ref u :: st) cu σ Q) := by
  rw [x45_18]
  rfl
theorem v45_19 {z : P0} {st : List Value} {cu : Nat × Nat} {Q : Res → Mem → Prop} {K : Nat → Nat × Nat} {I : Nat → Nat → Int32} {R : Nat → Nat → Option Nat} {L : Nat → Nat → Int64} {sz : Nat} {ex : Bool} {x0 x1 x2 x3 : Option Value} {u : Nat} : X z 45 19 [x0, x1, x2, x3] (.ref u :: st) cu (K, I, R, L, sz, ex) Q = ((K u).1 = 107 ∧ X z 45 22 [x0, x1, x2, x3] (va_rf (R u 0) :: st) cu (K, I, R, L, sz, ex) Q) := by
  rw [x45_19]
  rfl
theorem v45_22 {z : P0} {st : List Value} {cu : Nat × Nat} {Q : Res → Mem → Prop} {σ : Mem} {x0 x1 x2 x3 : Option Value} : X z 45 22 [x0, x1, x2, x3] (st) cu σ Q = (X z 45 23 [x0, x1, x2, x3] (.int (nI 0) :: st) cu σ Q) := by
  rw [x45_22]
  rfl
theorem v45_23 {z : P0} {st : List Value} {cu : Nat × Nat} {Q : Res → Mem → Prop} {σ : Mem} {x1 x2 x3 : Option Value} {u : Nat} : X z 45 23 [some (.ref u), x1, x2, x3] (st) cu σ Q = (X z 45 24 [some (.ref u), x1, x2, x3] (.ref u :: st) cu σ Q) := by
  rw [x45_23]
  rfl
theorem v45_24 {z : P0} {st : List Value} {cu : Nat × Nat} {Q : Res → Mem → Prop} {K : Nat → Nat × Nat} {I : Nat → Nat → Int32} {R : Nat → Nat → Option Nat} {L : Nat → Nat → Int64} {sz : Nat} {ex : Bool} {x0 x1 x2 x3 : Option Value} {u : Nat} : X z 45 24 [x0, x1, x2, x3] (.ref u :: st) cu (K, I, R, L, sz, ex) Q = ((K u).1 = 107 ∧ X z 45 27 [x0, x1, x2, x3] (.int (I u 1) :: st) cu (K, I, R, L, sz, ex) Q) := by
  rw [x45_24]
  rfl
theorem v45_27 {z : P0} {st : List Value} {cu : Nat × Nat} {Q : Res → Mem → Prop} {K : Nat → Nat × Nat} {I : Nat → Nat → Int32} {R : Nat → Nat → Option Nat} {L : Nat → Nat → Int64} {sz : Nat} {ex : Bool} {x0 x1 x2 x3 : Option Value} {u d : Nat} {v sp dp : Int32} : X z 45 27 [x0, x1, x2, x3] (.int v :: .int dp :: .ref d :: .int sp :: .ref u :: st) cu (K, I, R, L, sz, ex) Q = (((K u).1 = 20 ∨ (K u).1 = 50) ∧ (K d).1 = 20 ∧ ¬ sp < 0 ∧ ¬ dp < 0 ∧ ¬ v < 0 ∧ sp.toNatClampNeg + v.toNatClampNeg ≤ (K u).2 ∧ dp.toNatClampNeg + v.toNatClampNeg ≤ (K d).2 ∧ wsum st ≤ 8 ∧ X z 45 30 [x0, x1, x2, x3] (st) cu (K, cpI I u sp.toNatClampNeg d dp.toNatClampNeg v.toNatClampNeg, R, L, sz, ex) Q) := by
  rw [x45_27]
  rfl
theorem v45_30 {z : P0} {st : List Value} {cu : Nat × Nat} {Q : Res → Mem → Prop} {σ : Mem} {x1 x2 x3 : Option Value} {u : Nat} : X z 45 30 [some (.ref u), x1, x2, x3] (st) cu σ Q = (X z 45 31 [some (.ref u), x1, x2, x3] (.ref u :: st) cu σ Q) := by
  rw [x45_30]
  rfl
theorem v45_31 {z : P0} {st : List Value} {cu : Nat × Nat} {Q : Res → Mem → Prop} {σ : Mem} {x0 x1 x3 : Option Value} {u : Int32} : X z 45 31 [x0, x1, some (.int u), x3] (st) cu σ Q = (X z 45 32 [x0, x1, some (.int u), x3] (.int u :: st) cu σ Q) := by
  rw [x45_31]
  rfl
theorem v45_32 {z : P0} {st : List Value} {cu : Nat × Nat} {Q : Res → Mem → Prop} {K : Nat → Nat × Nat} {I : Nat → Nat → Int32} {R : Nat → Nat → Option Nat} {L : Nat → Nat → Int64} {sz : Nat} {ex : Bool} {x0 x1 x2 x3 : Option Value} {u : Nat} {v : Int32} : X z 45 32 [x0, x1, x2, x3] (.int v :: .ref u :: st) cu (K, I, R, L, sz, ex) Q = ((K u).1 = 107 ∧ X z 45 35 [x0, x1, x2, x3] (st) cu (K, up2 I u 2 v, R, L, sz, ex) Q) := by
  rw [x45_32]
  exact i_putI
theorem v45_35 {z : P0} {st : List Value} {cu : Nat × Nat} {Q : Res → Mem → Prop} {σ : Mem} {x1 x2 x3 : Option Value} {u : Nat} : X z 45 35 [some (.ref u), x1, x2, x3] (st) cu σ Q = (X z 45 36 [some (.ref u), x1, x2, x3] (.ref u :: st) cu σ Q) := by
  rw [x45_35]
  rfl
theorem v45_36 {z : P0} {st : List Value} {cu : Nat × Nat} {Q : Res → Mem → Prop} {σ : Mem} {x0 x1 x2 : Option Value} {u : Int32} : X z 45 36 [x0, x1, x2, some (.int u)] (st) cu σ Q = (X z 45 37 [x0, x1, x2, some (.int u)] (.int u :: st) cu σ Q) := by
  rw [x45_36]
  rfl
theorem v45_37 {z : P0} {st : List Value} {cu : Nat × Nat} {Q : Res → Mem → Prop} {K : Nat → Nat × Nat} {I : Nat → Nat → Int32} {R : Nat → Nat → Option Nat} {L : Nat → Nat → Int64} {sz : Nat} {ex : Bool} {x0 x1 x2 x3 : Option Value} {u : Nat} {v : Int32} : X z 45 37 [x0, x1, x2, x3] (.int v :: .ref u :: st) cu (K, I, R, L, sz, ex) Q = ((K u).1 = 107 ∧ X z 45 40 [x0, x1, x2, x3] (st) cu (K, up2 I u 3 v, R, L, sz, ex) Q) := by
  rw [x45_37]
  exact i_putI
theorem v45_40 {z : P0} {st : List Value} {cu : Nat × Nat} {Q : Res → Mem → Prop} {σ : Mem} {x1 x2 x3 : Option Value} {u : Nat} : X z 45 40 [some (.ref u), x1, x2, x3] (st) cu σ Q = (X z 45 41 [some (.ref u), x1, x2, x3] (.ref u :: st) cu σ Q) := by
  rw [x45_40]
  rfl
theorem v45_41 {z : P0} {st : List Value} {cu : Nat × Nat} {Q : Res → Mem → Prop} {σ : Mem} {x0 x1 x2 x3 : Option Value} : X z 45 41 [x0, x1, x2, x3] (st) cu σ Q = (X z 45 42 [x0, x1, x2, x3] (.int (nI 4294967295) :: st) cu σ Q) := by
  rw [x45_41]
  rw [neg1]
  rfl
theorem v45_42 {z : P0} {st : List Value} {cu : Nat × Nat} {Q : Res → Mem → Prop} {K : Nat → Nat × Nat} {I : Nat → Nat → Int32} {R : Nat → Nat → Option Nat} {L : Nat → Nat → Int64} {sz : Nat} {ex : Bool} {x0 x1 x2 x3 : Option Value} {u : Nat} {v : Int32} : X z 45 42 [x0, x1, x2, x3] (.int v :: .ref u :: st) cu (K, I, R, L, sz, ex) Q = ((K u).1 = 107 ∧ X z 45 45 [x0, x1, x2, x3] (st) cu (K, up2 I u 4 v, R, L, sz, ex) Q) := by
  rw [x45_42]
  exact i_putI
theorem v45_45 {z : P0} {st : List Value} {cu : Nat × Nat} {Q : Res → Mem → Prop} {σ : Mem} {x1 x2 x3 : Option Value} {u : Nat} : X z 45 45 [some (.ref u), x1, x2, x3] (st) cu σ Q = (X z 45 46 [some (.ref u), x1, x2, x3] (.ref u :: st) cu σ Q) := by
  rw [x45_45]
  rfl
theorem v45_46 {z : P0} {st : List Value} {cu : Nat × Nat} {Q : Res → Mem → Prop} {σ : Mem} {x0 x1 x2 x3 : Option Value} : X z 45 46 [x0, x1, x2, x3] (st) cu σ Q = (X z 45 47 [x0, x1, x2, x3] (.int (nI 0) :: st) cu σ Q) := by
  rw [x45_46]
  rfl
theorem v45_47 {z : P0} {st : List Value} {cu : Nat × Nat} {Q : Res → Mem → Prop} {K : Nat → Nat × Nat} {I : Nat → Nat → Int32} {R : Nat → Nat → Option Nat} {L : Nat → Nat → Int64} {sz : Nat} {ex : Bool} {x0 x1 x2 x3 : Option Value} {u : Nat} {v : Int32} : X z 45 47 [x0, x1, x2, x3] (.int v :: .ref u :: st) cu (K, I, R, L, sz, ex) Q = ((v = nI 0 ∨ v = nI 1) ∧ (K u).1 = 107 ∧ X z 45 50 [x0, x1, x2, x3] (st) cu (K, up2 I u 5 v, R, L, sz, ex) Q) := by
  rw [x45_47]
  rw [nI_0, one1]
  exact i_putZ
theorem v45_50 {z : P0} {st : List Value} {cu : Nat × Nat} {Q : Res → Mem → Prop} {σ : Mem} {x1 x2 x3 : Option Value} {u : Nat} : X z 45 50 [some (.ref u), x1, x2, x3] (st) cu σ Q = (X z 45 51 [some (.ref u), x1, x2, x3] (.ref u :: st) cu σ Q) := by
  rw [x45_50]
  rfl
theorem v45_51 {z : P0} {st : List Value} {cu : Nat × Nat} {Q : Res → Mem → Prop} {σ : Mem} {x0 x1 x2 x3 : Option Value} : X z 45 51 [x0, x1, x2, x3] (st) cu σ Q = (X z 45 52 [x0, x1, x2, x3] (.int (nI 4294967295) :: st) cu σ Q) := by
  rw [x45_51]
  rw [neg1]
  rfl
theorem v45_52 {z : P0} {st : List Value} {cu : Nat × Nat} {Q : Res → Mem → Prop} {K : Nat → Nat × Nat} {I : Nat → Nat → Int32} {R : Nat → Nat → Option Nat} {L : Nat → Nat → Int64} {sz : Nat} {ex : Bool} {x0 x1 x2 x3 : Option Value} {u : Nat} {v : Int32} : X z 45 52 [x0, x1, x2, x3] (.int v :: .ref u :: st) cu (K, I, R, L, sz, ex) Q = ((K u).1 = 107 ∧ X z 45 55 [x0, x1, x2, x3] (st) cu (K, up2 I u 6 v, R, L, sz, ex) Q) := by
  rw [x45_52]
  exact i_putI
theorem v45_55 {z : P0} {st : List Value} {cu : Nat × Nat} {Q : Res → Mem → Prop} {σ : Mem} {x1 x2 x3 : Option Value} {u : Nat} : X z 45 55 [some (.ref u), x1, x2, x3] (st) cu σ Q = (X z 45 56 [some (.ref u), x1, x2, x3] (.ref u :: st) cu σ Q) := by
  rw [x45_55]
  rfl
theorem v45_56 {z : P0} {st : List Value} {cu : Nat × Nat} {Q : Res → Mem → Prop} {σ : Mem} {x0 x1 x2 x3 : Option Value} : X z 45 56 [x0, x1, x2, x3] (st) cu σ Q = (X z 45 57 [x0, x1, x2, x3] (.int (nI 0) :: st) cu σ Q) := by
  rw [x45_56]
  rfl
theorem v45_57 {z : P0} {st : List Value} {cu : Nat × Nat} {Q : Res → Mem → Prop} {K : Nat → Nat × Nat} {I : Nat → Nat → Int32} {R : Nat → Nat → Option Nat} {L : Nat → Nat → Int64} {sz : Nat} {ex : Bool} {x0 x1 x2 x3 : Option Value} {u : Nat} {v : Int32} : X z 45 57 [x0, x1, x2, x3] (.int v :: .ref u :: st) cu (K, I, R, L, sz, ex) Q = ((K u).1 = 107 ∧ X z 45 60 [x0, x1, x2, x3] (st) cu (K, up2 I u 7 v, R, L, sz, ex) Q) := by
  rw [x45_57]
  exact i_putI
theorem v45_60 {z : P0} {cu : Nat × Nat} {Q : Res → Mem → Prop} {σ : Mem} {x0 x1 x2 x3 : Option Value} : X z 45 60 [x0, x1, x2, x3] ([]) cu σ Q = (Q (.inl none) σ) := by
  rw [x45_60]
  rfl
theorem v46_0 {z : P0} {st : List Value} {cu : Nat × Nat} {Q : Res → Mem → Prop} {σ : Mem} {x0 : Option Value} {u : Nat} : X z 46 0 [x0, some (.ref u)] (st) cu σ Q = (X z 46 1 [x0, some (.ref u)] (.ref u :: st) cu σ Q) := by
  rw [x46_0]
  rfl
theorem v46_1 {z : P0} {st : List Value} {cu : Nat × Nat} {Q : Res → Mem → Prop} {K : Nat → Nat × Nat} {I : Nat → Nat → Int32} {R : Nat → Nat → Option Nat} {L : Nat → Nat → Int64} {sz : Nat} {ex : Bool} {x0 x1 : Option Value} {u : Nat} : X z 46 1 [x0, x1] (.ref u :: st) cu (K, I, R, L, sz, ex) Q = ((K u).1 = 107 ∧ X z 46 4 [x0, x1] (va_rf (R u 0) :: st) cu (K, I, R, L, sz, ex) Q) := by
  rw [x46_1]
  rfl
theorem v46_4 {z : P0} {st : List Value} {cu : Nat × Nat} {Q : Res → Mem → Prop} {σ : Mem} {x0 x1 : Option Value} : X z 46 4 [x0, x1] (st) cu σ Q = (X z 46 5 [x0, x1] (.int (nI 0) :: st) cu σ Q) := by
  rw [x46_4]
  rfl
theorem v46_5 {z : P0} {st : List Value} {cu : Nat × Nat} {Q : Res → Mem → Prop} {σ : Mem} {x1 : Option Value} {u : Nat} : X z 46 5 [some (.ref u), x1] (st) cu σ Q = (X z 46 6 [some (.ref u), x1] (.ref u :: st) cu σ Q) := by
  rw [x46_5]
  rfl
theorem v46_6 {z : P0} {st : List Value} {cu : Nat × Nat} {Q : Res → Mem → Prop} {K : Nat → Nat × Nat} {I : Nat → Nat → Int32} {R : Nat → Nat → Option Nat} {L : Nat → Nat → Int64} {sz : Nat} {ex : Bool} {x0 x1 : Option Value} {u : Nat} : X z 46 6 [x0, x1] (.ref u :: st) cu (K, I, R, L, sz, ex) Q = ((K u).1 = 107 ∧ X z 46 9 [x0, x1] (va_rf (R u 0) :: st) cu (K, I, R, L, sz, ex) Q) := by
  rw [x46_6]
  rfl
theorem v46_9 {z : P0} {st : List Value} {cu : Nat × Nat} {Q : Res → Mem → Prop} {σ : Mem} {x0 x1 : Option Value} : X z 46 9 [x0, x1] (st) cu σ Q = (X z 46 10 [x0, x1] (.int (nI 0) :: st) cu σ Q) := by
  rw [x46_9]
  rfl
theorem v46_10 {z : P0} {st : List Value} {cu : Nat × Nat} {Q : Res → Mem → Prop} {σ : Mem} {x0 x1 : Option Value} : X z 46 10 [x0, x1] (st) cu σ Q = (X z 46 12 [x0, x1] (.int (nI 8) :: st) cu σ Q) := by
  rw [x46_10]
  rfl
theorem v46_12 {z : P0} {st : List Value} {cu : Nat × Nat} {Q : Res → Mem → Prop} {K : Nat → Nat × Nat} {I : Nat → Nat → Int32} {R : Nat → Nat → Option Nat} {L : Nat → Nat → Int64} {sz : Nat} {ex : Bool} {x0 x1 : Option Value} {u d : Nat} {v sp dp : Int32} : X z 46 12 [x0, x1] (.int v :: .int dp :: .ref d :: .int sp :: .ref u :: st) cu (K, I, R, L, sz, ex) Q = (((K u).1 = 20 ∨ (K u).1 = 50) ∧ (K d).1 = 20 ∧ ¬ sp < 0 ∧ ¬ dp < 0 ∧ ¬ v < 0 ∧ sp.toNatClampNeg + v.toNatClampNeg ≤ (K u).2 ∧ dp.toNatClampNeg + v.toNatClampNeg ≤ (K d).2 ∧ wsum st ≤ 8 ∧ X z 46 15 [x0, x1] (st) cu (K, cpI I u sp.toNatClampNeg d dp.toNatClampNeg v.toNatClampNeg, R, L, sz, ex) Q) := by
  rw [x46_12]
  rfl
theorem v46_15 {z : P0} {st : List Value} {cu : Nat × Nat} {Q : Res → Mem → Prop} {σ : Mem} {x1 : Option Value} {u : Nat} : X z 46 15 [some (.ref u), x1] (st) cu σ Q = (X z 46 16 [some (.ref u), x1] (.ref u :: st) cu σ Q) := by
  rw [x46_15]
  rfl
theorem v46_16 {z : P0} {st : List Value} {cu : Nat × Nat} {Q : Res → Mem → Prop} {σ : Mem} {x0 : Option Value} {u : Nat} : X z 46 16 [x0, some (.ref u)] (st) cu σ Q = (X z 46 17 [x0, some (.ref u)] (.ref u :: st) cu σ Q) := by
  rw [x46_16]
  rfl
theorem v46_17 {z : P0} {st : List Value} {cu : Nat × Nat} {Q : Res → Mem → Prop} {K : Nat → Nat × Nat} {I : Nat → Nat → Int32} {R : Nat → Nat → Option Nat} {L : Nat → Nat → Int64} {sz : Nat} {ex : Bool} {x0 x1 : Option Value} {u : Nat} : X z 46 17 [x0, x1] (.ref u :: st) cu (K, I, R, L, sz, ex) Q = ((K u).1 = 107 ∧ X z 46 20 [x0, x1] (.int (I u 1) :: st) cu (K, I, R, L, sz, ex) Q) := by
  rw [x46_17]
  rfl
theorem v46_20 {z : P0} {st : List Value} {cu : Nat × Nat} {Q : Res → Mem → Prop} {K : Nat → Nat × Nat} {I : Nat → Nat → Int32} {R : Nat → Nat → Option Nat} {L : Nat → Nat → Int64} {sz : Nat} {ex : Bool} {x0 x1 : Option Value} {u : Nat} {v : Int32} : X z 46 20 [x0, x1] (.int v :: .ref u :: st) cu (K, I, R, L, sz, ex) Q = ((K u).1 = 107 ∧ X z 46 23 [x0, x1] (st) cu (K, up2 I u 1 v, R, L, sz, ex) Q) := by
  rw [x46_20]
  exact i_putI
theorem v46_23 {z : P0} {st : List Value} {cu : Nat × Nat} {Q : Res → Mem → Prop} {σ : Mem} {x1 : Option Value} {u : Nat} : X z 46 23 [some (.ref u), x1] (st) cu σ Q = (X z 46 24 [some (.ref u), x1] (.ref u :: st) cu σ Q) := by
  rw [x46_23]
  rfl
theorem v46_24 {z : P0} {st : List Value} {cu : Nat × Nat} {Q : Res → Mem → Prop} {σ : Mem} {x0 : Option Value} {u : Nat} : X z 46 24 [x0, some (.ref u)] (st) cu σ Q = (X z 46 25 [x0, some (.ref u)] (.ref u :: st) cu σ Q) := by
  rw [x46_24]
  rfl
theorem v46_25 {z : P0} {st : List Value} {cu : Nat × Nat} {Q : Res → Mem → Prop} {K : Nat → Nat × Nat} {I : Nat → Nat → Int32} {R : Nat → Nat → Option Nat} {L : Nat → Nat → Int64} {sz : Nat} {ex : Bool} {x0 x1 : Option Value} {u : Nat} : X z 46 25 [x0, x1] (.ref u :: st) cu (K, I, R, L, sz, ex) Q = ((K u).1 = 107 ∧ X z 46 28 [x0, x1] (.int (I u 2) :: st) cu (K, I, R, L, sz, ex) Q) := by
  rw [x46_25]
  rfl
theorem v46_28 {z : P0} {st : List Value} {cu : Nat × Nat} {Q : Res → Mem → Prop} {K : Nat → Nat × Nat} {I : Nat → Nat → Int32} {R : Nat → Nat → Option Nat} {L : Nat → Nat → Int64} {sz : Nat} {ex : Bool} {x0 x1 : Option Value} {u : Nat} {v : Int32} : X z 46 28 [x0, x1] (.int v :: .ref u :: st) cu (K, I, R, L, sz, ex) Q = ((K u).1 = 107 ∧ X z 46 31 [x0, x1] (st) cu (K, up2 I u 2 v, R, L, sz, ex) Q) := by
  rw [x46_28]
  exact i_putI
theorem v46_31 {z : P0} {st : List Value} {cu : Nat × Nat} {Q : Res → Mem → Prop} {σ : Mem} {x1 : Option Value} {u : Nat} : X z 46 31 [some (.ref u), x1] (st) cu σ Q = (X z 46 32 [some (.ref u), x1] (.ref u :: st) cu σ Q) := by
  rw [x46_31]
  rfl
theorem v46_32 {z : P0} {st : List Value} {cu : Nat × Nat} {Q : Res → Mem → Prop} {σ : Mem} {x0 : Option Value} {u : Nat} : X z 46 32 [x0, some (.ref u)] (st) cu σ Q = (X z 46 33 [x0, some (.ref u)] (.ref u :: st) cu σ Q) := by
  rw [x46_32]
  rfl
theorem v46_33 {z : P0} {st : List Value} {cu : Nat × Nat} {Q : Res → Mem → Prop} {K : Nat → Nat × Nat} {I : Nat → Nat → Int32} {R : Nat → Nat → Option Nat} {L : Nat → Nat → Int64} {sz : Nat} {ex : Bool} {x0 x1 : Option Value} {u : Nat} : X z 46 33 [x0, x1] (.ref u :: st) cu (K, I, R, L, sz, ex) Q = ((K u).1 = 107 ∧ X z 46 36 [x0, x1] (.int (I u 3) :: st) cu (K, I, R, L, sz, ex) Q) := by
  rw [x46_33]
  rfl
theorem v46_36 {z : P0} {st : List Value} {cu : Nat × Nat} {Q : Res → Mem → Prop} {K : Nat → Nat × Nat} {I : Nat → Nat → Int32} {R : Nat → Nat → Option Nat} {L : Nat → Nat → Int64} {sz : Nat} {ex : Bool} {x0 x1 : Option Value} {u : Nat} {v : Int32} : X z 46 36 [x0, x1] (.int v :: .ref u :: st) cu (K, I, R, L, sz, ex) Q = ((K u).1 = 107 ∧ X z 46 39 [x0, x1] (st) cu (K, up2 I u 3 v, R, L, sz, ex) Q) := by
  rw [x46_36]
  exact i_putI
theorem v46_39 {z : P0} {st : List Value} {cu : Nat × Nat} {Q : Res → Mem → Prop} {σ : Mem} {x1 : Option Value} {u : Nat} : X z 46 39 [some (.ref u), x1] (st) cu σ Q = (X z 46 40 [some (.ref u), x1] (.ref u :: st) cu σ Q) := by
  rw [x46_39]
  rfl
theorem v46_40 {z : P0} {st : List Value} {cu : Nat × Nat} {Q : Res → Mem → Prop} {σ : Mem} {x0 : Option Value} {u : Nat} : X z 46 40 [x0, some (.ref u)] (st) cu σ Q = (X z 46 41 [x0, some (.ref u)] (.ref u :: st) cu σ Q) := by
  rw [x46_40]
  rfl
theorem v46_41 {z : P0} {st : List Value} {cu : Nat × Nat} {Q : Res → Mem → Prop} {K : Nat → Nat × Nat} {I : Nat → Nat → Int32} {R : Nat → Nat → Option Nat} {L : Nat → Nat → Int64} {sz : Nat} {ex : Bool} {x0 x1 : Option Value} {u : Nat} : X z 46 41 [x0, x1] (.ref u :: st) cu (K, I, R, L, sz, ex) Q = ((K u).1 = 107 ∧ X z 46 44 [x0, x1] (.int (I u 4) :: st) cu (K, I, R, L, sz, ex) Q) := by
  rw [x46_41]
  rfl
theorem v46_44 {z : P0} {st : List Value} {cu : Nat × Nat} {Q : Res → Mem → Prop} {K : Nat → Nat × Nat} {I : Nat → Nat → Int32} {R : Nat → Nat → Option Nat} {L : Nat → Nat → Int64} {sz : Nat} {ex : Bool} {x0 x1 : Option Value} {u : Nat} {v : Int32} : X z 46 44 [x0, x1] (.int v :: .ref u :: st) cu (K, I, R, L, sz, ex) Q = ((K u).1 = 107 ∧ X z 46 47 [x0, x1] (st) cu (K, up2 I u 4 v, R, L, sz, ex) Q) := by
  rw [x46_44]
  exact i_putI
theorem v46_47 {z : P0} {st : List Value} {cu : Nat × Nat} {Q : Res → Mem → Prop} {σ : Mem} {x1 : Option Value} {u : Nat} : X z 46 47 [some (.ref u), x1] (st) cu σ Q = (X z 46 48 [some (.ref u), x1] (.ref u :: st) cu σ Q) := by
  rw [x46_47]
  rfl
theorem v46_48 {z : P0} {st : List Value} {cu : Nat × Nat} {Q : Res → Mem → Prop} {σ : Mem} {x0 : Option Value} {u : Nat} : X z 46 48 [x0, some (.ref u)] (st) cu σ Q = (X z 46 49 [x0, some (.ref u)] (.ref u :: st) cu σ Q) := by
  rw [x46_48]
  rfl
theorem v46_49 {z : P0} {st : List Value} {cu : Nat × Nat} {Q : Res → Mem → Prop} {K : Nat → Nat × Nat} {I : Nat → Nat → Int32} {R : Nat → Nat → Option Nat} {L : Nat → Nat → Int64} {sz : Nat} {ex : Bool} {x0 x1 : Option Value} {u : Nat} : X z 46 49 [x0, x1] (.ref u :: st) cu (K, I, R, L, sz, ex) Q = ((K u).1 = 107 ∧ X z 46 52 [x0, x1] (.int (I u 5) :: st) cu (K, I, R, L, sz, ex) Q) := by
  rw [x46_49]
  rfl
theorem v46_52 {z : P0} {st : List Value} {cu : Nat × Nat} {Q : Res → Mem → Prop} {K : Nat → Nat × Nat} {I : Nat → Nat → Int32} {R : Nat → Nat → Option Nat} {L : Nat → Nat → Int64} {sz : Nat} {ex : Bool} {x0 x1 : Option Value} {u : Nat} {v : Int32} : X z 46 52 [x0, x1] (.int v :: .ref u :: st) cu (K, I, R, L, sz, ex) Q = ((v = nI 0 ∨ v = nI 1) ∧ (K u).1 = 107 ∧ X z 46 55 [x0, x1] (st) cu (K, up2 I u 5 v, R, L, sz, ex) Q) := by
  rw [x46_52]
  rw [nI_0, one1]
  exact i_putZ
theorem v46_55 {z : P0} {st : List Value} {cu : Nat × Nat} {Q : Res → Mem → Prop} {σ : Mem} {x1 : Option Value} {u : Nat} : X z 46 55 [some (.ref u), x1] (st) cu σ Q = (X z 46 56 [some (.ref u), x1] (.ref u :: st) cu σ Q) := by
  rw [x46_55]
  rfl
theorem v46_56 {z : P0} {st : List Value} {cu : Nat × Nat} {Q : Res → Mem → Prop} {σ : Mem} {x0 : Option Value} {u : Nat} : X z 46 56 [x0, some (.ref u)] (st) cu σ Q = (X z 46 57 [x0, some (.ref u)] (.ref u :: st) cu σ Q) := by
  rw [x46_56]
  rfl
theorem v46_57 {z : P0} {st : List Value} {cu : Nat × Nat} {Q : Res → Mem → Prop} {K : Nat → Nat × Nat} {I : Nat → Nat → Int32} {R : Nat → Nat → Option Nat} {L : Nat → Nat → Int64} {sz : Nat} {ex : Bool} {x0 x1 : Option Value} {u : Nat} : X z 46 57 [x0, x1] (.ref u :: st) cu (K, I, R, L, sz, ex) Q = ((K u).1 = 107 ∧ X z 46 60 [x0, x1] (.int (I u 6) :: st) cu (K, I, R, L, sz, ex) Q) := by
  rw [x46_57]
  rfl
theorem v46_60 {z : P0} {st : List Value} {cu : Nat × Nat} {Q : Res → Mem → Prop} {K : Nat → Nat × Nat} {I : Nat → Nat → Int32} {R : Nat → Nat → Option Nat} {L : Nat → Nat → Int64} {sz : Nat} {ex : Bool} {x0 x1 : Option Value} {u : Nat} {v : Int32} : X z 46 60 [x0, x1] (.int v :: .ref u :: st) cu (K, I, R, L, sz, ex) Q = ((K u).1 = 107 ∧ X z 46 63 [x0, x1] (st) cu (K, up2 I u 6 v, R, L, sz, ex) Q) := by
  rw [x46_60]
  exact i_putI
theorem v46_63 {z : P0} {st : List Value} {cu : Nat × Nat} {Q : Res → Mem → Prop} {σ : Mem} {x1 : Option Value} {u : Nat} : X z 46 63 [some (.ref u), x1] (st) cu σ Q = (X z 46 64 [some (.ref u), x1] (.ref u :: st) cu σ Q) := by
  rw [x46_63]
  rfl
theorem v46_64 {z : P0} {st : List Value} {cu : Nat × Nat} {Q : Res → Mem → Prop} {σ : Mem} {x0 : Option Value} {u : Nat} : X z 46 64 [x0, some (.ref u)] (st) cu σ Q = (X z 46 65 [x0, some (.ref u)] (.ref u :: st) cu σ Q) := by
  rw [x46_64]
  rfl
theorem v46_65 {z : P0} {st : List Value} {cu : Nat × Nat} {Q : Res → Mem → Prop} {K : Nat → Nat × Nat} {I : Nat → Nat → Int32} {R : Nat → Nat → Option Nat} {L : Nat → Nat → Int64} {sz : Nat} {ex : Bool} {x0 x1 : Option Value} {u : Nat} : X z 46 65 [x0, x1] (.ref u :: st) cu (K, I, R, L, sz, ex) Q = ((K u).1 = 107 ∧ X z 46 68 [x0, x1] (.int (I u 7) :: st) cu (K, I, R, L, sz, ex) Q) := by
  rw [x46_65]
  rfl
theorem v46_68 {z : P0} {st : List Value} {cu : Nat × Nat} {Q : Res → Mem → Prop} {K : Nat → Nat × Nat} {I : Nat → Nat → Int32} {R : Nat → Nat → Option Nat} {L : Nat → Nat → Int64} {sz : Nat} {ex : Bool} {x0 x1 : Option Value} {u : Nat} {v : Int32} : X z 46 68 [x0, x1] (.int v :: .ref u :: st) cu (K, I, R, L, sz, ex) Q = ((K u).1 = 107 ∧ X z 46 71 [x0, x1] (st) cu (K, up2 I u 7 v, R, L, sz, ex) Q) := by
  rw [x46_68]
  exact i_putI
theorem v46_71 {z : P0} {cu : Nat × Nat} {Q : Res → Mem → Prop} {σ : Mem} {x0 x1 : Option Value} : X z 46 71 [x0, x1] ([]) cu σ Q = (Q (.inl none) σ) := by
  rw [x46_71]
  rfl
theorem v47_0 {z : P0} {st : List Value} {cu : Nat × Nat} {Q : Res → Mem → Prop} {σ : Mem} {x1 : Option Value} {u : Nat} : X z 47 0 [some (.ref u), x1] (st) cu σ Q = (X z 47 1 [some (.ref u), x1] (.ref u :: st) cu σ Q) := by
  rw [x47_0]
  rfl
theorem v47_1 {z : P0} {st : List Value} {cu : Nat × Nat} {Q : Res → Mem → Prop} {σ : Mem} {x0 x1 : Option Value} {u : Nat} : X z 47 1 [x0, x1] (.ref u :: st) cu σ Q = (wsum st ≤ 8 ∧ X z 47 4 [x0, x1] (st) cu σ Q) := by
  rw [x47_1]
  exact propext ⟨fun h => h.2, fun h => ⟨rfl, h⟩⟩
theorem v47_4 {z : P0} {st : List Value} {cu : Nat × Nat} {Q : Res → Mem → Prop} {σ : Mem} {x1 : Option Value} {u : Nat} : X z 47 4 [some (.ref u), x1] (st) cu σ Q = (X z 47 5 [some (.ref u), x1] (.ref u :: st) cu σ Q) := by
  rw [x47_4]
  rfl
theorem v47_5 {z : P0} {st : List Value} {cu : Nat × Nat} {Q : Res → Mem → Prop} {σ : Mem} {x0 x1 : Option Value} : X z 47 5 [x0, x1] (st) cu σ Q = (X z 47 7 [x0, x1] (.int (nI 20) :: st) cu σ Q) := by
  rw [x47_5]
  rfl
theorem v47_7 {z : P0} {st : List Value} {Q : Res → Mem → Prop} {K : Nat → Nat × Nat} {I : Nat → Nat → Int32} {R : Nat → Nat → Option Nat} {L : Nat → Nat → Int64} {sz : Nat} {ex : Bool} {x0 x1 : Option Value} {c n : Nat} {v : Int32} : X z 47 7 [x0, x1] (.int v :: st) (c, n) (K, I, R, L, sz, ex) Q = (ex = true ∧ ¬ v < 0 ∧ v.toNatClampNeg ≤ 3000 ∧ (c + 1 ≤ 65 ∧ n + v.toNatClampNeg ≤ 528) ∧ X z 47 10 [x0, x1] (.ref sz :: st) (c + 1, n + v.toNatClampNeg) (upK K sz (23, v.toNatClampNeg), I, R, L, sz + 1, ex) Q) := by
  rw [x47_7]
  rfl
theorem v47_10 {z : P0} {st : List Value} {cu : Nat × Nat} {Q : Res → Mem → Prop} {K : Nat → Nat × Nat} {I : Nat → Nat → Int32} {R : Nat → Nat → Option Nat} {L : Nat → Nat → Int64} {sz : Nat} {ex : Bool} {x0 x1 : Option Value} {u v : Nat} : X z 47 10 [x0, x1] (.ref v :: .ref u :: st) cu (K, I, R, L, sz, ex) Q = ((K u).1 = 108 ∧ X z 47 13 [x0, x1] (st) cu (K, I, up2 R u 0 (some v), L, sz, ex) Q) := by
  rw [x47_10]
  exact i_putA
theorem v47_13 {z : P0} {st : List Value} {cu : Nat × Nat} {Q : Res → Mem → Prop} {σ : Mem} {x1 : Option Value} {u : Nat} : X z 47 13 [some (.ref u), x1] (st) cu σ Q = (X z 47 14 [some (.ref u), x1] (.ref u :: st) cu σ Q) := by
  rw [x47_13]
  rfl
theorem v47_14 {z : P0} {st : List Value} {cu : Nat × Nat} {Q : Res → Mem → Prop} {σ : Mem} {x0 x1 : Option Value} : X z 47 14 [x0, x1] (st) cu σ Q = (X z 47 16 [x0, x1] (.int (nI 10) :: st) cu σ Q) := by
  rw [x47_14]
  rfl
theorem v47_16 {z : P0} {st : List Value} {Q : Res → Mem → Prop} {K : Nat → Nat × Nat} {I : Nat → Nat → Int32} {R : Nat → Nat → Option Nat} {L : Nat → Nat → Int64} {sz : Nat} {ex : Bool} {x0 x1 : Option Value} {c n : Nat} {v : Int32} : X z 47 16 [x0, x1] (.int v :: st) (c, n) (K, I, R, L, sz, ex) Q = (ex = true ∧ ¬ v < 0 ∧ v.toNatClampNeg ≤ 3000 ∧ (c + 1 ≤ 65 ∧ n + v.toNatClampNeg ≤ 528) ∧ X z 47 19 [x0, x1] (.ref sz :: st) (c + 1, n + v.toNatClampNeg) (upK K sz (25, v.toNatClampNeg), I, R, L, sz + 1, ex) Q) := by
  rw [x47_16]
  rfl
theorem v47_19 {z : P0} {st : List Value} {cu : Nat × Nat} {Q : Res → Mem → Prop} {K : Nat → Nat × Nat} {I : Nat → Nat → Int32} {R : Nat → Nat → Option Nat} {L : Nat → Nat → Int64} {sz : Nat} {ex : Bool} {x0 x1 : Option Value} {u v : Nat} : X z 47 19 [x0, x1] (.ref v :: .ref u :: st) cu (K, I, R, L, sz, ex) Q = ((K u).1 = 108 ∧ X z 47 22 [x0, x1] (st) cu (K, I, up2 R u 2 (some v), L, sz, ex) Q) := by
  rw [x47_19]
  exact i_putA
theorem v47_22 {z : P0} {st : List Value} {cu : Nat × Nat} {Q : Res → Mem → Prop} {σ : Mem} {x1 : Option Value} {u : Nat} : X z 47 22 [some (.ref u), x1] (st) cu σ Q = (X z 47 23 [some (.ref u), x1] (.ref u :: st) cu σ Q) := by
  rw [x47_22]
  rfl
theorem v47_23 {z : P0} {st : List Value} {Q : Res → Mem → Prop} {K : Nat → Nat × Nat} {I : Nat → Nat → Int32} {R : Nat → Nat → Option Nat} {L : Nat → Nat → Int64} {sz : Nat} {ex : Bool} {x0 x1 : Option Value} {c n : Nat} : X z 47 23 [x0, x1] (st) (c, n) (K, I, R, L, sz, ex) Q = (ex = true ∧ (c + 1 ≤ 65 ∧ n + 2 ≤ 528) ∧ X z 47 26 [x0, x1] (.ref sz :: st) (c + 1, n + 2) (upK K sz (104, 0), I, R, L, sz + 1, ex) Q) := by
  rw [x47_23]
  rfl
theorem v47_26 {z : P0} {st : List Value} {cu : Nat × Nat} {Q : Res → Mem → Prop} {σ : Mem} {x0 x1 : Option Value} {u : Nat} : X z 47 26 [x0, x1] (.ref u :: st) cu σ Q = (X z 47 27 [x0, x1] (.ref u :: .ref u :: st) cu σ Q) := by
  rw [x47_26]
  exact propext ⟨fun h => h.2, fun h => ⟨rfl, h⟩⟩
theorem v47_26i {z : P0} {st : List Value} {cu : Nat × Nat} {Q : Res → Mem → Prop} {σ : Mem} {x0 x1 : Option Value} {u : Int32} : X z 47 26 [x0, x1] (.int u :: st) cu σ Q = (X z 47 27 [x0, x1] (.int u :: .int u :: st) cu σ Q) := by
  rw [x47_26]
  exact propext ⟨fun h => h.2, fun h => ⟨rfl, h⟩⟩
theorem u47_27 {z : P0} {ls : Lcs} {st : List Value} {c n : Nat} {K : Nat → Nat × Nat} {I : Nat → Nat → Int32} {R : Nat → Nat → Option Nat} {L : Nat → Nat → Int64} {sz : Nat} {ex : Bool} {Q : Res → Mem → Prop} {x : Nat} : X z 47 27 ls (.ref x :: st) (c, n) (K, I, R, L, sz, ex) Q = ((K x).1 = 104 ∧ wsum st ≤ 8 ∧ c + 1 ≤ 65 ∧ n + 60 ≤ 528 ∧ X z 27 0 [some (.ref x)] [] (0, 0) (K, I, R, L, sz, ex) (aftr (X z) mT 47 27 ls st (c + 1, n + 60) Q)) := v47_27
theorem v47_30 {z : P0} {st : List Value} {cu : Nat × Nat} {Q : Res → Mem → Prop} {K : Nat → Nat × Nat} {I : Nat → Nat → Int32} {R : Nat → Nat → Option Nat} {L : Nat → Nat → Int64} {sz : Nat} {ex : Bool} {x0 x1 : Option Value} {u v : Nat} : X z 47 30 [x0, x1] (.ref v :: .ref u :: st) cu (K, I, R, L, sz, ex) Q = ((K u).1 = 108 ∧ X z 47 33 [x0, x1] (st) cu (K, I, up2 R u 4 (some v), L, sz, ex) Q) := by
  rw [x47_30]
  exact i_putA
theorem v47_33 {z : P0} {st : List Value} {cu : Nat × Nat} {Q : Res → Mem → Prop} {σ : Mem} {x1 : Option Value} {u : Nat} : X z 47 33 [some (.ref u), x1] (st) cu σ Q = (X z 47 34 [some (.ref u), x1] (.ref u :: st) cu σ Q) := by
  rw [x47_33]
  rfl
theorem v47_34 {z : P0} {st : List Value} {cu : Nat × Nat} {Q : Res → Mem → Prop} {σ : Mem} {x0 x1 : Option Value} : X z 47 34 [x0, x1] (st) cu σ Q = (X z 47 36 [x0, x1] (.int (nI 6) :: st) cu σ Q) := by
  rw [x47_34]
  rfl
theorem v47_36 {z : P0} {st : List Value} {Q : Res → Mem → Prop} {K : Nat → Nat × Nat} {I : Nat → Nat → Int32} {R : Nat → Nat → Option Nat} {L : Nat → Nat → Int64} {sz : Nat} {ex : Bool} {x0 x1 : Option Value} {c n : Nat} {v : Int32} : X z 47 36 [x0, x1] (.int v :: st) (c, n) (K, I, R, L, sz, ex) Q = (ex = true ∧ ¬ v < 0 ∧ v.toNatClampNeg ≤ 3000 ∧ (c + 1 ≤ 65 ∧ n + v.toNatClampNeg ≤ 528) ∧ X z 47 38 [x0, x1] (.ref sz :: st) (c + 1, n + v.toNatClampNeg) (upK K sz (20, v.toNatClampNeg), I, R, L, sz + 1, ex) Q) := by
  rw [x47_36]
  rfl
theorem v47_38 {z : P0} {st : List Value} {cu : Nat × Nat} {Q : Res → Mem → Prop} {K : Nat → Nat × Nat} {I : Nat → Nat → Int32} {R : Nat → Nat → Option Nat} {L : Nat → Nat → Int64} {sz : Nat} {ex : Bool} {x0 x1 : Option Value} {u v : Nat} : X z 47 38 [x0, x1] (.ref v :: .ref u :: st) cu (K, I, R, L, sz, ex) Q = ((K u).1 = 108 ∧ X z 47 41 [x0, x1] (st) cu (K, I, up2 R u 5 (some v), L, sz, ex) Q) := by
  rw [x47_38]
  exact i_putA
theorem v47_41 {z : P0} {st : List Value} {cu : Nat × Nat} {Q : Res → Mem → Prop} {σ : Mem} {x0 x1 : Option Value} : X z 47 41 [x0, x1] (st) cu σ Q = (X z 47 42 [x0, x1] (.int (nI 0) :: st) cu σ Q) := by
  rw [x47_41]
  rfl
theorem v47_42 {z : P0} {st : List Value} {cu : Nat × Nat} {Q : Res → Mem → Prop} {σ : Mem} {x0 x1 : Option Value} {u : Int32} : X z 47 42 [x0, x1] (.int u :: st) cu σ Q = (cat2 x0 = false ∧ X z 47 43 [x0, some (.int u)] (st) cu σ Q) := by
  rw [x47_42]
  obtain ⟨K, I, R, L, sz, ex⟩ := σ
  exact i_istore_n.trans sl_1
theorem v47_43 {z : P0} {st : List Value} {cu : Nat × Nat} {Q : Res → Mem → Prop} {σ : Mem} {x0 : Option Value} {u : Int32} : X z 47 43 [x0, some (.int u)] (st) cu σ Q = (X z 47 44 [x0, some (.int u)] (.int u :: st) cu σ Q) := by
  rw [x47_43]
  rfl
theorem v47_44 {z : P0} {st : List Value} {cu : Nat × Nat} {Q : Res → Mem → Prop} {σ : Mem} {x0 x1 : Option Value} : X z 47 44 [x0, x1] (st) cu σ Q = (X z 47 46 [x0, x1] (.int (nI 20) :: st) cu σ Q) := by
  rw [x47_44]
  rfl
theorem v47_46 {z : P0} {st : List Value} {cu : Nat × Nat} {Q : Res → Mem → Prop} {σ : Mem} {x0 x1 : Option Value} {u v : Int32} : X z 47 46 [x0, x1] (.int v :: .int u :: st) cu σ Q = (if u < v then X z 47 49 [x0, x1] (st) cu σ Q else X z 47 68 [x0, x1] (st) cu σ Q) := by
  rw [x47_46]
  obtain ⟨K, I, R, L, sz, ex⟩ := σ
  exact br_ge
theorem v47_49 {z : P0} {st : List Value} {cu : Nat × Nat} {Q : Res → Mem → Prop} {σ : Mem} {x1 : Option Value} {u : Nat} : X z 47 49 [some (.ref u), x1] (st) cu σ Q = (X z 47 50 [some (.ref u), x1] (.ref u :: st) cu σ Q) := by
  rw [x47_49]
  rfl
theorem v47_50 {z : P0} {st : List Value} {cu : Nat × Nat} {Q : Res → Mem → Prop} {K : Nat → Nat × Nat} {I : Nat → Nat → Int32} {R : Nat → Nat → Option Nat} {L : Nat → Nat → Int64} {sz : Nat} {ex : Bool} {x0 x1 : Option Value} {u : Nat} : X z 47 50 [x0, x1] (.ref u :: st) cu (K, I, R, L, sz, ex) Q = ((K u).1 = 108 ∧ X z 47 53 [x0, x1] (va_rf (R u 0) :: st) cu (K, I, R, L, sz, ex) Q) := by
  rw [x47_50]
  rfl
theorem v47_53 {z : P0} {st : List Value} {cu : Nat × Nat} {Q : Res → Mem → Prop} {σ : Mem} {x0 : Option Value} {u : Int32} : X z 47 53 [x0, some (.int u)] (st) cu σ Q = (X z 47 54 [x0, some (.int u)] (.int u :: st) cu σ Q) := by
  rw [x47_53]
  rfl
theorem v47_54 {z : P0} {st : List Value} {Q : Res → Mem → Prop} {K : Nat → Nat × Nat} {I : Nat → Nat → Int32} {R : Nat → Nat → Option Nat} {L : Nat → Nat → Int64} {sz : Nat} {ex : Bool} {x0 x1 : Option Value} {c n : Nat} : X z 47 54 [x0, x1] (st) (c, n) (K, I, R, L, sz, ex) Q = (ex = true ∧ (c + 1 ≤ 65 ∧ n + 8 ≤ 528) ∧ X z 47 57 [x0, x1] (.ref sz :: st) (c + 1, n + 8) (upK K sz (107, 0), I, R, L, sz + 1, ex) Q) := by
  rw [x47_54]
  rfl
theorem v47_57 {z : P0} {st : List Value} {cu : Nat × Nat} {Q : Res → Mem → Prop} {σ : Mem} {x0 x1 : Option Value} {u : Nat} : X z 47 57 [x0, x1] (.ref u :: st) cu σ Q = (X z 47 58 [x0, x1] (.ref u :: .ref u :: st) cu σ Q) := by
  rw [x47_57]
  exact propext ⟨fun h => h.2, fun h => ⟨rfl, h⟩⟩
theorem v47_57i {z : P0} {st : List Value} {cu : Nat × Nat} {Q : Res → Mem → Prop} {σ : Mem} {x0 x1 : Option Value} {u : Int32} : X z 47 57 [x0, x1] (.int u :: st) cu σ Q = (X z 47 58 [x0, x1] (.int u :: .int u :: st) cu σ Q) := by
  rw [x47_57]
  exact propext ⟨fun h => h.2, fun h => ⟨rfl, h⟩⟩
theorem u47_58 {z : P0} {ls : Lcs} {st : List Value} {c n : Nat} {K : Nat → Nat × Nat} {I : Nat → Nat → Int32} {R : Nat → Nat → Option Nat} {L : Nat → Nat → Int64} {sz : Nat} {ex : Bool} {Q : Res → Mem → Prop} {x : Nat} : X z 47 58 ls (.ref x :: st) (c, n) (K, I, R, L, sz, ex) Q = ((K x).1 = 107 ∧ wsum st ≤ 8 ∧ c + 1 ≤ 65 ∧ n + 8 ≤ 528 ∧ X z 44 0 [some (.ref x)] [] (0, 0) (K, I, R, L, sz, ex) (aftr (X z) mT 47 58 ls st (c + 1, n + 8) Q)) := v47_58
theorem v47_61 {z : P0} {st : List Value} {cu : Nat × Nat} {Q : Res → Mem → Prop} {K : Nat → Nat × Nat} {I : Nat → Nat → Int32} {R : Nat → Nat → Option Nat} {L : Nat → Nat → Int64} {sz : Nat} {ex : Bool} {x0 x1 : Option Value} {u v : Nat} {j : Int32} : X z 47 61 [x0, x1] (.ref v :: .int j :: .ref u :: st) cu (K, I, R, L, sz, ex) Q = (((K u).1 = 22 ∨ (K u).1 = 23 ∨ (K u).1 = 24 ∨ (K u).1 = 25) ∧ (K v).1 = elC (K u).1 ∧ vp_in j (K u).2 ∧ X z 47 62 [x0, x1] (st) cu (K, I, up2 R u j.toNatClampNeg (some v), L, sz, ex) Q) := by
  rw [x47_61]
  rfl
theorem v47_62 {z : P0} {st : List Value} {cu : Nat × Nat} {Q : Res → Mem → Prop} {σ : Mem} {x0 : Option Value} {u : Int32} : X z 47 62 [x0, some (.int u)] (st) cu σ Q = (cat2 x0 = false ∧ X z 47 65 [x0, some (.int (u + nI 1))] (st) cu σ Q) := by
  rw [x47_62]
  obtain ⟨K, I, R, L, sz, ex⟩ := σ
  exact i_iinc.trans (gl_1.trans (ldI_i.trans sl_1))
theorem v47_65 {z : P0} {st : List Value} {cu : Nat × Nat} {Q : Res → Mem → Prop} {σ : Mem} {x0 x1 : Option Value} : X z 47 65 [x0, x1] (st) cu σ Q = (X z 47 43 [x0, x1] (st) cu σ Q) := by
  rw [x47_65]
  rfl
theorem v47_68 {z : P0} {st : List Value} {cu : Nat × Nat} {Q : Res → Mem → Prop} {σ : Mem} {x0 x1 : Option Value} : X z 47 68 [x0, x1] (st) cu σ Q = (X z 47 69 [x0, x1] (.int (nI 0) :: st) cu σ Q) := by
  rw [x47_68]
  rfl
theorem v47_69 {z : P0} {st : List Value} {cu : Nat × Nat} {Q : Res → Mem → Prop} {σ : Mem} {x0 x1 : Option Value} {u : Int32} : X z 47 69 [x0, x1] (.int u :: st) cu σ Q = (cat2 x0 = false ∧ X z 47 70 [x0, some (.int u)] (st) cu σ Q) := by
  rw [x47_69]
  obtain ⟨K, I, R, L, sz, ex⟩ := σ
  exact i_istore_n.trans sl_1
theorem v47_70 {z : P0} {st : List Value} {cu : Nat × Nat} {Q : Res → Mem → Prop} {σ : Mem} {x0 : Option Value} {u : Int32} : X z 47 70 [x0, some (.int u)] (st) cu σ Q = (X z 47 71 [x0, some (.int u)] (.int u :: st) cu σ Q) := by
  rw [x47_70]
  rfl
theorem v47_71 {z : P0} {st : List Value} {cu : Nat × Nat} {Q : Res → Mem → Prop} {σ : Mem} {x0 x1 : Option Value} : X z 47 71 [x0, x1] (st) cu σ Q = (X z 47 73 [x0, x1] (.int (nI 10) :: st) cu σ Q) := by
  rw [x47_71]
  rfl
theorem v47_73 {z : P0} {st : List Value} {cu : Nat × Nat} {Q : Res → Mem → Prop} {σ : Mem} {x0 x1 : Option Value} {u v : Int32} : X z 47 73 [x0, x1] (.int v :: .int u :: st) cu σ Q = (if u < v then X z 47 76 [x0, x1] (st) cu σ Q else X z 47 95 [x0, x1] (st) cu σ Q) := by
  rw [x47_73]
  obtain ⟨K, I, R, L, sz, ex⟩ := σ
  exact br_ge
theorem v47_76 {z : P0} {st : List Value} {cu : Nat × Nat} {Q : Res → Mem → Prop} {σ : Mem} {x1 : Option Value} {u : Nat} : X z 47 76 [some (.ref u), x1] (st) cu σ Q = (X z 47 77 [some (.ref u), x1] (.ref u :: st) cu σ Q) := by
  rw [x47_76]
  rfl
theorem v47_77 {z : P0} {st : List Value} {cu : Nat × Nat} {Q : Res → Mem → Prop} {K : Nat → Nat × Nat} {I : Nat → Nat → Int32} {R : Nat → Nat → Option Nat} {L : Nat → Nat → Int64} {sz : Nat} {ex : Bool} {x0 x1 : Option Value} {u : Nat} : X z 47 77 [x0, x1] (.ref u :: st) cu (K, I, R, L, sz, ex) Q = ((K u).1 = 108 ∧ X z 47 80 [x0, x1] (va_rf (R u 2) :: st) cu (K, I, R, L, sz, ex) Q) := by
  rw [x47_77]
  rfl
theorem v47_80 {z : P0} {st : List Value} {cu : Nat × Nat} {Q : Res → Mem → Prop} {σ : Mem} {x0 : Option Value} {u : Int32} : X z 47 80 [x0, some (.int u)] (st) cu σ Q = (X z 47 81 [x0, some (.int u)] (.int u :: st) cu σ Q) := by
  rw [x47_80]
  rfl
theorem v47_81 {z : P0} {st : List Value} {Q : Res → Mem → Prop} {K : Nat → Nat × Nat} {I : Nat → Nat → Int32} {R : Nat → Nat → Option Nat} {L : Nat → Nat → Int64} {sz : Nat} {ex : Bool} {x0 x1 : Option Value} {c n : Nat} : X z 47 81 [x0, x1] (st) (c, n) (K, I, R, L, sz, ex) Q = (ex = true ∧ (c + 1 ≤ 65 ∧ n + 3 ≤ 528) ∧ X z 47 84 [x0, x1] (.ref sz :: st) (c + 1, n + 3) (upK K sz (109, 0), I, R, L, sz + 1, ex) Q) := by
  rw [x47_81]
  rfl
theorem v47_84 {z : P0} {st : List Value} {cu : Nat × Nat} {Q : Res → Mem → Prop} {σ : Mem} {x0 x1 : Option Value} {u : Nat} : X z 47 84 [x0, x1] (.ref u :: st) cu σ Q = (X z 47 85 [x0, x1] (.ref u :: .ref u :: st) cu σ Q) := by
  rw [x47_84]
  exact propext ⟨fun h => h.2, fun h => ⟨rfl, h⟩⟩
theorem v47_84i {z : P0} {st : List Value} {cu : Nat × Nat} {Q : Res → Mem → Prop} {σ : Mem} {x0 x1 : Option Value} {u : Int32} : X z 47 84 [x0, x1] (.int u :: st) cu σ Q = (X z 47 85 [x0, x1] (.int u :: .int u :: st) cu σ Q) := by
  rw [x47_84]
  exact propext ⟨fun h => h.2, fun h => ⟨rfl, h⟩⟩
theorem u47_85 {z : P0} {ls : Lcs} {st : List Value} {c n : Nat} {K : Nat → Nat × Nat} {I : Nat → Nat → Int32} {R : Nat → Nat → Option Nat} {L : Nat → Nat → Int64} {sz : Nat} {ex : Bool} {Q : Res → Mem → Prop} {x : Nat} : X z 47 85 ls (.ref x :: st) (c, n) (K, I, R, L, sz, ex) Q = ((K x).1 = 109 ∧ wsum st ≤ 8 ∧ c + 1 ≤ 65 ∧ n + 8 ≤ 528 ∧ X z 52 0 [some (.ref x)] [] (0, 0) (K, I, R, L, sz, ex) (aftr (X z) mT 47 85 ls st (c + 1, n + 8) Q)) := v47_85
theorem v47_88 {z : P0} {st : List Value} {cu : Nat × Nat} {Q : Res → Mem → Prop} {K : Nat → Nat × Nat} {I : Nat → Nat → Int32} {R : Nat → Nat → Option Nat} {L : Nat → Nat → Int64} {sz : Nat} {ex : Bool} {x0 x1 : Option Value} {u v : Nat} {j : Int32} : X z 47 88 [x0, x1] (.ref v :: .int j :: .ref u :: st) cu (K, I, R, L, sz, ex) Q = (((K u).1 = 22 ∨ (K u).1 = 23 ∨ (K u).1 = 24 ∨ (K u).1 = 25) ∧ (K v).1 = elC (K u).1 ∧ vp_in j (K u).2 ∧ X z 47 89 [x0, x1] (st) cu (K, I, up2 R u j.toNatClampNeg (some v), L, sz, ex) Q) := by
  rw [x47_88]
  rfl
theorem v47_89 {z : P0} {st : List Value} {cu : Nat × Nat} {Q : Res → Mem → Prop} {σ : Mem} {x0 : Option Value} {u : Int32} : X z 47 89 [x0, some (.int u)] (st) cu σ Q = (cat2 x0 = false ∧ X z 47 92 [x0, some (.int (u + nI 1))] (st) cu σ Q) := by
  rw [x47_89]
  obtain ⟨K, I, R, L, sz, ex⟩ := σ
  exact i_iinc.trans (gl_1.trans (ldI_i.trans sl_1))
theorem v47_92 {z : P0} {st : List Value} {cu : Nat × Nat} {Q : Res → Mem → Prop} {σ : Mem} {x0 x1 : Option Value} : X z 47 92 [x0, x1] (st) cu σ Q = (X z 47 70 [x0, x1] (st) cu σ Q) := by
  rw [x47_92]
  rfl
theorem v47_95 {z : P0} {st : List Value} {cu : Nat × Nat} {Q : Res → Mem → Prop} {σ : Mem} {x0 x1 : Option Value} : X z 47 95 [x0, x1] (st) cu σ Q = (X z 47 98 [x0, x1] (.ref (z.1 0) :: st) cu σ Q) := by
  rw [x47_95]
  rfl
theorem v47_98 {z : P0} {st : List Value} {cu : Nat × Nat} {Q : Res → Mem → Prop} {σ : Mem} {x0 x1 : Option Value} : X z 47 98 [x0, x1] (st) cu σ Q = (X z 47 99 [x0, x1] (.int (nI 0) :: st) cu σ Q) := by
  rw [x47_98]
  rfl
theorem v47_99 {z : P0} {st : List Value} {cu : Nat × Nat} {Q : Res → Mem → Prop} {σ : Mem} {x1 : Option Value} {u : Nat} : X z 47 99 [some (.ref u), x1] (st) cu σ Q = (X z 47 100 [some (.ref u), x1] (.ref u :: st) cu σ Q) := by
  rw [x47_99]
  rfl
theorem v47_100 {z : P0} {st : List Value} {cu : Nat × Nat} {Q : Res → Mem → Prop} {K : Nat → Nat × Nat} {I : Nat → Nat → Int32} {R : Nat → Nat → Option Nat} {L : Nat → Nat → Int64} {sz : Nat} {ex : Bool} {x0 x1 : Option Value} {u : Nat} : X z 47 100 [x0, x1] (.ref u :: st) cu (K, I, R, L, sz, ex) Q = ((K u).1 = 108 ∧ X z 47 103 [x0, x1] (va_rf (R u 5) :: st) cu (K, I, R, L, sz, ex) Q) := by
  rw [x47_100]
  rfl
theorem v47_103 {z : P0} {st : List Value} {cu : Nat × Nat} {Q : Res → Mem → Prop} {σ : Mem} {x0 x1 : Option Value} : X z 47 103 [x0, x1] (st) cu σ Q = (X z 47 104 [x0, x1] (.int (nI 0) :: st) cu σ Q) := by
  rw [x47_103]
  rfl
theorem v47_104 {z : P0} {st : List Value} {cu : Nat × Nat} {Q : Res → Mem → Prop} {σ : Mem} {x0 x1 : Option Value} : X z 47 104 [x0, x1] (st) cu σ Q = (X z 47 106 [x0, x1] (.int (nI 6) :: st) cu σ Q) := by
  rw [x47_104]
  rfl
theorem v47_106 {z : P0} {st : List Value} {cu : Nat × Nat} {Q : Res → Mem → Prop} {K : Nat → Nat × Nat} {I : Nat → Nat → Int32} {R : Nat → Nat → Option Nat} {L : Nat → Nat → Int64} {sz : Nat} {ex : Bool} {x0 x1 : Option Value} {u d : Nat} {v sp dp : Int32} : X z 47 106 [x0, x1] (.int v :: .int dp :: .ref d :: .int sp :: .ref u :: st) cu (K, I, R, L, sz, ex) Q = (((K u).1 = 20 ∨ (K u).1 = 50) ∧ (K d).1 = 20 ∧ ¬ sp < 0 ∧ ¬ dp < 0 ∧ ¬ v < 0 ∧ sp.toNatClampNeg + v.toNatClampNeg ≤ (K u).2 ∧ dp.toNatClampNeg + v.toNatClampNeg ≤ (K d).2 ∧ wsum st ≤ 8 ∧ X z 47 109 [x0, x1] (st) cu (K, cpI I u sp.toNatClampNeg d dp.toNatClampNeg v.toNatClampNeg, R, L, sz, ex) Q) := by
  rw [x47_106]
  rfl
theorem v47_109 {z : P0} {cu : Nat × Nat} {Q : Res → Mem → Prop} {σ : Mem} {x0 x1 : Option Value} : X z 47 109 [x0, x1] ([]) cu σ Q = (Q (.inl none) σ) := by
  rw [x47_109]
  rfl
theorem v48_0 {z : P0} {st : List Value} {cu : Nat × Nat} {Q : Res → Mem → Prop} {σ : Mem} {x0 x1 x2 : Option Value} : X z 48 0 [x0, x1, x2] (st) cu σ Q = (X z 48 1 [x0, x1, x2] (.int (nI 0) :: st) cu σ Q) := by
  rw [x48_0]
  rfl
theorem v48_1 {z : P0} {st : List Value} {cu : Nat × Nat} {Q : Res → Mem → Prop} {σ : Mem} {x0 x1 x2 : Option Value} {u : Int32} : X z 48 1 [x0, x1, x2] (.int u :: st) cu σ Q = (cat2 x1 = false ∧ X z 48 2 [x0, x1, some (.int u)] (st) cu σ Q) := by
  rw [x48_1]
  obtain ⟨K, I, R, L, sz, ex⟩ := σ
  exact i_istore_n.trans sl_2
theorem v48_2 {z : P0} {st : List Value} {cu : Nat × Nat} {Q : Res → Mem → Prop} {σ : Mem} {x0 x1 : Option Value} {u : Int32} : X z 48 2 [x0, x1, some (.int u)] (st) cu σ Q = (X z 48 3 [x0, x1, some (.int u)] (.int u :: st) cu σ Q) := by
  rw [x48_2]
  rfl
theorem v48_3 {z : P0} {st : List Value} {cu : Nat × Nat} {Q : Res → Mem → Prop} {σ : Mem} {x0 x2 : Option Value} {u : Nat} : X z 48 3 [x0, some (.ref u), x2] (st) cu σ Q = (X z 48 4 [x0, some (.ref u), x2] (.ref u :: st) cu σ Q) := by
  rw [x48_3]
  rfl
theorem v48_4 {z : P0} {st : List Value} {cu : Nat × Nat} {Q : Res → Mem → Prop} {K : Nat → Nat × Nat} {I : Nat → Nat → Int32} {R : Nat → Nat → Option Nat} {L : Nat → Nat → Int64} {sz : Nat} {ex : Bool} {x0 x1 x2 : Option Value} {u : Nat} : X z 48 4 [x0, x1, x2] (.ref u :: st) cu (K, I, R, L, sz, ex) Q = ((K u).1 = 108 ∧ X z 48 7 [x0, x1, x2] (.int (I u 1) :: st) cu (K, I, R, L, sz, ex) Q) := by
  rw [x48_4]
  rfl
theorem v48_7 {z : P0} {st : List Value} {cu : Nat × Nat} {Q : Res → Mem → Prop} {σ : Mem} {x0 x1 x2 : Option Value} {u v : Int32} : X z 48 7 [x0, x1, x2] (.int v :: .int u :: st) cu σ Q = (if u < v then X z 48 10 [x0, x1, x2] (st) cu σ Q else X z 48 31 [x0, x1, x2] (st) cu σ Q) := by
  rw [x48_7]
  obtain ⟨K, I, R, L, sz, ex⟩ := σ
  exact br_ge
theorem v48_10 {z : P0} {st : List Value} {cu : Nat × Nat} {Q : Res → Mem → Prop} {σ : Mem} {x1 x2 : Option Value} {u : Nat} : X z 48 10 [some (.ref u), x1, x2] (st) cu σ Q = (X z 48 11 [some (.ref u), x1, x2] (.ref u :: st) cu σ Q) := by
  rw [x48_10]
  rfl
theorem v48_11 {z : P0} {st : List Value} {cu : Nat × Nat} {Q : Res → Mem → Prop} {K : Nat → Nat × Nat} {I : Nat → Nat → Int32} {R : Nat → Nat → Option Nat} {L : Nat → Nat → Int64} {sz : Nat} {ex : Bool} {x0 x1 x2 : Option Value} {u : Nat} : X z 48 11 [x0, x1, x2] (.ref u :: st) cu (K, I, R, L, sz, ex) Q = ((K u).1 = 108 ∧ X z 48 14 [x0, x1, x2] (va_rf (R u 0) :: st) cu (K, I, R, L, sz, ex) Q) := by
  rw [x48_11]
  rfl
theorem v48_14 {z : P0} {st : List Value} {cu : Nat × Nat} {Q : Res → Mem → Prop} {σ : Mem} {x0 x1 : Option Value} {u : Int32} : X z 48 14 [x0, x1, some (.int u)] (st) cu σ Q = (X z 48 15 [x0, x1, some (.int u)] (.int u :: st) cu σ Q) := by
  rw [x48_14]
  rfl
theorem v48_15 {z : P0} {st : List Value} {cu : Nat × Nat} {Q : Res → Mem → Prop} {K : Nat → Nat × Nat} {I : Nat → Nat → Int32} {R : Nat → Nat → Option Nat} {L : Nat → Nat → Int64} {sz : Nat} {ex : Bool} {x0 x1 x2 : Option Value} {u : Nat} {v : Int32} : X z 48 15 [x0, x1, x2] (.int v :: .ref u :: st) cu (K, I, R, L, sz, ex) Q = (((K u).1 = 22 ∨ (K u).1 = 23 ∨ (K u).1 = 24 ∨ (K u).1 = 25) ∧ vp_in v (K u).2 ∧ X z 48 16 [x0, x1, x2] (va_rf (R u v.toNatClampNeg) :: st) cu (K, I, R, L, sz, ex) Q) := by
  rw [x48_15]
  rfl
theorem v48_16 {z : P0} {st : List Value} {cu : Nat × Nat} {Q : Res → Mem → Prop} {σ : Mem} {x0 x2 : Option Value} {u : Nat} : X z 48 16 [x0, some (.ref u), x2] (st) cu σ Q = (X z 48 17 [x0, some (.ref u), x2] (.ref u :: st) cu σ Q) := by
  rw [x48_16]
  rfl
theorem v48_17 {z : P0} {st : List Value} {cu : Nat × Nat} {Q : Res → Mem → Prop} {K : Nat → Nat × Nat} {I : Nat → Nat → Int32} {R : Nat → Nat → Option Nat} {L : Nat → Nat → Int64} {sz : Nat} {ex : Bool} {x0 x1 x2 : Option Value} {u : Nat} : X z 48 17 [x0, x1, x2] (.ref u :: st) cu (K, I, R, L, sz, ex) Q = ((K u).1 = 108 ∧ X z 48 20 [x0, x1, x2] (va_rf (R u 0) :: st) cu (K, I, R, L, sz, ex) Q) := by
  rw [x48_17]
  rfl
theorem v48_20 {z : P0} {st : List Value} {cu : Nat × Nat} {Q : Res → Mem → Prop} {σ : Mem} {x0 x1 : Option Value} {u : Int32} : X z 48 20 [x0, x1, some (.int u)] (st) cu σ Q = (X z 48 21 [x0, x1, some (.int u)] (.int u :: st) cu σ Q) := by
  rw [x48_20]
  rfl
theorem v48_21 {z : P0} {st : List Value} {cu : Nat × Nat} {Q : Res → Mem → Prop} {K : Nat → Nat × Nat} {I : Nat → Nat → Int32} {R : Nat → Nat → Option Nat} {L : Nat → Nat → Int64} {sz : Nat} {ex : Bool} {x0 x1 x2 : Option Value} {u : Nat} {v : Int32} : X z 48 21 [x0, x1, x2] (.int v :: .ref u :: st) cu (K, I, R, L, sz, ex) Q = (((K u).1 = 22 ∨ (K u).1 = 23 ∨ (K u).1 = 24 ∨ (K u).1 = 25) ∧ vp_in v (K u).2 ∧ X z 48 22 [x0, x1, x2] (va_rf (R u v.toNatClampNeg) :: st) cu (K, I, R, L, sz, ex) Q) := by
  rw [x48_21]
  rfl
theorem u48_22 {z : P0} {ls : Lcs} {st : List Value} {K : Nat → Nat × Nat} {I : Nat → Nat → Int32} {R : Nat → Nat → Option Nat} {L : Nat → Nat → Int64} {sz : Nat} {ex : Bool} {Q : Res → Mem → Prop} {x : Nat} {a0 : Nat} : X z 48 22 ls (.ref a0 :: .ref x :: st) (0, 0) (K, I, R, L, sz, ex) Q = ((K x).1 = 107 ∧ wsum st ≤ 8 ∧ X z 46 0 [some (.ref x), some (.ref a0)] [] (0, 0) (K, I, R, L, sz, ex) (aftr (X z) mT 48 22 ls st (0, 0) Q)) := v48_22 (c := 0) (n := 0)
theorem v48_25 {z : P0} {st : List Value} {cu : Nat × Nat} {Q : Res → Mem → Prop} {σ : Mem} {x0 x1 : Option Value} {u : Int32} : X z 48 25 [x0, x1, some (.int u)] (st) cu σ Q = (cat2 x1 = false ∧ X z 48 28 [x0, x1, some (.int (u + nI 1))] (st) cu σ Q) := by
  rw [x48_25]
  obtain ⟨K, I, R, L, sz, ex⟩ := σ
  exact i_iinc.trans (gl_2.trans (ldI_i.trans sl_2))
theorem v48_28 {z : P0} {st : List Value} {cu : Nat × Nat} {Q : Res → Mem → Prop} {σ : Mem} {x0 x1 x2 : Option Value} : X z 48 28 [x0, x1, x2] (st) cu σ Q = (X z 48 2 [x0, x1, x2] (st) cu σ Q) := by
  rw [x48_28]
  rfl
theorem v48_31 {z : P0} {st : List Value} {cu : Nat × Nat} {Q : Res → Mem → Prop} {σ : Mem} {x1 x2 : Option Value} {u : Nat} : X z 48 31 [some (.ref u), x1, x2] (st) cu σ Q = (X z 48 32 [some (.ref u), x1, x2] (.ref u :: st) cu σ Q) := by
  rw [x48_31]
  rfl
theorem v48_32 {z : P0} {st : List Value} {cu : Nat × Nat} {Q : Res → Mem → Prop} {σ : Mem} {x0 x2 : Option Value} {u : Nat} : X z 48 32 [x0, some (.ref u), x2] (st) cu σ Q = (X z 48 33 [x0, some (.ref u), x2] (.ref u :: st) cu σ Q) := by
  rw [x48_32]
  rfl
theorem v48_33 {z : P0} {st : List Value} {cu : Nat × Nat} {Q : Res → Mem → Prop} {K : Nat → Nat × Nat} {I : Nat → Nat → Int32} {R : Nat → Nat → Option Nat} {L : Nat → Nat → Int64} {sz : Nat} {ex : Bool} {x0 x1 x2 : Option Value} {u : Nat} : X z 48 33 [x0, x1, x2] (.ref u :: st) cu (K, I, R, L, sz, ex) Q = ((K u).1 = 108 ∧ X z 48 36 [x0, x1, x2] (.int (I u 1) :: st) cu (K, I, R, L, sz, ex) Q) := by
  rw [x48_33]
  rfl
theorem v48_36 {z : P0} {st : List Value} {cu : Nat × Nat} {Q : Res → Mem → Prop} {K : Nat → Nat × Nat} {I : Nat → Nat → Int32} {R : Nat → Nat → Option Nat} {L : Nat → Nat → Int64} {sz : Nat} {ex : Bool} {x0 x1 x2 : Option Value} {u : Nat} {v : Int32} : X z 48 36 [x0, x1, x2] (.int v :: .ref u :: st) cu (K, I, R, L, sz, ex) Q = ((K u).1 = 108 ∧ X z 48 39 [x0, x1, x2] (st) cu (K, up2 I u 1 v, R, L, sz, ex) Q) := by
  rw [x48_36]
  exact i_putI
theorem v48_39 {z : P0} {st : List Value} {cu : Nat × Nat} {Q : Res → Mem → Prop} {σ : Mem} {x0 x1 x2 : Option Value} : X z 48 39 [x0, x1, x2] (st) cu σ Q = (X z 48 40 [x0, x1, x2] (.int (nI 0) :: st) cu σ Q) := by
  rw [x48_39]
  rfl
theorem v48_40 {z : P0} {st : List Value} {cu : Nat × Nat} {Q : Res → Mem → Prop} {σ : Mem} {x0 x1 x2 : Option Value} {u : Int32} : X z 48 40 [x0, x1, x2] (.int u :: st) cu σ Q = (cat2 x1 = false ∧ X z 48 41 [x0, x1, some (.int u)] (st) cu σ Q) := by
  rw [x48_40]
  obtain ⟨K, I, R, L, sz, ex⟩ := σ
  exact i_istore_n.trans sl_2
theorem v48_41 {z : P0} {st : List Value} {cu : Nat × Nat} {Q : Res → Mem → Prop} {σ : Mem} {x0 x1 : Option Value} {u : Int32} : X z 48 41 [x0, x1, some (.int u)] (st) cu σ Q = (X z 48 42 [x0, x1, some (.int u)] (.int u :: st) cu σ Q) := by
  rw [x48_41]
  rfl
theorem v48_42 {z : P0} {st : List Value} {cu : Nat × Nat} {Q : Res → Mem → Prop} {σ : Mem} {x0 x2 : Option Value} {u : Nat} : X z 48 42 [x0, some (.ref u), x2] (st) cu σ Q = (X z 48 43 [x0, some (.ref u), x2] (.ref u :: st) cu σ Q) := by
  rw [x48_42]
  rfl
theorem v48_43 {z : P0} {st : List Value} {cu : Nat × Nat} {Q : Res → Mem → Prop} {K : Nat → Nat × Nat} {I : Nat → Nat → Int32} {R : Nat → Nat → Option Nat} {L : Nat → Nat → Int64} {sz : Nat} {ex : Bool} {x0 x1 x2 : Option Value} {u : Nat} : X z 48 43 [x0, x1, x2] (.ref u :: st) cu (K, I, R, L, sz, ex) Q = ((K u).1 = 108 ∧ X z 48 46 [x0, x1, x2] (.int (I u 3) :: st) cu (K, I, R, L, sz, ex) Q) := by
  rw [x48_43]
  rfl
theorem v48_46 {z : P0} {st : List Value} {cu : Nat × Nat} {Q : Res → Mem → Prop} {σ : Mem} {x0 x1 x2 : Option Value} {u v : Int32} : X z 48 46 [x0, x1, x2] (.int v :: .int u :: st) cu σ Q = (if u < v then X z 48 49 [x0, x1, x2] (st) cu σ Q else X z 48 70 [x0, x1, x2] (st) cu σ Q) := by
  rw [x48_46]
  obtain ⟨K, I, R, L, sz, ex⟩ := σ
  exact br_ge
theorem v48_49 {z : P0} {st : List Value} {cu : Nat × Nat} {Q : Res → Mem → Prop} {σ : Mem} {x1 x2 : Option Value} {u : Nat} : X z 48 49 [some (.ref u), x1, x2] (st) cu σ Q = (X z 48 50 [some (.ref u), x1, x2] (.ref u :: st) cu σ Q) := by
  rw [x48_49]
  rfl
theorem v48_50 {z : P0} {st : List Value} {cu : Nat × Nat} {Q : Res → Mem → Prop} {K : Nat → Nat × Nat} {I : Nat → Nat → Int32} {R : Nat → Nat → Option Nat} {L : Nat → Nat → Int64} {sz : Nat} {ex : Bool} {x0 x1 x2 : Option Value} {u : Nat} : X z 48 50 [x0, x1, x2] (.ref u :: st) cu (K, I, R, L, sz, ex) Q = ((K u).1 = 108 ∧ X z 48 53 [x0, x1, x2] (va_rf (R u 2) :: st) cu (K, I, R, L, sz, ex) Q) := by
  rw [x48_50]
  rfl
theorem v48_53 {z : P0} {st : List Value} {cu : Nat × Nat} {Q : Res → Mem → Prop} {σ : Mem} {x0 x1 : Option Value} {u : Int32} : X z 48 53 [x0, x1, some (.int u)] (st) cu σ Q = (X z 48 54 [x0, x1, some (.int u)] (.int u :: st) cu σ Q) := by
  rw [x48_53]
  rfl
theorem v48_54 {z : P0} {st : List Value} {cu : Nat × Nat} {Q : Res → Mem → Prop} {K : Nat → Nat × Nat} {I : Nat → Nat → Int32} {R : Nat → Nat → Option Nat} {L : Nat → Nat → Int64} {sz : Nat} {ex : Bool} {x0 x1 x2 : Option Value} {u : Nat} {v : Int32} : X z 48 54 [x0, x1, x2] (.int v :: .ref u :: st) cu (K, I, R, L, sz, ex) Q = (((K u).1 = 22 ∨ (K u).1 = 23 ∨ (K u).1 = 24 ∨ (K u).1 = 25) ∧ vp_in v (K u).2 ∧ X z 48 55 [x0, x1, x2] (va_rf (R u v.toNatClampNeg) :: st) cu (K, I, R, L, sz, ex) Q) := by
  rw [x48_54]
  rfl
theorem v48_55 {z : P0} {st : List Value} {cu : Nat × Nat} {Q : Res → Mem → Prop} {σ : Mem} {x0 x2 : Option Value} {u : Nat} : X z 48 55 [x0, some (.ref u), x2] (st) cu σ Q = (X z 48 56 [x0, some (.ref u), x2] (.ref u :: st) cu σ Q) := by
  rw [x48_55]
  rfl
theorem v48_56 {z : P0} {st : List Value} {cu : Nat × Nat} {Q : Res → Mem → Prop} {K : Nat → Nat × Nat} {I : Nat → Nat → Int32} {R : Nat → Nat → Option Nat} {L : Nat → Nat → Int64} {sz : Nat} {ex : Bool} {x0 x1 x2 : Option Value} {u : Nat} : X z 48 56 [x0, x1, x2] (.ref u :: st) cu (K, I, R, L, sz, ex) Q = ((K u).1 = 108 ∧ X z 48 59 [x0, x1, x2] (va_rf (R u 2) :: st) cu (K, I, R, L, sz, ex) Q) := by
  rw [x48_56]
  rfl
theorem v48_59 {z : P0} {st : List Value} {cu : Nat × Nat} {Q : Res → Mem → Prop} {σ : Mem} {x0 x1 : Option Value} {u : Int32} : X z 48 59 [x0, x1, some (.int u)] (st) cu σ Q = (X z 48 60 [x0, x1, some (.int u)] (.int u :: st) cu σ Q) := by
  rw [x48_59]
  rfl
theorem v48_60 {z : P0} {st : List Value} {cu : Nat × Nat} {Q : Res → Mem → Prop} {K : Nat → Nat × Nat} {I : Nat → Nat → Int32} {R : Nat → Nat → Option Nat} {L : Nat → Nat → Int64} {sz : Nat} {ex : Bool} {x0 x1 x2 : Option Value} {u : Nat} {v : Int32} : X z 48 60 [x0, x1, x2] (.int v :: .ref u :: st) cu (K, I, R, L, sz, ex) Q = (((K u).1 = 22 ∨ (K u).1 = 23 ∨ (K u).1 = 24 ∨ (K u).1 = 25) ∧ vp_in v (K u).2 ∧ X z 48 61 [x0, x1, x2] (va_rf (R u v.toNatClampNeg) :: st) cu (K, I, R, L, sz, ex) Q) := by
  rw [x48_60]
  rfl
theorem u48_61 {z : P0} {ls : Lcs} {st : List Value} {K : Nat → Nat × Nat} {I : Nat → Nat → Int32} {R : Nat → Nat → Option Nat} {L : Nat → Nat → Int64} {sz : Nat} {ex : Bool} {Q : Res → Mem → Prop} {x : Nat} {a0 : Nat} : X z 48 61 ls (.ref a0 :: .ref x :: st) (0, 0) (K, I, R, L, sz, ex) Q = ((K x).1 = 109 ∧ wsum st ≤ 8 ∧ X z 54 0 [some (.ref x), some (.ref a0)] [] (0, 0) (K, I, R, L, sz, ex) (aftr (X z) mT 48 61 ls st (0, 0) Q)) := v48_61 (c := 0) (n := 0)
theorem v48_64 {z : P0} {st : List Value} {cu : Nat × Nat} {Q : Res → Mem → Prop} {σ : Mem} {x0 x1 : Option Value} {u : Int32} : X z 48 64 [x0, x1, some (.int u)] (st) cu σ Q = (cat2 x1 = false ∧ X z 48 67 [x0, x1, some (.int (u + nI 1))] (st) cu σ Q) := by
  rw [x48_64]
  obtain ⟨K, I, R, L, sz, ex⟩ := σ
  exact i_iinc.trans (gl_2.trans (ldI_i.trans sl_2))
theorem v48_67 {z : P0} {st : List Value} {cu : Nat × Nat} {Q : Res → Mem → Prop} {σ : Mem} {x0 x1 x2 : Option Value} : X z 48 67 [x0, x1, x2] (st) cu σ Q = (X z 48 41 [x0, x1, x2] (st) cu σ Q) := by
  rw [x48_67]
  rfl
theorem v48_70 {z : P0} {st : List Value} {cu : Nat × Nat} {Q : Res → Mem → Prop} {σ : Mem} {x1 x2 : Option Value} {u : Nat} : X z 48 70 [some (.ref u), x1, x2] (st) cu σ Q = (X z 48 71 [some (.ref u), x1, x2] (.ref u :: st) cu σ Q) := by
  rw [x48_70]
  rfl
theorem v48_71 {z : P0} {st : List Value} {cu : Nat × Nat} {Q : Res → Mem → Prop} {σ : Mem} {x0 x2 : Option Value} {u : Nat} : X z 48 71 [x0, some (.ref u), x2] (st) cu σ Q = (X z 48 72 [x0, some (.ref u), x2] (.ref u :: st) cu σ Q) := by
  rw [x48_71]
  rfl
theorem v48_72 {z : P0} {st : List Value} {cu : Nat × Nat} {Q : Res → Mem → Prop} {K : Nat → Nat × Nat} {I : Nat → Nat → Int32} {R : Nat → Nat → Option Nat} {L : Nat → Nat → Int64} {sz : Nat} {ex : Bool} {x0 x1 x2 : Option Value} {u : Nat} : X z 48 72 [x0, x1, x2] (.ref u :: st) cu (K, I, R, L, sz, ex) Q = ((K u).1 = 108 ∧ X z 48 75 [x0, x1, x2] (.int (I u 3) :: st) cu (K, I, R, L, sz, ex) Q) := by
  rw [x48_72]
  rfl
theorem v48_75 {z : P0} {st : List Value} {cu : Nat × Nat} {Q : Res → Mem → Prop} {K : Nat → Nat × Nat} {I : Nat → Nat → Int32} {R : Nat → Nat → Option Nat} {L : Nat → Nat → Int64} {sz : Nat} {ex : Bool} {x0 x1 x2 : Option Value} {u : Nat} {v : Int32} : X z 48 75 [x0, x1, x2] (.int v :: .ref u :: st) cu (K, I, R, L, sz, ex) Q = ((K u).1 = 108 ∧ X z 48 78 [x0, x1, x2] (st) cu (K, up2 I u 3 v, R, L, sz, ex) Q) := by
  rw [x48_75]
  exact i_putI
theorem v48_78 {z : P0} {st : List Value} {cu : Nat × Nat} {Q : Res → Mem → Prop} {σ : Mem} {x1 x2 : Option Value} {u : Nat} : X z 48 78 [some (.ref u), x1, x2] (st) cu σ Q = (X z 48 79 [some (.ref u), x1, x2] (.ref u :: st) cu σ Q) := by
  rw [x48_78]
  rfl
theorem v48_79 {z : P0} {st : List Value} {cu : Nat × Nat} {Q : Res → Mem → Prop} {K : Nat → Nat × Nat} {I : Nat → Nat → Int32} {R : Nat → Nat → Option Nat} {L : Nat → Nat → Int64} {sz : Nat} {ex : Bool} {x0 x1 x2 : Option Value} {u : Nat} : X z 48 79 [x0, x1, x2] (.ref u :: st) cu (K, I, R, L, sz, ex) Q = ((K u).1 = 108 ∧ X z 48 82 [x0, x1, x2] (va_rf (R u 4) :: st) cu (K, I, R, L, sz, ex) Q) := by
  rw [x48_79]
  rfl
theorem v48_82 {z : P0} {st : List Value} {cu : Nat × Nat} {Q : Res → Mem → Prop} {σ : Mem} {x0 x2 : Option Value} {u : Nat} : X z 48 82 [x0, some (.ref u), x2] (st) cu σ Q = (X z 48 83 [x0, some (.ref u), x2] (.ref u :: st) cu σ Q) := by
  rw [x48_82]
  rfl
theorem v48_83 {z : P0} {st : List Value} {cu : Nat × Nat} {Q : Res → Mem → Prop} {K : Nat → Nat × Nat} {I : Nat → Nat → Int32} {R : Nat → Nat → Option Nat} {L : Nat → Nat → Int64} {sz : Nat} {ex : Bool} {x0 x1 x2 : Option Value} {u : Nat} : X z 48 83 [x0, x1, x2] (.ref u :: st) cu (K, I, R, L, sz, ex) Q = ((K u).1 = 108 ∧ X z 48 86 [x0, x1, x2] (va_rf (R u 4) :: st) cu (K, I, R, L, sz, ex) Q) := by
  rw [x48_83]
  rfl
theorem v48_86 {z : P0} {st : List Value} {cu : Nat × Nat} {Q : Res → Mem → Prop} {K : Nat → Nat × Nat} {I : Nat → Nat → Int32} {R : Nat → Nat → Option Nat} {L : Nat → Nat → Int64} {sz : Nat} {ex : Bool} {x0 x1 x2 : Option Value} {u : Nat} : X z 48 86 [x0, x1, x2] (.ref u :: st) cu (K, I, R, L, sz, ex) Q = ((K u).1 = 104 ∧ X z 48 89 [x0, x1, x2] (va_rf (R u 0) :: st) cu (K, I, R, L, sz, ex) Q) := by
  rw [x48_86]
  rfl
theorem v48_89 {z : P0} {st : List Value} {cu : Nat × Nat} {Q : Res → Mem → Prop} {σ : Mem} {x0 x2 : Option Value} {u : Nat} : X z 48 89 [x0, some (.ref u), x2] (st) cu σ Q = (X z 48 90 [x0, some (.ref u), x2] (.ref u :: st) cu σ Q) := by
  rw [x48_89]
  rfl
theorem v48_90 {z : P0} {st : List Value} {cu : Nat × Nat} {Q : Res → Mem → Prop} {K : Nat → Nat × Nat} {I : Nat → Nat → Int32} {R : Nat → Nat → Option Nat} {L : Nat → Nat → Int64} {sz : Nat} {ex : Bool} {x0 x1 x2 : Option Value} {u : Nat} : X z 48 90 [x0, x1, x2] (.ref u :: st) cu (K, I, R, L, sz, ex) Q = ((K u).1 = 108 ∧ X z 48 93 [x0, x1, x2] (va_rf (R u 4) :: st) cu (K, I, R, L, sz, ex) Q) := by
  rw [x48_90]
  rfl
theorem v48_93 {z : P0} {st : List Value} {cu : Nat × Nat} {Q : Res → Mem → Prop} {K : Nat → Nat × Nat} {I : Nat → Nat → Int32} {R : Nat → Nat → Option Nat} {L : Nat → Nat → Int64} {sz : Nat} {ex : Bool} {x0 x1 x2 : Option Value} {u : Nat} : X z 48 93 [x0, x1, x2] (.ref u :: st) cu (K, I, R, L, sz, ex) Q = ((K u).1 = 104 ∧ X z 48 96 [x0, x1, x2] (.int (I u 1) :: st) cu (K, I, R, L, sz, ex) Q) := by
  rw [x48_93]
  rfl
theorem u48_96 {z : P0} {ls : Lcs} {st : List Value} {K : Nat → Nat × Nat} {I : Nat → Nat → Int32} {R : Nat → Nat → Option Nat} {L : Nat → Nat → Int64} {sz : Nat} {ex : Bool} {Q : Res → Mem → Prop} {x : Nat} {a0 : Nat} {a1 : Int32} : X z 48 96 ls (.int a1 :: .ref a0 :: .ref x :: st) (0, 0) (K, I, R, L, sz, ex) Q = ((K x).1 = 104 ∧ wsum st ≤ 8 ∧ X z 28 0 [some (.ref x), some (.ref a0), some (.int a1)] [] (0, 0) (K, I, R, L, sz, ex) (aftr (X z) mT 48 96 ls st (0, 0) Q)) := v48_96 (c := 0) (n := 0)
theorem v48_99 {z : P0} {st : List Value} {cu : Nat × Nat} {Q : Res → Mem → Prop} {σ : Mem} {x0 x2 : Option Value} {u : Nat} : X z 48 99 [x0, some (.ref u), x2] (st) cu σ Q = (X z 48 100 [x0, some (.ref u), x2] (.ref u :: st) cu σ Q) := by
  rw [x48_99]
  rfl
theorem v48_100 {z : P0} {st : List Value} {cu : Nat × Nat} {Q : Res → Mem → Prop} {K : Nat → Nat × Nat} {I : Nat → Nat → Int32} {R : Nat → Nat → Option Nat} {L : Nat → Nat → Int64} {sz : Nat} {ex : Bool} {x0 x1 x2 : Option Value} {u : Nat} : X z 48 100 [x0, x1, x2] (.ref u :: st) cu (K, I, R, L, sz, ex) Q = ((K u).1 = 108 ∧ X z 48 103 [x0, x1, x2] (va_rf (R u 5) :: st) cu (K, I, R, L, sz, ex) Q) := by
  rw [x48_100]
  rfl
theorem v48_103 {z : P0} {st : List Value} {cu : Nat × Nat} {Q : Res → Mem → Prop} {σ : Mem} {x0 x1 x2 : Option Value} : X z 48 103 [x0, x1, x2] (st) cu σ Q = (X z 48 104 [x0, x1, x2] (.int (nI 0) :: st) cu σ Q) := by
  rw [x48_103]
  rfl
theorem v48_104 {z : P0} {st : List Value} {cu : Nat × Nat} {Q : Res → Mem → Prop} {σ : Mem} {x1 x2 : Option Value} {u : Nat} : X z 48 104 [some (.ref u), x1, x2] (st) cu σ Q = (X z 48 105 [some (.ref u), x1, x2] (.ref u :: st) cu σ Q) := by
  rw [x48_104]
  rfl
theorem v48_105 {z : P0} {st : List Value} {cu : Nat × Nat} {Q : Res → Mem → Prop} {K : Nat → Nat × Nat} {I : Nat → Nat → Int32} {R : Nat → Nat → Option Nat} {L : Nat → Nat → Int64} {sz : Nat} {ex : Bool} {x0 x1 x2 : Option Value} {u : Nat} : X z 48 105 [x0, x1, x2] (.ref u :: st) cu (K, I, R, L, sz, ex) Q = ((K u).1 = 108 ∧ X z 48 108 [x0, x1, x2] (va_rf (R u 5) :: st) cu (K, I, R, L, sz, ex) Q) := by
  rw [x48_105]
  rfl
theorem v48_108 {z : P0} {st : List Value} {cu : Nat × Nat} {Q : Res → Mem → Prop} {σ : Mem} {x0 x1 x2 : Option Value} : X z 48 108 [x0, x1, x2] (st) cu σ Q = (X z 48 109 [x0, x1, x2] (.int (nI 0) :: st) cu σ Q) := by
  rw [x48_108]
  rfl
theorem v48_109 {z : P0} {st : List Value} {cu : Nat × Nat} {Q : Res → Mem → Prop} {σ : Mem} {x0 x1 x2 : Option Value} : X z 48 109 [x0, x1, x2] (st) cu σ Q = (X z 48 111 [x0, x1, x2] (.int (nI 6) :: st) cu σ Q) := by
  rw [x48_109]
  rfl
theorem v48_111 {z : P0} {st : List Value} {cu : Nat × Nat} {Q : Res → Mem → Prop} {K : Nat → Nat × Nat} {I : Nat → Nat → Int32} {R : Nat → Nat → Option Nat} {L : Nat → Nat → Int64} {sz : Nat} {ex : Bool} {x0 x1 x2 : Option Value} {u d : Nat} {v sp dp : Int32} : X z 48 111 [x0, x1, x2] (.int v :: .int dp :: .ref d :: .int sp :: .ref u :: st) cu (K, I, R, L, sz, ex) Q = (((K u).1 = 20 ∨ (K u).1 = 50) ∧ (K d).1 = 20 ∧ ¬ sp < 0 ∧ ¬ dp < 0 ∧ ¬ v < 0 ∧ sp.toNatClampNeg + v.toNatClampNeg ≤ (K u).2 ∧ dp.toNatClampNeg + v.toNatClampNeg ≤ (K d).2 ∧ wsum st ≤ 8 ∧ X z 48 114 [x0, x1, x2] (st) cu (K, cpI I u sp.toNatClampNeg d dp.toNatClampNeg v.toNatClampNeg, R, L, sz, ex) Q) := by
  rw [x48_111]
  rfl
theorem v48_114 {z : P0} {st : List Value} {cu : Nat × Nat} {Q : Res → Mem → Prop} {σ : Mem} {x1 x2 : Option Value} {u : Nat} : X z 48 114 [some (.ref u), x1, x2] (st) cu σ Q = (X z 48 115 [some (.ref u), x1, x2] (.ref u :: st) cu σ Q) := by
  rw [x48_114]
  rfl
theorem v48_115 {z : P0} {st : List Value} {cu : Nat × Nat} {Q : Res → Mem → Prop} {σ : Mem} {x0 x2 : Option Value} {u : Nat} : X z 48 115 [x0, some (.ref u), x2] (st) cu σ Q = (X z 48 116 [x0, some (.ref u), x2] (.ref u :: st) cu σ Q) := by
  rw [x48_115]
  rfl
theorem v48_116 {z : P0} {st : List Value} {cu : Nat × Nat} {Q : Res → Mem → Prop} {K : Nat → Nat × Nat} {I : Nat → Nat → Int32} {R : Nat → Nat → Option Nat} {L : Nat → Nat → Int64} {sz : Nat} {ex : Bool} {x0 x1 x2 : Option Value} {u : Nat} : X z 48 116 [x0, x1, x2] (.ref u :: st) cu (K, I, R, L, sz, ex) Q = ((K u).1 = 108 ∧ X z 48 119 [x0, x1, x2] (.int (I u 6) :: st) cu (K, I, R, L, sz, ex) Q) := by
  rw [x48_116]
  rfl
theorem v48_119 {z : P0} {st : List Value} {cu : Nat × Nat} {Q : Res → Mem → Prop} {K : Nat → Nat × Nat} {I : Nat → Nat → Int32} {R : Nat → Nat → Option Nat} {L : Nat → Nat → Int64} {sz : Nat} {ex : Bool} {x0 x1 x2 : Option Value} {u : Nat} {v : Int32} : X z 48 119 [x0, x1, x2] (.int v :: .ref u :: st) cu (K, I, R, L, sz, ex) Q = ((K u).1 = 108 ∧ X z 48 122 [x0, x1, x2] (st) cu (K, up2 I u 6 v, R, L, sz, ex) Q) := by
  rw [x48_119]
  exact i_putI
theorem v48_122 {z : P0} {st : List Value} {cu : Nat × Nat} {Q : Res → Mem → Prop} {σ : Mem} {x1 x2 : Option Value} {u : Nat} : X z 48 122 [some (.ref u), x1, x2] (st) cu σ Q = (X z 48 123 [some (.ref u), x1, x2] (.ref u :: st) cu σ Q) := by
  rw [x48_122]
  rfl
theorem v48_123 {z : P0} {st : List Value} {cu : Nat × Nat} {Q : Res → Mem → Prop} {σ : Mem} {x0 x2 : Option Value} {u : Nat} : X z 48 123 [x0, some (.ref u), x2] (st) cu σ Q = (X z 48 124 [x0, some (.ref u), x2] (.ref u :: st) cu σ Q) := by
  rw [x48_123]
  rfl
theorem v48_124 {z : P0} {st : List Value} {cu : Nat × Nat} {Q : Res → Mem → Prop} {K : Nat → Nat × Nat} {I : Nat → Nat → Int32} {R : Nat → Nat → Option Nat} {L : Nat → Nat → Int64} {sz : Nat} {ex : Bool} {x0 x1 x2 : Option Value} {u : Nat} : X z 48 124 [x0, x1, x2] (.ref u :: st) cu (K, I, R, L, sz, ex) Q = ((K u).1 = 108 ∧ X z 48 127 [x0, x1, x2] (.int (I u 7) :: st) cu (K, I, R, L, sz, ex) Q) := by
  rw [x48_124]
  rfl
theorem v48_127 {z : P0} {st : List Value} {cu : Nat × Nat} {Q : Res → Mem → Prop} {K : Nat → Nat × Nat} {I : Nat → Nat → Int32} {R : Nat → Nat → Option Nat} {L : Nat → Nat → Int64} {sz : Nat} {ex : Bool} {x0 x1 x2 : Option Value} {u : Nat} {v : Int32} : X z 48 127 [x0, x1, x2] (.int v :: .ref u :: st) cu (K, I, R, L, sz, ex) Q = ((K u).1 = 108 ∧ X z 48 130 [x0, x1, x2] (st) cu (K, up2 I u 7 v, R, L, sz, ex) Q) := by
  rw [x48_127]
  exact i_putI
theorem v48_130 {z : P0} {st : List Value} {cu : Nat × Nat} {Q : Res → Mem → Prop} {σ : Mem} {x1 x2 : Option Value} {u : Nat} : X z 48 130 [some (.ref u), x1, x2] (st) cu σ Q = (X z 48 131 [some (.ref u), x1, x2] (.ref u :: st) cu σ Q) := by
  rw [x48_130]
  rfl
theorem v48_131 {z : P0} {st : List Value} {cu : Nat × Nat} {Q : Res → Mem → Prop} {σ : Mem} {x0 x2 : Option Value} {u : Nat} : X z 48 131 [x0, some (.ref u), x2] (st) cu σ Q = (X z 48 132 [x0, some (.ref u), x2] (.ref u :: st) cu σ Q) := by
  rw [x48_131]
  rfl
theorem v48_132 {z : P0} {st : List Value} {cu : Nat × Nat} {Q : Res → Mem → Prop} {K : Nat → Nat × Nat} {I : Nat → Nat → Int32} {R : Nat → Nat → Option Nat} {L : Nat → Nat → Int64} {sz : Nat} {ex : Bool} {x0 x1 x2 : Option Value} {u : Nat} : X z 48 132 [x0, x1, x2] (.ref u :: st) cu (K, I, R, L, sz, ex) Q = ((K u).1 = 108 ∧ X z 48 135 [x0, x1, x2] (.int (I u 8) :: st) cu (K, I, R, L, sz, ex) Q) := by
  rw [x48_132]
  rfl
theorem v48_135 {z : P0} {st : List Value} {cu : Nat × Nat} {Q : Res → Mem → Prop} {K : Nat → Nat × Nat} {I : Nat → Nat → Int32} {R : Nat → Nat → Option Nat} {L : Nat → Nat → Int64} {sz : Nat} {ex : Bool} {x0 x1 x2 : Option Value} {u : Nat} {v : Int32} : X z 48 135 [x0, x1, x2] (.int v :: .ref u :: st) cu (K, I, R, L, sz, ex) Q = ((K u).1 = 108 ∧ X z 48 138 [x0, x1, x2] (st) cu (K, up2 I u 8 v, R, L, sz, ex) Q) := by
  rw [x48_135]
  exact i_putI
theorem v48_138 {z : P0} {st : List Value} {cu : Nat × Nat} {Q : Res → Mem → Prop} {σ : Mem} {x1 x2 : Option Value} {u : Nat} : X z 48 138 [some (.ref u), x1, x2] (st) cu σ Q = (X z 48 139 [some (.ref u), x1, x2] (.ref u :: st) cu σ Q) := by
  rw [x48_138]
  rfl
theorem v48_139 {z : P0} {st : List Value} {cu : Nat × Nat} {Q : Res → Mem → Prop} {σ : Mem} {x0 x2 : Option Value} {u : Nat} : X z 48 139 [x0, some (.ref u), x2] (st) cu σ Q = (X z 48 140 [x0, some (.ref u), x2] (.ref u :: st) cu σ Q) := by
  rw [x48_139]
  rfl
theorem v48_140 {z : P0} {st : List Value} {cu : Nat × Nat} {Q : Res → Mem → Prop} {K : Nat → Nat × Nat} {I : Nat → Nat → Int32} {R : Nat → Nat → Option Nat} {L : Nat → Nat → Int64} {sz : Nat} {ex : Bool} {x0 x1 x2 : Option Value} {u : Nat} : X z 48 140 [x0, x1, x2] (.ref u :: st) cu (K, I, R, L, sz, ex) Q = ((K u).1 = 108 ∧ X z 48 143 [x0, x1, x2] (.int (I u 9) :: st) cu (K, I, R, L, sz, ex) Q) := by
  rw [x48_140]
  rfl
theorem v48_143 {z : P0} {st : List Value} {cu : Nat × Nat} {Q : Res → Mem → Prop} {K : Nat → Nat × Nat} {I : Nat → Nat → Int32} {R : Nat → Nat → Option Nat} {L : Nat → Nat → Int64} {sz : Nat} {ex : Bool} {x0 x1 x2 : Option Value} {u : Nat} {v : Int32} : X z 48 143 [x0, x1, x2] (.int v :: .ref u :: st) cu (K, I, R, L, sz, ex) Q = ((K u).1 = 108 ∧ X z 48 146 [x0, x1, x2] (st) cu (K, up2 I u 9 v, R, L, sz, ex) Q) := by
  rw [x48_143]
  exact i_putI
theorem v48_146 {z : P0} {cu : Nat × Nat} {Q : Res → Mem → Prop} {σ : Mem} {x0 x1 x2 : Option Value} : X z 48 146 [x0, x1, x2] ([]) cu σ Q = (Q (.inl none) σ) := by
  rw [x48_146]
  rfl
theorem v49_0 {z : P0} {st : List Value} {cu : Nat × Nat} {Q : Res → Mem → Prop} {σ : Mem} {x0 x1 x3 : Option Value} {u : Nat} : X z 49 0 [x0, x1, some (.ref u), x3] (st) cu σ Q = (X z 49 1 [x0, x1, some (.ref u), x3] (.ref u :: st) cu σ Q) := by
  rw [x49_0]
  rfl
theorem v49_1 {z : P0} {st : List Value} {cu : Nat × Nat} {Q : Res → Mem → Prop} {K : Nat → Nat × Nat} {I : Nat → Nat → Int32} {R : Nat → Nat → Option Nat} {L : Nat → Nat → Int64} {sz : Nat} {ex : Bool} {x0 x1 x2 x3 : Option Value} {u : Nat} : X z 49 1 [x0, x1, x2, x3] (.ref u :: st) cu (K, I, R, L, sz, ex) Q = ((K u).1 = 107 ∧ X z 49 4 [x0, x1, x2, x3] (.int (I u 5) :: st) cu (K, I, R, L, sz, ex) Q) := by
  rw [x49_1]
  rfl
theorem v49_4 {z : P0} {st : List Value} {cu : Nat × Nat} {Q : Res → Mem → Prop} {σ : Mem} {x0 x1 x2 x3 : Option Value} {u : Int32} : X z 49 4 [x0, x1, x2, x3] (.int u :: st) cu σ Q = (if u = nI 0 then X z 49 9 [x0, x1, x2, x3] (st) cu σ Q else X z 49 7 [x0, x1, x2, x3] (st) cu σ Q) := by
  rw [x49_4]
  rw [nI_0]
  obtain ⟨K, I, R, L, sz, ex⟩ := σ
  exact br_ite
theorem v49_7 {z : P0} {st : List Value} {cu : Nat × Nat} {Q : Res → Mem → Prop} {σ : Mem} {x0 x1 x2 x3 : Option Value} : X z 49 7 [x0, x1, x2, x3] (st) cu σ Q = (X z 49 8 [x0, x1, x2, x3] (.int (nI 1) :: st) cu σ Q) := by
  rw [x49_7]
  rfl
theorem v49_8 {z : P0} {cu : Nat × Nat} {Q : Res → Mem → Prop} {σ : Mem} {x0 x1 x2 x3 : Option Value} {v : Int32} : X z 49 8 [x0, x1, x2, x3] ([.int v]) cu σ Q = (Q (.inl (some (.int v))) σ) := by
  rw [x49_8]
  exact propext ⟨fun h => h.2, fun h => ⟨trivial, h⟩⟩
theorem v49_9 {z : P0} {st : List Value} {cu : Nat × Nat} {Q : Res → Mem → Prop} {σ : Mem} {x0 x1 x3 : Option Value} {u : Nat} : X z 49 9 [x0, x1, some (.ref u), x3] (st) cu σ Q = (X z 49 10 [x0, x1, some (.ref u), x3] (.ref u :: st) cu σ Q) := by
  rw [x49_9]
  rfl
theorem v49_10 {z : P0} {st : List Value} {cu : Nat × Nat} {Q : Res → Mem → Prop} {K : Nat → Nat × Nat} {I : Nat → Nat → Int32} {R : Nat → Nat → Option Nat} {L : Nat → Nat → Int64} {sz : Nat} {ex : Bool} {x0 x1 x2 x3 : Option Value} {u : Nat} : X z 49 10 [x0, x1, x2, x3] (.ref u :: st) cu (K, I, R, L, sz, ex) Q = ((K u).1 = 107 ∧ X z 49 13 [x0, x1, x2, x3] (.int (I u 6) :: st) cu (K, I, R, L, sz, ex) Q) := by
  rw [x49_10]
  rfl
theorem v49_13 {z : P0} {st : List Value} {cu : Nat × Nat} {Q : Res → Mem → Prop} {σ : Mem} {x0 x1 x2 x3 : Option Value} : X z 49 13 [x0, x1, x2, x3] (st) cu σ Q = (X z 49 14 [x0, x1, x2, x3] (.int (nI 4294967295) :: st) cu σ Q) := by
  rw [x49_13]
  rw [neg1]
  rfl
theorem v49_14 {z : P0} {st : List Value} {cu : Nat × Nat} {Q : Res → Mem → Prop} {σ : Mem} {x0 x1 x2 x3 : Option Value} {u v : Int32} : X z 49 14 [x0, x1, x2, x3] (.int v :: .int u :: st) cu σ Q = (if u = v then X z 49 29 [x0, x1, x2, x3] (st) cu σ Q else X z 49 17 [x0, x1, x2, x3] (st) cu σ Q) := by
  rw [x49_14]
  obtain ⟨K, I, R, L, sz, ex⟩ := σ
  exact br_ite
theorem v49_17 {z : P0} {st : List Value} {cu : Nat × Nat} {Q : Res → Mem → Prop} {σ : Mem} {x0 x2 x3 : Option Value} {u : Int32} : X z 49 17 [x0, some (.int u), x2, x3] (st) cu σ Q = (X z 49 18 [x0, some (.int u), x2, x3] (.int u :: st) cu σ Q) := by
  rw [x49_17]
  rfl
theorem v49_18 {z : P0} {st : List Value} {cu : Nat × Nat} {Q : Res → Mem → Prop} {σ : Mem} {x0 x1 x3 : Option Value} {u : Nat} : X z 49 18 [x0, x1, some (.ref u), x3] (st) cu σ Q = (X z 49 19 [x0, x1, some (.ref u), x3] (.ref u :: st) cu σ Q) := by
  rw [x49_18]
  rfl
theorem v49_19 {z : P0} {st : List Value} {cu : Nat × Nat} {Q : Res → Mem → Prop} {K : Nat → Nat × Nat} {I : Nat → Nat → Int32} {R : Nat → Nat → Option Nat} {L : Nat → Nat → Int64} {sz : Nat} {ex : Bool} {x0 x1 x2 x3 : Option Value} {u : Nat} : X z 49 19 [x0, x1, x2, x3] (.ref u :: st) cu (K, I, R, L, sz, ex) Q = ((K u).1 = 107 ∧ X z 49 22 [x0, x1, x2, x3] (.int (I u 6) :: st) cu (K, I, R, L, sz, ex) Q) := by
  rw [x49_19]
  rfl
theorem v49_22 {z : P0} {st : List Value} {cu : Nat × Nat} {Q : Res → Mem → Prop} {σ : Mem} {x0 x1 x2 x3 : Option Value} {u v : Int32} : X z 49 22 [x0, x1, x2, x3] (.int v :: .int u :: st) cu σ Q = (X z 49 23 [x0, x1, x2, x3] (.int (u - v) :: st) cu σ Q) := by
  rw [x49_22]
  rfl
theorem v49_23 {z : P0} {st : List Value} {cu : Nat × Nat} {Q : Res → Mem → Prop} {σ : Mem} {x0 x1 x2 : Option Value} {u : Int32} : X z 49 23 [x0, x1, x2, some (.int u)] (st) cu σ Q = (X z 49 24 [x0, x1, x2, some (.int u)] (.int u :: st) cu σ Q) := by
  rw [x49_23]
  rfl
theorem v49_24 {z : P0} {st : List Value} {cu : Nat × Nat} {Q : Res → Mem → Prop} {σ : Mem} {x0 x1 x2 x3 : Option Value} {u v : Int32} : X z 49 24 [x0, x1, x2, x3] (.int v :: .int u :: st) cu σ Q = (if u < v then X z 49 27 [x0, x1, x2, x3] (st) cu σ Q else X z 49 29 [x0, x1, x2, x3] (st) cu σ Q) := by
  rw [x49_24]
  obtain ⟨K, I, R, L, sz, ex⟩ := σ
  exact br_ge
theorem v49_27 {z : P0} {st : List Value} {cu : Nat × Nat} {Q : Res → Mem → Prop} {σ : Mem} {x0 x1 x2 x3 : Option Value} : X z 49 27 [x0, x1, x2, x3] (st) cu σ Q = (X z 49 28 [x0, x1, x2, x3] (.int (nI 2) :: st) cu σ Q) := by
  rw [x49_27]
  rfl
theorem v49_28 {z : P0} {cu : Nat × Nat} {Q : Res → Mem → Prop} {σ : Mem} {x0 x1 x2 x3 : Option Value} {v : Int32} : X z 49 28 [x0, x1, x2, x3] ([.int v]) cu σ Q = (Q (.inl (some (.int v))) σ) := by
  rw [x49_28]
  exact propext ⟨fun h => h.2, fun h => ⟨trivial, h⟩⟩
theorem v49_29 {z : P0} {st : List Value} {cu : Nat × Nat} {Q : Res → Mem → Prop} {σ : Mem} {x0 x1 x3 : Option Value} {u : Nat} : X z 49 29 [x0, x1, some (.ref u), x3] (st) cu σ Q = (X z 49 30 [x0, x1, some (.ref u), x3] (.ref u :: st) cu σ Q) := by
  rw [x49_29]
  rfl
theorem v49_30 {z : P0} {st : List Value} {cu : Nat × Nat} {Q : Res → Mem → Prop} {K : Nat → Nat × Nat} {I : Nat → Nat → Int32} {R : Nat → Nat → Option Nat} {L : Nat → Nat → Int64} {sz : Nat} {ex : Bool} {x0 x1 x2 x3 : Option Value} {u : Nat} : X z 49 30 [x0, x1, x2, x3] (.ref u :: st) cu (K, I, R, L, sz, ex) Q = ((K u).1 = 107 ∧ X z 49 33 [x0, x1, x2, x3] (.int (I u 4) :: st) cu (K, I, R, L, sz, ex) Q) := by
  rw [x49_30]
  rfl
theorem v49_33 {z : P0} {st : List Value} {cu : Nat × Nat} {Q : Res → Mem → Prop} {σ : Mem} {x0 x1 x2 x3 : Option Value} : X z 49 33 [x0, x1, x2, x3] (st) cu σ Q = (X z 49 34 [x0, x1, x2, x3] (.int (nI 4294967295) :: st) cu σ Q) := by
  rw [x49_33]
  rw [neg1]
  rfl
theorem v49_34 {z : P0} {st : List Value} {cu : Nat × Nat} {Q : Res → Mem → Prop} {σ : Mem} {x0 x1 x2 x3 : Option Value} {u v : Int32} : X z 49 34 [x0, x1, x2, x3] (.int v :: .int u :: st) cu σ Q = (if u = v then X z 49 37 [x0, x1, x2, x3] (st) cu σ Q else X z 49 49 [x0, x1, x2, x3] (st) cu σ Q) := by
  rw [x49_34]
  obtain ⟨K, I, R, L, sz, ex⟩ := σ
  exact br_ne
theorem v49_37 {z : P0} {st : List Value} {cu : Nat × Nat} {Q : Res → Mem → Prop} {σ : Mem} {x1 x2 x3 : Option Value} {u : Nat} : X z 49 37 [some (.ref u), x1, x2, x3] (st) cu σ Q = (X z 49 38 [some (.ref u), x1, x2, x3] (.ref u :: st) cu σ Q) := by
  rw [x49_37]
  rfl
theorem v49_38 {z : P0} {st : List Value} {cu : Nat × Nat} {Q : Res → Mem → Prop} {K : Nat → Nat × Nat} {I : Nat → Nat → Int32} {R : Nat → Nat → Option Nat} {L : Nat → Nat → Int64} {sz : Nat} {ex : Bool} {x0 x1 x2 x3 : Option Value} {u : Nat} : X z 49 38 [x0, x1, x2, x3] (.ref u :: st) cu (K, I, R, L, sz, ex) Q = ((K u).1 = 108 ∧ X z 49 41 [x0, x1, x2, x3] (va_rf (R u 4) :: st) cu (K, I, R, L, sz, ex) Q) := by
  rw [x49_38]
  rfl
theorem u49_41 {z : P0} {ls : Lcs} {st : List Value} {K : Nat → Nat × Nat} {I : Nat → Nat → Int32} {R : Nat → Nat → Option Nat} {L : Nat → Nat → Int64} {sz : Nat} {ex : Bool} {Q : Res → Mem → Prop} {x : Nat} : X z 49 41 ls (.ref x :: st) (0, 0) (K, I, R, L, sz, ex) Q = ((K x).1 = 104 ∧ wsum st ≤ 8 ∧ X z 31 0 [some (.ref x), none] [] (0, 0) (K, I, R, L, sz, ex) (aftr (X z) mT 49 41 ls st (0, 0) Q)) := v49_41 (c := 0) (n := 0)
theorem v49_44 {z : P0} {st : List Value} {cu : Nat × Nat} {Q : Res → Mem → Prop} {σ : Mem} {x0 x1 x2 x3 : Option Value} {u : Int32} : X z 49 44 [x0, x1, x2, x3] (.int u :: st) cu σ Q = (if u = nI 0 then X z 49 49 [x0, x1, x2, x3] (st) cu σ Q else X z 49 47 [x0, x1, x2, x3] (st) cu σ Q) := by
  rw [x49_44]
  rw [nI_0]
  obtain ⟨K, I, R, L, sz, ex⟩ := σ
  exact br_ite
theorem v49_47 {z : P0} {st : List Value} {cu : Nat × Nat} {Q : Res → Mem → Prop} {σ : Mem} {x0 x1 x2 x3 : Option Value} : X z 49 47 [x0, x1, x2, x3] (st) cu σ Q = (X z 49 48 [x0, x1, x2, x3] (.int (nI 3) :: st) cu σ Q) := by
  rw [x49_47]
  rfl
theorem v49_48 {z : P0} {cu : Nat × Nat} {Q : Res → Mem → Prop} {σ : Mem} {x0 x1 x2 x3 : Option Value} {v : Int32} : X z 49 48 [x0, x1, x2, x3] ([.int v]) cu σ Q = (Q (.inl (some (.int v))) σ) := by
  rw [x49_48]
  exact propext ⟨fun h => h.2, fun h => ⟨trivial, h⟩⟩
theorem v49_49 {z : P0} {st : List Value} {cu : Nat × Nat} {Q : Res → Mem → Prop} {σ : Mem} {x0 x1 x2 x3 : Option Value} : X z 49 49 [x0, x1, x2, x3] (st) cu σ Q = (X z 49 50 [x0, x1, x2, x3] (.int (nI 0) :: st) cu σ Q) := by
  rw [x49_49]
  rfl
theorem v49_50 {z : P0} {cu : Nat × Nat} {Q : Res → Mem → Prop} {σ : Mem} {x0 x1 x2 x3 : Option Value} {v : Int32} : X z 49 50 [x0, x1, x2, x3] ([.int v]) cu σ Q = (Q (.inl (some (.int v))) σ) := by
  rw [x49_50]
  exact propext ⟨fun h => h.2, fun h => ⟨trivial, h⟩⟩
theorem v50_0 {z : P0} {st : List Value} {cu : Nat × Nat} {Q : Res → Mem → Prop} {σ : Mem} {x0 x1 x2 : Option Value} : X z 50 0 [x0, x1, x2] (st) cu σ Q = (X z 50 1 [x0, x1, x2] (.int (nI 0) :: st) cu σ Q) := by
  rw [x50_0]
  rfl
theorem v50_1 {z : P0} {st : List Value} {cu : Nat × Nat} {Q : Res → Mem → Prop} {σ : Mem} {x0 x1 x2 : Option Value} {u : Int32} : X z 50 1 [x0, x1, x2] (.int u :: st) cu σ Q = (cat2 x0 = false ∧ X z 50 2 [x0, some (.int u), x2] (st) cu σ Q) := by
  rw [x50_1]
  obtain ⟨K, I, R, L, sz, ex⟩ := σ
  exact i_istore_n.trans sl_1
theorem v50_2 {z : P0} {st : List Value} {cu : Nat × Nat} {Q : Res → Mem → Prop} {σ : Mem} {x0 x1 x2 : Option Value} : X z 50 2 [x0, x1, x2] (st) cu σ Q = (X z 50 3 [x0, x1, x2] (.int (nI 0) :: st) cu σ Q) := by
  rw [x50_2]
  rfl
theorem v50_3 {z : P0} {st : List Value} {cu : Nat × Nat} {Q : Res → Mem → Prop} {σ : Mem} {x0 x1 x2 : Option Value} {u : Int32} : X z 50 3 [x0, x1, x2] (.int u :: st) cu σ Q = (cat2 x1 = false ∧ X z 50 4 [x0, x1, some (.int u)] (st) cu σ Q) := by
  rw [x50_3]
  obtain ⟨K, I, R, L, sz, ex⟩ := σ
  exact i_istore_n.trans sl_2
theorem v50_4 {z : P0} {st : List Value} {cu : Nat × Nat} {Q : Res → Mem → Prop} {σ : Mem} {x0 x1 : Option Value} {u : Int32} : X z 50 4 [x0, x1, some (.int u)] (st) cu σ Q = (X z 50 5 [x0, x1, some (.int u)] (.int u :: st) cu σ Q) := by
  rw [x50_4]
  rfl
theorem v50_5 {z : P0} {st : List Value} {cu : Nat × Nat} {Q : Res → Mem → Prop} {σ : Mem} {x1 x2 : Option Value} {u : Nat} : X z 50 5 [some (.ref u), x1, x2] (st) cu σ Q = (X z 50 6 [some (.ref u), x1, x2] (.ref u :: st) cu σ Q) := by
  rw [x50_5]
  rfl
theorem v50_6 {z : P0} {st : List Value} {cu : Nat × Nat} {Q : Res → Mem → Prop} {K : Nat → Nat × Nat} {I : Nat → Nat → Int32} {R : Nat → Nat → Option Nat} {L : Nat → Nat → Int64} {sz : Nat} {ex : Bool} {x0 x1 x2 : Option Value} {u : Nat} : X z 50 6 [x0, x1, x2] (.ref u :: st) cu (K, I, R, L, sz, ex) Q = ((K u).1 = 108 ∧ X z 50 9 [x0, x1, x2] (.int (I u 1) :: st) cu (K, I, R, L, sz, ex) Q) := by
  rw [x50_6]
  rfl
theorem v50_9 {z : P0} {st : List Value} {cu : Nat × Nat} {Q : Res → Mem → Prop} {σ : Mem} {x0 x1 x2 : Option Value} {u v : Int32} : X z 50 9 [x0, x1, x2] (.int v :: .int u :: st) cu σ Q = (if u < v then X z 50 12 [x0, x1, x2] (st) cu σ Q else X z 50 33 [x0, x1, x2] (st) cu σ Q) := by
  rw [x50_9]
  obtain ⟨K, I, R, L, sz, ex⟩ := σ
  exact br_ge
theorem v50_12 {z : P0} {st : List Value} {cu : Nat × Nat} {Q : Res → Mem → Prop} {σ : Mem} {x1 x2 : Option Value} {u : Nat} : X z 50 12 [some (.ref u), x1, x2] (st) cu σ Q = (X z 50 13 [some (.ref u), x1, x2] (.ref u :: st) cu σ Q) := by
  rw [x50_12]
  rfl
theorem v50_13 {z : P0} {st : List Value} {cu : Nat × Nat} {Q : Res → Mem → Prop} {K : Nat → Nat × Nat} {I : Nat → Nat → Int32} {R : Nat → Nat → Option Nat} {L : Nat → Nat → Int64} {sz : Nat} {ex : Bool} {x0 x1 x2 : Option Value} {u : Nat} : X z 50 13 [x0, x1, x2] (.ref u :: st) cu (K, I, R, L, sz, ex) Q = ((K u).1 = 108 ∧ X z 50 16 [x0, x1, x2] (va_rf (R u 0) :: st) cu (K, I, R, L, sz, ex) Q) := by
  rw [x50_13]
  rfl
theorem v50_16 {z : P0} {st : List Value} {cu : Nat × Nat} {Q : Res → Mem → Prop} {σ : Mem} {x0 x1 : Option Value} {u : Int32} : X z 50 16 [x0, x1, some (.int u)] (st) cu σ Q = (X z 50 17 [x0, x1, some (.int u)] (.int u :: st) cu σ Q) := by
  rw [x50_16]
  rfl
theorem v50_17 {z : P0} {st : List Value} {cu : Nat × Nat} {Q : Res → Mem → Prop} {K : Nat → Nat × Nat} {I : Nat → Nat → Int32} {R : Nat → Nat → Option Nat} {L : Nat → Nat → Int64} {sz : Nat} {ex : Bool} {x0 x1 x2 : Option Value} {u : Nat} {v : Int32} : X z 50 17 [x0, x1, x2] (.int v :: .ref u :: st) cu (K, I, R, L, sz, ex) Q = (((K u).1 = 22 ∨ (K u).1 = 23 ∨ (K u).1 = 24 ∨ (K u).1 = 25) ∧ vp_in v (K u).2 ∧ X z 50 18 [x0, x1, x2] (va_rf (R u v.toNatClampNeg) :: st) cu (K, I, R, L, sz, ex) Q) := by
  rw [x50_17]
  rfl
theorem v50_18 {z : P0} {st : List Value} {cu : Nat × Nat} {Q : Res → Mem → Prop} {K : Nat → Nat × Nat} {I : Nat → Nat → Int32} {R : Nat → Nat → Option Nat} {L : Nat → Nat → Int64} {sz : Nat} {ex : Bool} {x0 x1 x2 : Option Value} {u : Nat} : X z 50 18 [x0, x1, x2] (.ref u :: st) cu (K, I, R, L, sz, ex) Q = ((K u).1 = 107 ∧ X z 50 21 [x0, x1, x2] (.int (I u 5) :: st) cu (K, I, R, L, sz, ex) Q) := by
  rw [x50_18]
  rfl
theorem v50_21 {z : P0} {st : List Value} {cu : Nat × Nat} {Q : Res → Mem → Prop} {σ : Mem} {x0 x1 x2 : Option Value} {u : Int32} : X z 50 21 [x0, x1, x2] (.int u :: st) cu σ Q = (if u = nI 0 then X z 50 27 [x0, x1, x2] (st) cu σ Q else X z 50 24 [x0, x1, x2] (st) cu σ Q) := by
  rw [x50_21]
  rw [nI_0]
  obtain ⟨K, I, R, L, sz, ex⟩ := σ
  exact br_ite
theorem v50_24 {z : P0} {st : List Value} {cu : Nat × Nat} {Q : Res → Mem → Prop} {σ : Mem} {x0 x2 : Option Value} {u : Int32} : X z 50 24 [x0, some (.int u), x2] (st) cu σ Q = (cat2 x0 = false ∧ X z 50 27 [x0, some (.int (u + nI 1)), x2] (st) cu σ Q) := by
  rw [x50_24]
  obtain ⟨K, I, R, L, sz, ex⟩ := σ
  exact i_iinc.trans (gl_1.trans (ldI_i.trans sl_1))
theorem v50_27 {z : P0} {st : List Value} {cu : Nat × Nat} {Q : Res → Mem → Prop} {σ : Mem} {x0 x1 : Option Value} {u : Int32} : X z 50 27 [x0, x1, some (.int u)] (st) cu σ Q = (cat2 x1 = false ∧ X z 50 30 [x0, x1, some (.int (u + nI 1))] (st) cu σ Q) := by
  rw [x50_27]
  obtain ⟨K, I, R, L, sz, ex⟩ := σ
  exact i_iinc.trans (gl_2.trans (ldI_i.trans sl_2))
theorem v50_30 {z : P0} {st : List Value} {cu : Nat × Nat} {Q : Res → Mem → Prop} {σ : Mem} {x0 x1 x2 : Option Value} : X z 50 30 [x0, x1, x2] (st) cu σ Q = (X z 50 4 [x0, x1, x2] (st) cu σ Q) := by
  rw [x50_30]
  rfl
theorem v50_33 {z : P0} {st : List Value} {cu : Nat × Nat} {Q : Res → Mem → Prop} {σ : Mem} {x0 x2 : Option Value} {u : Int32} : X z 50 33 [x0, some (.int u), x2] (st) cu σ Q = (X z 50 34 [x0, some (.int u), x2] (.int u :: st) cu σ Q) := by
  rw [x50_33]
  rfl
theorem v50_34 {z : P0} {cu : Nat × Nat} {Q : Res → Mem → Prop} {σ : Mem} {x0 x1 x2 : Option Value} {v : Int32} : X z 50 34 [x0, x1, x2] ([.int v]) cu σ Q = (Q (.inl (some (.int v))) σ) := by
  rw [x50_34]
  exact propext ⟨fun h => h.2, fun h => ⟨trivial, h⟩⟩
theorem v52_0 {z : P0} {st : List Value} {cu : Nat × Nat} {Q : Res → Mem → Prop} {σ : Mem} {u : Nat} : X z 52 0 [some (.ref u)] (st) cu σ Q = (X z 52 1 [some (.ref u)] (.ref u :: st) cu σ Q) := by
  rw [x52_0]
  rfl
theorem v52_1 {z : P0} {st : List Value} {cu : Nat × Nat} {Q : Res → Mem → Prop} {σ : Mem} {x0 : Option Value} {u : Nat} : X z 52 1 [x0] (.ref u :: st) cu σ Q = (wsum st ≤ 8 ∧ X z 52 4 [x0] (st) cu σ Q) := by
  rw [x52_1]
  exact propext ⟨fun h => h.2, fun h => ⟨rfl, h⟩⟩
theorem v52_4 {z : P0} {st : List Value} {cu : Nat × Nat} {Q : Res → Mem → Prop} {σ : Mem} {u : Nat} : X z 52 4 [some (.ref u)] (st) cu σ Q = (X z 52 5 [some (.ref u)] (.ref u :: st) cu σ Q) := by
  rw [x52_4]
  rfl
theorem v52_5 {z : P0} {st : List Value} {cu : Nat × Nat} {Q : Res → Mem → Prop} {σ : Mem} {x0 : Option Value} : X z 52 5 [x0] (st) cu σ Q = (X z 52 7 [x0] (.int (nI 8) :: st) cu σ Q) := by
  rw [x52_5]
  rfl
theorem v52_7 {z : P0} {st : List Value} {Q : Res → Mem → Prop} {K : Nat → Nat × Nat} {I : Nat → Nat → Int32} {R : Nat → Nat → Option Nat} {L : Nat → Nat → Int64} {sz : Nat} {ex : Bool} {x0 : Option Value} {c n : Nat} {v : Int32} : X z 52 7 [x0] (.int v :: st) (c, n) (K, I, R, L, sz, ex) Q = (ex = true ∧ ¬ v < 0 ∧ v.toNatClampNeg ≤ 3000 ∧ (c + 1 ≤ 1 ∧ n + v.toNatClampNeg ≤ 8) ∧ X z 52 9 [x0] (.ref sz :: st) (c + 1, n + v.toNatClampNeg) (upK K sz (20, v.toNatClampNeg), I, R, L, sz + 1, ex) Q) := by
  rw [x52_7]
  rfl
theorem v52_9 {z : P0} {st : List Value} {cu : Nat × Nat} {Q : Res → Mem → Prop} {K : Nat → Nat × Nat} {I : Nat → Nat → Int32} {R : Nat → Nat → Option Nat} {L : Nat → Nat → Int64} {sz : Nat} {ex : Bool} {x0 : Option Value} {u v : Nat} : X z 52 9 [x0] (.ref v :: .ref u :: st) cu (K, I, R, L, sz, ex) Q = ((K u).1 = 109 ∧ X z 52 12 [x0] (st) cu (K, I, up2 R u 0 (some v), L, sz, ex) Q) := by
  rw [x52_9]
  exact i_putA
theorem v52_12 {z : P0} {cu : Nat × Nat} {Q : Res → Mem → Prop} {σ : Mem} {x0 : Option Value} : X z 52 12 [x0] ([]) cu σ Q = (Q (.inl none) σ) := by
  rw [x52_12]
  rfl
theorem v53_0 {z : P0} {st : List Value} {cu : Nat × Nat} {Q : Res → Mem → Prop} {σ : Mem} {x0 x2 : Option Value} {u : Nat} : X z 53 0 [x0, some (.ref u), x2] (st) cu σ Q = (X z 53 1 [x0, some (.ref u), x2] (.ref u :: st) cu σ Q) := by
  rw [x53_0]
  rfl
theorem v53_1 {z : P0} {st : List Value} {cu : Nat × Nat} {Q : Res → Mem → Prop} {K : Nat → Nat × Nat} {I : Nat → Nat → Int32} {R : Nat → Nat → Option Nat} {L : Nat → Nat → Int64} {sz : Nat} {ex : Bool} {x0 x1 x2 : Option Value} {u : Nat} : X z 53 1 [x0, x1, x2] (.ref u :: st) cu (K, I, R, L, sz, ex) Q = ((K u).1 = 100 ∧ X z 53 4 [x0, x1, x2] (.int (I u 1) :: st) cu (K, I, R, L, sz, ex) Q) := by
  rw [x53_1]
  rfl
theorem v53_4 {z : P0} {st : List Value} {cu : Nat × Nat} {Q : Res → Mem → Prop} {σ : Mem} {x0 x1 x2 : Option Value} : X z 53 4 [x0, x1, x2] (st) cu σ Q = (X z 53 5 [x0, x1, x2] (.int (nI 1) :: st) cu σ Q) := by
  rw [x53_4]
  rfl
theorem v53_5 {z : P0} {st : List Value} {cu : Nat × Nat} {Q : Res → Mem → Prop} {σ : Mem} {x0 x1 x2 : Option Value} {u v : Int32} : X z 53 5 [x0, x1, x2] (.int v :: .int u :: st) cu σ Q = (X z 53 6 [x0, x1, x2] (.int (u - v) :: st) cu σ Q) := by
  rw [x53_5]
  rfl
theorem v53_6 {z : P0} {st : List Value} {cu : Nat × Nat} {Q : Res → Mem → Prop} {σ : Mem} {x0 x1 x2 : Option Value} {u : Int32} : X z 53 6 [x0, x1, x2] (.int u :: st) cu σ Q = (cat2 x1 = false ∧ X z 53 7 [x0, x1, some (.int u)] (st) cu σ Q) := by
  rw [x53_6]
  obtain ⟨K, I, R, L, sz, ex⟩ := σ
  exact i_istore_n.trans sl_2
theorem v53_7 {z : P0} {st : List Value} {cu : Nat × Nat} {Q : Res → Mem → Prop} {σ : Mem} {x1 x2 : Option Value} {u : Nat} : X z 53 7 [some (.ref u), x1, x2] (st) cu σ Q = (X z 53 8 [some (.ref u), x1, x2] (.ref u :: st) cu σ Q) := by
  rw [x53_7]
  rfl
theorem v53_8 {z : P0} {st : List Value} {cu : Nat × Nat} {Q : Res → Mem → Prop} {σ : Mem} {x0 x1 : Option Value} {u : Int32} : X z 53 8 [x0, x1, some (.int u)] (st) cu σ Q = (X z 53 9 [x0, x1, some (.int u)] (.int u :: st) cu σ Q) := by
  rw [x53_8]
  rfl
theorem v53_9 {z : P0} {st : List Value} {cu : Nat × Nat} {Q : Res → Mem → Prop} {σ : Mem} {x0 x1 x2 : Option Value} {u : Int32} : X z 53 9 [x0, x1, x2] (.int u :: st) cu σ Q = (if u < nI 0 then X z 53 27 [x0, x1, x2] (st) cu σ Q else X z 53 12 [x0, x1, x2] (st) cu σ Q) := by
  rw [x53_9]
  rw [nI_0]
  obtain ⟨K, I, R, L, sz, ex⟩ := σ
  exact br_ite
theorem v53_12 {z : P0} {st : List Value} {cu : Nat × Nat} {Q : Res → Mem → Prop} {σ : Mem} {x0 x2 : Option Value} {u : Nat} : X z 53 12 [x0, some (.ref u), x2] (st) cu σ Q = (X z 53 13 [x0, some (.ref u), x2] (.ref u :: st) cu σ Q) := by
  rw [x53_12]
  rfl
theorem v53_13 {z : P0} {st : List Value} {cu : Nat × Nat} {Q : Res → Mem → Prop} {K : Nat → Nat × Nat} {I : Nat → Nat → Int32} {R : Nat → Nat → Option Nat} {L : Nat → Nat → Int64} {sz : Nat} {ex : Bool} {x0 x1 x2 : Option Value} {u : Nat} : X z 53 13 [x0, x1, x2] (.ref u :: st) cu (K, I, R, L, sz, ex) Q = ((K u).1 = 100 ∧ X z 53 16 [x0, x1, x2] (va_rf (R u 0) :: st) cu (K, I, R, L, sz, ex) Q) := by
  rw [x53_13]
  rfl
theorem v53_16 {z : P0} {st : List Value} {cu : Nat × Nat} {Q : Res → Mem → Prop} {σ : Mem} {x0 x1 : Option Value} {u : Int32} : X z 53 16 [x0, x1, some (.int u)] (st) cu σ Q = (X z 53 17 [x0, x1, some (.int u)] (.int u :: st) cu σ Q) := by
  rw [x53_16]
  rfl
theorem v53_17 {z : P0} {st : List Value} {cu : Nat × Nat} {Q : Res → Mem → Prop} {K : Nat → Nat × Nat} {I : Nat → Nat → Int32} {R : Nat → Nat → Option Nat} {L : Nat → Nat → Int64} {sz : Nat} {ex : Bool} {x0 x1 x2 : Option Value} {u : Nat} {v : Int32} : X z 53 17 [x0, x1, x2] (.int v :: .ref u :: st) cu (K, I, R, L, sz, ex) Q = (((K u).1 = 20 ∨ (K u).1 = 50) ∧ vp_in v (K u).2 ∧ X z 53 18 [x0, x1, x2] (.int (I u v.toNatClampNeg) :: st) cu (K, I, R, L, sz, ex) Q) := by
  rw [x53_17]
  rfl
theorem v53_18 {z : P0} {st : List Value} {cu : Nat × Nat} {Q : Res → Mem → Prop} {σ : Mem} {x0 x1 x2 : Option Value} : X z 53 18 [x0, x1, x2] (st) cu σ Q = (X z 53 20 [x0, x1, x2] (.int (nI 42) :: st) cu σ Q) := by
  rw [x53_18]
  rfl
theorem v53_20 {z : P0} {st : List Value} {cu : Nat × Nat} {Q : Res → Mem → Prop} {σ : Mem} {x0 x1 x2 : Option Value} {u v : Int32} : X z 53 20 [x0, x1, x2] (.int v :: .int u :: st) cu σ Q = (if u = v then X z 53 23 [x0, x1, x2] (st) cu σ Q else X z 53 27 [x0, x1, x2] (st) cu σ Q) := by
  rw [x53_20]
  obtain ⟨K, I, R, L, sz, ex⟩ := σ
  exact br_ne
theorem v53_23 {z : P0} {st : List Value} {cu : Nat × Nat} {Q : Res → Mem → Prop} {σ : Mem} {x0 x1 x2 : Option Value} : X z 53 23 [x0, x1, x2] (st) cu σ Q = (X z 53 24 [x0, x1, x2] (.int (nI 1) :: st) cu σ Q) := by
  rw [x53_23]
  rfl
theorem v53_24 {z : P0} {st : List Value} {cu : Nat × Nat} {Q : Res → Mem → Prop} {σ : Mem} {x0 x1 x2 : Option Value} : X z 53 24 [x0, x1, x2] (st) cu σ Q = (X z 53 28 [x0, x1, x2] (st) cu σ Q) := by
  rw [x53_24]
  rfl
theorem v53_27 {z : P0} {st : List Value} {cu : Nat × Nat} {Q : Res → Mem → Prop} {σ : Mem} {x0 x1 x2 : Option Value} : X z 53 27 [x0, x1, x2] (st) cu σ Q = (X z 53 28 [x0, x1, x2] (.int (nI 0) :: st) cu σ Q) := by
  rw [x53_27]
  rfl
theorem v53_28 {z : P0} {st : List Value} {cu : Nat × Nat} {Q : Res → Mem → Prop} {K : Nat → Nat × Nat} {I : Nat → Nat → Int32} {R : Nat → Nat → Option Nat} {L : Nat → Nat → Int64} {sz : Nat} {ex : Bool} {x0 x1 x2 : Option Value} {u : Nat} {v : Int32} : X z 53 28 [x0, x1, x2] (.int v :: .ref u :: st) cu (K, I, R, L, sz, ex) Q = ((v = nI 0 ∨ v = nI 1) ∧ (K u).1 = 109 ∧ X z 53 31 [x0, x1, x2] (st) cu (K, up2 I u 2 v, R, L, sz, ex) Q) := by
  rw [x53_28]
  rw [nI_0, one1]
  exact i_putZ
theorem v53_31 {z : P0} {st : List Value} {cu : Nat × Nat} {Q : Res → Mem → Prop} {σ : Mem} {x1 x2 : Option Value} {u : Nat} : X z 53 31 [some (.ref u), x1, x2] (st) cu σ Q = (X z 53 32 [some (.ref u), x1, x2] (.ref u :: st) cu σ Q) := by
  rw [x53_31]
  rfl
theorem v53_32 {z : P0} {st : List Value} {cu : Nat × Nat} {Q : Res → Mem → Prop} {σ : Mem} {x1 x2 : Option Value} {u : Nat} : X z 53 32 [some (.ref u), x1, x2] (st) cu σ Q = (X z 53 33 [some (.ref u), x1, x2] (.ref u :: st) cu σ Q) := by
  rw [x53_32]
  rfl
theorem v53_33 {z : P0} {st : List Value} {cu : Nat × Nat} {Q : Res → Mem → Prop} {K : Nat → Nat × Nat} {I : Nat → Nat → Int32} {R : Nat → Nat → Option Nat} {L : Nat → Nat → Int64} {sz : Nat} {ex : Bool} {x0 x1 x2 : Option Value} {u : Nat} : X z 53 33 [x0, x1, x2] (.ref u :: st) cu (K, I, R, L, sz, ex) Q = ((K u).1 = 109 ∧ X z 53 36 [x0, x1, x2] (.int (I u 2) :: st) cu (K, I, R, L, sz, ex) Q) := by
  rw [x53_33]
  rfl
theorem v53_36 {z : P0} {st : List Value} {cu : Nat × Nat} {Q : Res → Mem → Prop} {σ : Mem} {x0 x1 x2 : Option Value} {u : Int32} : X z 53 36 [x0, x1, x2] (.int u :: st) cu σ Q = (if u = nI 0 then X z 53 43 [x0, x1, x2] (st) cu σ Q else X z 53 39 [x0, x1, x2] (st) cu σ Q) := by
  rw [x53_36]
  rw [nI_0]
  obtain ⟨K, I, R, L, sz, ex⟩ := σ
  exact br_ite
theorem v53_39 {z : P0} {st : List Value} {cu : Nat × Nat} {Q : Res → Mem → Prop} {σ : Mem} {x0 x1 : Option Value} {u : Int32} : X z 53 39 [x0, x1, some (.int u)] (st) cu σ Q = (X z 53 40 [x0, x1, some (.int u)] (.int u :: st) cu σ Q) := by
  rw [x53_39]
  rfl
theorem v53_40 {z : P0} {st : List Value} {cu : Nat × Nat} {Q : Res → Mem → Prop} {σ : Mem} {x0 x1 x2 : Option Value} : X z 53 40 [x0, x1, x2] (st) cu σ Q = (X z 53 47 [x0, x1, x2] (st) cu σ Q) := by
  rw [x53_40]
  rfl
theorem v53_43 {z : P0} {st : List Value} {cu : Nat × Nat} {Q : Res → Mem → Prop} {σ : Mem} {x0 x2 : Option Value} {u : Nat} : X z 53 43 [x0, some (.ref u), x2] (st) cu σ Q = (X z 53 44 [x0, some (.ref u), x2] (.ref u :: st) cu σ Q) := by
  rw [x53_43]
  rfl
theorem v53_44 {z : P0} {st : List Value} {cu : Nat × Nat} {Q : Res → Mem → Prop} {K : Nat → Nat × Nat} {I : Nat → Nat → Int32} {R : Nat → Nat → Option Nat} {L : Nat → Nat → Int64} {sz : Nat} {ex : Bool} {x0 x1 x2 : Option Value} {u : Nat} : X z 53 44 [x0, x1, x2] (.ref u :: st) cu (K, I, R, L, sz, ex) Q = ((K u).1 = 100 ∧ X z 53 47 [x0, x1, x2] (.int (I u 1) :: st) cu (K, I, R, L, sz, ex) Q) := by
  rw [x53_44]
  rfl
theorem v53_47 {z : P0} {st : List Value} {cu : Nat × Nat} {Q : Res → Mem → Prop} {σ : Mem} {x0 x1 x2 : Option Value} : X z 53 47 [x0, x1, x2] (st) cu σ Q = (X z 53 49 [x0, x1, x2] (.int (nI 8) :: st) cu σ Q) := by
  rw [x53_47]
  rfl
theorem u53_49 {z : P0} {ls : Lcs} {st : List Value} {K : Nat → Nat × Nat} {I : Nat → Nat → Int32} {R : Nat → Nat → Option Nat} {L : Nat → Nat → Int64} {sz : Nat} {ex : Bool} {Q : Res → Mem → Prop} {a0 : Int32} {a1 : Int32} : X z 53 49 ls (.int a1 :: .int a0 :: st) (0, 0) (K, I, R, L, sz, ex) Q = (wsum st ≤ 8 ∧ X z 184 0 [some (.int a0), some (.int a1)] [] (0, 0) (K, I, R, L, sz, ex) (aftr (X z) mT 53 49 ls st (0, 0) Q)) := v53_49 (c := 0) (n := 0)
theorem v53_52 {z : P0} {st : List Value} {cu : Nat × Nat} {Q : Res → Mem → Prop} {K : Nat → Nat × Nat} {I : Nat → Nat → Int32} {R : Nat → Nat → Option Nat} {L : Nat → Nat → Int64} {sz : Nat} {ex : Bool} {x0 x1 x2 : Option Value} {u : Nat} {v : Int32} : X z 53 52 [x0, x1, x2] (.int v :: .ref u :: st) cu (K, I, R, L, sz, ex) Q = ((K u).1 = 109 ∧ X z 53 55 [x0, x1, x2] (st) cu (K, up2 I u 1 v, R, L, sz, ex) Q) := by
  rw [x53_52]
  exact i_putI
theorem v53_55 {z : P0} {st : List Value} {cu : Nat × Nat} {Q : Res → Mem → Prop} {σ : Mem} {x0 x2 : Option Value} {u : Nat} : X z 53 55 [x0, some (.ref u), x2] (st) cu σ Q = (X z 53 56 [x0, some (.ref u), x2] (.ref u :: st) cu σ Q) := by
  rw [x53_55]
  rfl
theorem v53_56 {z : P0} {st : List Value} {cu : Nat × Nat} {Q : Res → Mem → Prop} {K : Nat → Nat × Nat} {I : Nat → Nat → Int32} {R : Nat → Nat → Option Nat} {L : Nat → Nat → Int64} {sz : Nat} {ex : Bool} {x0 x1 x2 : Option Value} {u : Nat} : X z 53 56 [x0, x1, x2] (.ref u :: st) cu (K, I, R, L, sz, ex) Q = ((K u).1 = 100 ∧ X z 53 59 [x0, x1, x2] (va_rf (R u 0) :: st) cu (K, I, R, L, sz, ex) Q) := by
  rw [x53_56]
  rfl
theorem v53_59 {z : P0} {st : List Value} {cu : Nat × Nat} {Q : Res → Mem → Prop} {σ : Mem} {x0 x1 x2 : Option Value} : X z 53 59 [x0, x1, x2] (st) cu σ Q = (X z 53 60 [x0, x1, x2] (.int (nI 0) :: st) cu σ Q) := by
  rw [x53_59]
  rfl
theorem v53_60 {z : P0} {st : List Value} {cu : Nat × Nat} {Q : Res → Mem → Prop} {σ : Mem} {x1 x2 : Option Value} {u : Nat} : X z 53 60 [some (.ref u), x1, x2] (st) cu σ Q = (X z 53 61 [some (.ref u), x1, x2] (.ref u :: st) cu σ Q) := by
  rw [x53_60]
  rfl
theorem v53_61 {z : P0} {st : List Value} {cu : Nat × Nat} {Q : Res → Mem → Prop} {K : Nat → Nat × Nat} {I : Nat → Nat → Int32} {R : Nat → Nat → Option Nat} {L : Nat → Nat → Int64} {sz : Nat} {ex : Bool} {x0 x1 x2 : Option Value} {u : Nat} : X z 53 61 [x0, x1, x2] (.ref u :: st) cu (K, I, R, L, sz, ex) Q = ((K u).1 = 109 ∧ X z 53 64 [x0, x1, x2] (va_rf (R u 0) :: st) cu (K, I, R, L, sz, ex) Q) := by
  rw [x53_61]
  rfl
theorem v53_64 {z : P0} {st : List Value} {cu : Nat × Nat} {Q : Res → Mem → Prop} {σ : Mem} {x0 x1 x2 : Option Value} : X z 53 64 [x0, x1, x2] (st) cu σ Q = (X z 53 65 [x0, x1, x2] (.int (nI 0) :: st) cu σ Q) := by
  rw [x53_64]
  rfl
theorem v53_65 {z : P0} {st : List Value} {cu : Nat × Nat} {Q : Res → Mem → Prop} {σ : Mem} {x1 x2 : Option Value} {u : Nat} : X z 53 65 [some (.ref u), x1, x2] (st) cu σ Q = (X z 53 66 [some (.ref u), x1, x2] (.ref u :: st) cu σ Q) := by
  rw [x53_65]
  rfl
theorem v53_66 {z : P0} {st : List Value} {cu : Nat × Nat} {Q : Res → Mem → Prop} {K : Nat → Nat × Nat} {I : Nat → Nat → Int32} {R : Nat → Nat → Option Nat} {L : Nat → Nat → Int64} {sz : Nat} {ex : Bool} {x0 x1 x2 : Option Value} {u : Nat} : X z 53 66 [x0, x1, x2] (.ref u :: st) cu (K, I, R, L, sz, ex) Q = ((K u).1 = 109 ∧ X z 53 69 [x0, x1, x2] (.int (I u 1) :: st) cu (K, I, R, L, sz, ex) Q) := by
  rw [x53_66]
  rfl
theorem v53_69 {z : P0} {st : List Value} {cu : Nat × Nat} {Q : Res → Mem → Prop} {K : Nat → Nat × Nat} {I : Nat → Nat → Int32} {R : Nat → Nat → Option Nat} {L : Nat → Nat → Int64} {sz : Nat} {ex : Bool} {x0 x1 x2 : Option Value} {u d : Nat} {v sp dp : Int32} : X z 53 69 [x0, x1, x2] (.int v :: .int dp :: .ref d :: .int sp :: .ref u :: st) cu (K, I, R, L, sz, ex) Q = (((K u).1 = 20 ∨ (K u).1 = 50) ∧ (K d).1 = 20 ∧ ¬ sp < 0 ∧ ¬ dp < 0 ∧ ¬ v < 0 ∧ sp.toNatClampNeg + v.toNatClampNeg ≤ (K u).2 ∧ dp.toNatClampNeg + v.toNatClampNeg ≤ (K d).2 ∧ wsum st ≤ 8 ∧ X z 53 72 [x0, x1, x2] (st) cu (K, cpI I u sp.toNatClampNeg d dp.toNatClampNeg v.toNatClampNeg, R, L, sz, ex) Q) := by
  rw [x53_69]
  rfl
theorem v53_72 {z : P0} {cu : Nat × Nat} {Q : Res → Mem → Prop} {σ : Mem} {x0 x1 x2 : Option Value} : X z 53 72 [x0, x1, x2] ([]) cu σ Q = (Q (.inl none) σ) := by
  rw [x53_72]
  rfl
theorem v54_0 {z : P0} {st : List Value} {cu : Nat × Nat} {Q : Res → Mem → Prop} {σ : Mem} {x0 : Option Value} {u : Nat} : X z 54 0 [x0, some (.ref u)] (st) cu σ Q = (X z 54 1 [x0, some (.ref u)] (.ref u :: st) cu σ Q) := by
  rw [x54_0]
  rfl
theorem v54_1 {z : P0} {st : List Value} {cu : Nat × Nat} {Q : Res → Mem → Prop} {K : Nat → Nat × Nat} {I : Nat → Nat → Int32} {R : Nat → Nat → Option Nat} {L : Nat → Nat → Int64} {sz : Nat} {ex : Bool} {x0 x1 : Option Value} {u : Nat} : X z 54 1 [x0, x1] (.ref u :: st) cu (K, I, R, L, sz, ex) Q = ((K u).1 = 109 ∧ X z 54 4 [x0, x1] (va_rf (R u 0) :: st) cu (K, I, R, L, sz, ex) Q) := by
  rw [x54_1]
  rfl
theorem v54_4 {z : P0} {st : List Value} {cu : Nat × Nat} {Q : Res → Mem → Prop} {σ : Mem} {x0 x1 : Option Value} : X z 54 4 [x0, x1] (st) cu σ Q = (X z 54 5 [x0, x1] (.int (nI 0) :: st) cu σ Q) := by
  rw [x54_4]
  rfl
theorem v54_5 {z : P0} {st : List Value} {cu : Nat × Nat} {Q : Res → Mem → Prop} {σ : Mem} {x1 : Option Value} {u : Nat} : X z 54 5 [some (.ref u), x1] (st) cu σ Q = (X z 54 6 [some (.ref u), x1] (.ref u :: st) cu σ Q) := by
  rw [x54_5]
  rfl
theorem v54_6 {z : P0} {st : List Value} {cu : Nat × Nat} {Q : Res → Mem → Prop} {K : Nat → Nat × Nat} {I : Nat → Nat → Int32} {R : Nat → Nat → Option Nat} {L : Nat → Nat → Int64} {sz : Nat} {ex : Bool} {x0 x1 : Option Value} {u : Nat} : X z 54 6 [x0, x1] (.ref u :: st) cu (K, I, R, L, sz, ex) Q = ((K u).1 = 109 ∧ X z 54 9 [x0, x1] (va_rf (R u 0) :: st) cu (K, I, R, L, sz, ex) Q) := by
  rw [x54_6]
  rfl
theorem v54_9 {z : P0} {st : List Value} {cu : Nat × Nat} {Q : Res → Mem → Prop} {σ : Mem} {x0 x1 : Option Value} : X z 54 9 [x0, x1] (st) cu σ Q = (X z 54 10 [x0, x1] (.int (nI 0) :: st) cu σ Q) := by
  rw [x54_9]
  rfl
theorem v54_10 {z : P0} {st : List Value} {cu : Nat × Nat} {Q : Res → Mem → Prop} {σ : Mem} {x0 x1 : Option Value} : X z 54 10 [x0, x1] (st) cu σ Q = (X z 54 12 [x0, x1] (.int (nI 8) :: st) cu σ Q) := by
  rw [x54_10]
  rfl
theorem v54_12 {z : P0} {st : List Value} {cu : Nat × Nat} {Q : Res → Mem → Prop} {K : Nat → Nat × Nat} {I : Nat → Nat → Int32} {R : Nat → Nat → Option Nat} {L : Nat → Nat → Int64} {sz : Nat} {ex : Bool} {x0 x1 : Option Value} {u d : Nat} {v sp dp : Int32} : X z 54 12 [x0, x1] (.int v :: .int dp :: .ref d :: .int sp :: .ref u :: st) cu (K, I, R, L, sz, ex) Q = (((K u).1 = 20 ∨ (K u).1 = 50) ∧ (K d).1 = 20 ∧ ¬ sp < 0 ∧ ¬ dp < 0 ∧ ¬ v < 0 ∧ sp.toNatClampNeg + v.toNatClampNeg ≤ (K u).2 ∧ dp.toNatClampNeg + v.toNatClampNeg ≤ (K d).2 ∧ wsum st ≤ 8 ∧ X z 54 15 [x0, x1] (st) cu (K, cpI I u sp.toNatClampNeg d dp.toNatClampNeg v.toNatClampNeg, R, L, sz, ex) Q) := by
  rw [x54_12]
  rfl
theorem v54_15 {z : P0} {st : List Value} {cu : Nat × Nat} {Q : Res → Mem → Prop} {σ : Mem} {x1 : Option Value} {u : Nat} : X z 54 15 [some (.ref u), x1] (st) cu σ Q = (X z 54 16 [some (.ref u), x1] (.ref u :: st) cu σ Q) := by
  rw [x54_15]
  rfl
theorem v54_16 {z : P0} {st : List Value} {cu : Nat × Nat} {Q : Res → Mem → Prop} {σ : Mem} {x0 : Option Value} {u : Nat} : X z 54 16 [x0, some (.ref u)] (st) cu σ Q = (X z 54 17 [x0, some (.ref u)] (.ref u :: st) cu σ Q) := by
  rw [x54_16]
  rfl
theorem v54_17 {z : P0} {st : List Value} {cu : Nat × Nat} {Q : Res → Mem → Prop} {K : Nat → Nat × Nat} {I : Nat → Nat → Int32} {R : Nat → Nat → Option Nat} {L : Nat → Nat → Int64} {sz : Nat} {ex : Bool} {x0 x1 : Option Value} {u : Nat} : X z 54 17 [x0, x1] (.ref u :: st) cu (K, I, R, L, sz, ex) Q = ((K u).1 = 109 ∧ X z 54 20 [x0, x1] (.int (I u 1) :: st) cu (K, I, R, L, sz, ex) Q) := by
  rw [x54_17]
  rfl
theorem v54_20 {z : P0} {st : List Value} {cu : Nat × Nat} {Q : Res → Mem → Prop} {K : Nat → Nat × Nat} {I : Nat → Nat → Int32} {R : Nat → Nat → Option Nat} {L : Nat → Nat → Int64} {sz : Nat} {ex : Bool} {x0 x1 : Option Value} {u : Nat} {v : Int32} : X z 54 20 [x0, x1] (.int v :: .ref u :: st) cu (K, I, R, L, sz, ex) Q = ((K u).1 = 109 ∧ X z 54 23 [x0, x1] (st) cu (K, up2 I u 1 v, R, L, sz, ex) Q) := by
  rw [x54_20]
  exact i_putI
theorem v54_23 {z : P0} {st : List Value} {cu : Nat × Nat} {Q : Res → Mem → Prop} {σ : Mem} {x1 : Option Value} {u : Nat} : X z 54 23 [some (.ref u), x1] (st) cu σ Q = (X z 54 24 [some (.ref u), x1] (.ref u :: st) cu σ Q) := by
  rw [x54_23]
  rfl
theorem v54_24 {z : P0} {st : List Value} {cu : Nat × Nat} {Q : Res → Mem → Prop} {σ : Mem} {x0 : Option Value} {u : Nat} : X z 54 24 [x0, some (.ref u)] (st) cu σ Q = (X z 54 25 [x0, some (.ref u)] (.ref u :: st) cu σ Q) := by
  rw [x54_24]
  rfl
theorem v54_25 {z : P0} {st : List Value} {cu : Nat × Nat} {Q : Res → Mem → Prop} {K : Nat → Nat × Nat} {I : Nat → Nat → Int32} {R : Nat → Nat → Option Nat} {L : Nat → Nat → Int64} {sz : Nat} {ex : Bool} {x0 x1 : Option Value} {u : Nat} : X z 54 25 [x0, x1] (.ref u :: st) cu (K, I, R, L, sz, ex) Q = ((K u).1 = 109 ∧ X z 54 28 [x0, x1] (.int (I u 2) :: st) cu (K, I, R, L, sz, ex) Q) := by
  rw [x54_25]
  rfl
theorem v54_28 {z : P0} {st : List Value} {cu : Nat × Nat} {Q : Res → Mem → Prop} {K : Nat → Nat × Nat} {I : Nat → Nat → Int32} {R : Nat → Nat → Option Nat} {L : Nat → Nat → Int64} {sz : Nat} {ex : Bool} {x0 x1 : Option Value} {u : Nat} {v : Int32} : X z 54 28 [x0, x1] (.int v :: .ref u :: st) cu (K, I, R, L, sz, ex) Q = ((v = nI 0 ∨ v = nI 1) ∧ (K u).1 = 109 ∧ X z 54 31 [x0, x1] (st) cu (K, up2 I u 2 v, R, L, sz, ex) Q) := by
  rw [x54_28]
  rw [nI_0, one1]
  exact i_putZ
theorem v54_31 {z : P0} {cu : Nat × Nat} {Q : Res → Mem → Prop} {σ : Mem} {x0 x1 : Option Value} : X z 54 31 [x0, x1] ([]) cu σ Q = (Q (.inl none) σ) := by
  rw [x54_31]
  rfl
theorem v56_0 {z : P0} {st : List Value} {cu : Nat × Nat} {Q : Res → Mem → Prop} {σ : Mem} {x1 x2 : Option Value} {u : Nat} : X z 56 0 [some (.ref u), x1, x2] (st) cu σ Q = (X z 56 1 [some (.ref u), x1, x2] (.ref u :: st) cu σ Q) := by
  rw [x56_0]
  rfl
theorem v56_1 {z : P0} {st : List Value} {cu : Nat × Nat} {Q : Res → Mem → Prop} {K : Nat → Nat × Nat} {I : Nat → Nat → Int32} {R : Nat → Nat → Option Nat} {L : Nat → Nat → Int64} {sz : Nat} {ex : Bool} {x0 x1 x2 : Option Value} {u : Nat} : X z 56 1 [x0, x1, x2] (.ref u :: st) cu (K, I, R, L, sz, ex) Q = ((K u).1 = 109 ∧ X z 56 4 [x0, x1, x2] (.int (I u 2) :: st) cu (K, I, R, L, sz, ex) Q) := by
  rw [x56_1]
  rfl
theorem v56_4 {z : P0} {st : List Value} {cu : Nat × Nat} {Q : Res → Mem → Prop} {σ : Mem} {x0 x1 x2 : Option Value} {u : Int32} : X z 56 4 [x0, x1, x2] (.int u :: st) cu σ Q = (if u = nI 0 then X z 56 10 [x0, x1, x2] (st) cu σ Q else X z 56 7 [x0, x1, x2] (st) cu σ Q) := by
  rw [x56_4]
  rw [nI_0]
  obtain ⟨K, I, R, L, sz, ex⟩ := σ
  exact br_ite
theorem v56_7 {z : P0} {st : List Value} {cu : Nat × Nat} {Q : Res → Mem → Prop} {σ : Mem} {x0 x1 x2 : Option Value} : X z 56 7 [x0, x1, x2] (st) cu σ Q = (X z 56 9 [x0, x1, x2] (.ref (z.1 101) :: st) cu σ Q) := by
  rw [x56_7]
  obtain ⟨K, I, R, L, sz, ex⟩ := σ
  exact i_ldc
theorem v56_9 {z : P0} {cu : Nat × Nat} {Q : Res → Mem → Prop} {σ : Mem} {x0 x1 x2 : Option Value} {v : Nat} : X z 56 9 [x0, x1, x2] ([.ref v]) cu σ Q = (Q (.inl (some (.ref v))) σ) := by
  rw [x56_9]
  rfl
theorem v56_10 {z : P0} {st : List Value} {cu : Nat × Nat} {Q : Res → Mem → Prop} {σ : Mem} {x1 x2 : Option Value} {u : Nat} : X z 56 10 [some (.ref u), x1, x2] (st) cu σ Q = (X z 56 11 [some (.ref u), x1, x2] (.ref u :: st) cu σ Q) := by
  rw [x56_10]
  rfl
theorem v56_11 {z : P0} {st : List Value} {cu : Nat × Nat} {Q : Res → Mem → Prop} {K : Nat → Nat × Nat} {I : Nat → Nat → Int32} {R : Nat → Nat → Option Nat} {L : Nat → Nat → Int64} {sz : Nat} {ex : Bool} {x0 x1 x2 : Option Value} {u : Nat} : X z 56 11 [x0, x1, x2] (.ref u :: st) cu (K, I, R, L, sz, ex) Q = ((K u).1 = 109 ∧ X z 56 14 [x0, x1, x2] (va_rf (R u 0) :: st) cu (K, I, R, L, sz, ex) Q) := by
  rw [x56_11]
  rfl
theorem v56_14 {z : P0} {st : List Value} {cu : Nat × Nat} {Q : Res → Mem → Prop} {σ : Mem} {x0 x1 x2 : Option Value} : X z 56 14 [x0, x1, x2] (st) cu σ Q = (X z 56 15 [x0, x1, x2] (.int (nI 0) :: st) cu σ Q) := by
  rw [x56_14]
  rfl
theorem v56_15 {z : P0} {st : List Value} {cu : Nat × Nat} {Q : Res → Mem → Prop} {K : Nat → Nat × Nat} {I : Nat → Nat → Int32} {R : Nat → Nat → Option Nat} {L : Nat → Nat → Int64} {sz : Nat} {ex : Bool} {x0 x1 x2 : Option Value} {u : Nat} {v : Int32} : X z 56 15 [x0, x1, x2] (.int v :: .ref u :: st) cu (K, I, R, L, sz, ex) Q = (((K u).1 = 20 ∨ (K u).1 = 50) ∧ vp_in v (K u).2 ∧ X z 56 16 [x0, x1, x2] (.int (I u v.toNatClampNeg) :: st) cu (K, I, R, L, sz, ex) Q) := by
  rw [x56_15]
  rfl
theorem v56_16 {z : P0} {st : List Value} {cu : Nat × Nat} {Q : Res → Mem → Prop} {σ : Mem} {x0 x1 x2 : Option Value} {u : Int32} : X z 56 16 [x0, x1, x2] (.int u :: st) cu σ Q = (cat2 x0 = false ∧ X z 56 17 [x0, some (.int u), x2] (st) cu σ Q) := by
  rw [x56_16]
  obtain ⟨K, I, R, L, sz, ex⟩ := σ
  exact i_istore_n.trans sl_1
theorem v56_17 {z : P0} {st : List Value} {cu : Nat × Nat} {Q : Res → Mem → Prop} {σ : Mem} {x0 x2 : Option Value} {u : Int32} : X z 56 17 [x0, some (.int u), x2] (st) cu σ Q = (X z 56 18 [x0, some (.int u), x2] (.int u :: st) cu σ Q) := by
  rw [x56_17]
  rfl
theorem v56_18 {z : P0} {st : List Value} {cu : Nat × Nat} {Q : Res → Mem → Prop} {σ : Mem} {x0 x1 x2 : Option Value} : X z 56 18 [x0, x1, x2] (st) cu σ Q = (X z 56 20 [x0, x1, x2] (.int (nI 97) :: st) cu σ Q) := by
  rw [x56_18]
  rfl
theorem v56_20 {z : P0} {st : List Value} {cu : Nat × Nat} {Q : Res → Mem → Prop} {σ : Mem} {x0 x1 x2 : Option Value} {u v : Int32} : X z 56 20 [x0, x1, x2] (.int v :: .int u :: st) cu σ Q = (if u = v then X z 56 47 [x0, x1, x2] (st) cu σ Q else X z 56 23 [x0, x1, x2] (st) cu σ Q) := by
  rw [x56_20]
  obtain ⟨K, I, R, L, sz, ex⟩ := σ
  exact br_ite
theorem v56_23 {z : P0} {st : List Value} {cu : Nat × Nat} {Q : Res → Mem → Prop} {σ : Mem} {x0 x2 : Option Value} {u : Int32} : X z 56 23 [x0, some (.int u), x2] (st) cu σ Q = (X z 56 24 [x0, some (.int u), x2] (.int u :: st) cu σ Q) := by
  rw [x56_23]
  rfl
theorem v56_24 {z : P0} {st : List Value} {cu : Nat × Nat} {Q : Res → Mem → Prop} {σ : Mem} {x0 x1 x2 : Option Value} : X z 56 24 [x0, x1, x2] (st) cu σ Q = (X z 56 26 [x0, x1, x2] (.int (nI 101) :: st) cu σ Q) := by
  rw [x56_24]
  rfl
theorem v56_26 {z : P0} {st : List Value} {cu : Nat × Nat} {Q : Res → Mem → Prop} {σ : Mem} {x0 x1 x2 : Option Value} {u v : Int32} : X z 56 26 [x0, x1, x2] (.int v :: .int u :: st) cu σ Q = (if u = v then X z 56 47 [x0, x1, x2] (st) cu σ Q else X z 56 29 [x0, x1, x2] (st) cu σ Q) := by
  rw [x56_26]
  obtain ⟨K, I, R, L, sz, ex⟩ := σ
  exact br_ite
theorem v56_29 {z : P0} {st : List Value} {cu : Nat × Nat} {Q : Res → Mem → Prop} {σ : Mem} {x0 x2 : Option Value} {u : Int32} : X z 56 29 [x0, some (.int u), x2] (st) cu σ Q = (X z 56 30 [x0, some (.int u), x2] (.int u :: st) cu σ Q) := by
  rw [x56_29]
  rfl
theorem v56_30 {z : P0} {st : List Value} {cu : Nat × Nat} {Q : Res → Mem → Prop} {σ : Mem} {x0 x1 x2 : Option Value} : X z 56 30 [x0, x1, x2] (st) cu σ Q = (X z 56 32 [x0, x1, x2] (.int (nI 105) :: st) cu σ Q) := by
  rw [x56_30]
  rfl
theorem v56_32 {z : P0} {st : List Value} {cu : Nat × Nat} {Q : Res → Mem → Prop} {σ : Mem} {x0 x1 x2 : Option Value} {u v : Int32} : X z 56 32 [x0, x1, x2] (.int v :: .int u :: st) cu σ Q = (if u = v then X z 56 47 [x0, x1, x2] (st) cu σ Q else X z 56 35 [x0, x1, x2] (st) cu σ Q) := by
  rw [x56_32]
  obtain ⟨K, I, R, L, sz, ex⟩ := σ
  exact br_ite
theorem v56_35 {z : P0} {st : List Value} {cu : Nat × Nat} {Q : Res → Mem → Prop} {σ : Mem} {x0 x2 : Option Value} {u : Int32} : X z 56 35 [x0, some (.int u), x2] (st) cu σ Q = (X z 56 36 [x0, some (.int u), x2] (.int u :: st) cu σ Q) := by
  rw [x56_35]
  rfl
theorem v56_36 {z : P0} {st : List Value} {cu : Nat × Nat} {Q : Res → Mem → Prop} {σ : Mem} {x0 x1 x2 : Option Value} : X z 56 36 [x0, x1, x2] (st) cu σ Q = (X z 56 38 [x0, x1, x2] (.int (nI 111) :: st) cu σ Q) := by
  rw [x56_36]
  rfl
theorem v56_38 {z : P0} {st : List Value} {cu : Nat × Nat} {Q : Res → Mem → Prop} {σ : Mem} {x0 x1 x2 : Option Value} {u v : Int32} : X z 56 38 [x0, x1, x2] (.int v :: .int u :: st) cu σ Q = (if u = v then X z 56 47 [x0, x1, x2] (st) cu σ Q else X z 56 41 [x0, x1, x2] (st) cu σ Q) := by
  rw [x56_38]
  obtain ⟨K, I, R, L, sz, ex⟩ := σ
  exact br_ite
theorem v56_41 {z : P0} {st : List Value} {cu : Nat × Nat} {Q : Res → Mem → Prop} {σ : Mem} {x0 x2 : Option Value} {u : Int32} : X z 56 41 [x0, some (.int u), x2] (st) cu σ Q = (X z 56 42 [x0, some (.int u), x2] (.int u :: st) cu σ Q) := by
  rw [x56_41]
  rfl
theorem v56_42 {z : P0} {st : List Value} {cu : Nat × Nat} {Q : Res → Mem → Prop} {σ : Mem} {x0 x1 x2 : Option Value} : X z 56 42 [x0, x1, x2] (st) cu σ Q = (X z 56 44 [x0, x1, x2] (.int (nI 117) :: st) cu σ Q) := by
  rw [x56_42]
  rfl
theorem v56_44 {z : P0} {st : List Value} {cu : Nat × Nat} {Q : Res → Mem → Prop} {σ : Mem} {x0 x1 x2 : Option Value} {u v : Int32} : X z 56 44 [x0, x1, x2] (.int v :: .int u :: st) cu σ Q = (if u = v then X z 56 47 [x0, x1, x2] (st) cu σ Q else X z 56 51 [x0, x1, x2] (st) cu σ Q) := by
  rw [x56_44]
  obtain ⟨K, I, R, L, sz, ex⟩ := σ
  exact br_ne
theorem v56_47 {z : P0} {st : List Value} {cu : Nat × Nat} {Q : Res → Mem → Prop} {σ : Mem} {x0 x1 x2 : Option Value} : X z 56 47 [x0, x1, x2] (st) cu σ Q = (X z 56 48 [x0, x1, x2] (.int (nI 1) :: st) cu σ Q) := by
  rw [x56_47]
  rfl
theorem v56_48 {z : P0} {st : List Value} {cu : Nat × Nat} {Q : Res → Mem → Prop} {σ : Mem} {x0 x1 x2 : Option Value} : X z 56 48 [x0, x1, x2] (st) cu σ Q = (X z 56 52 [x0, x1, x2] (st) cu σ Q) := by
  rw [x56_48]
  rfl
theorem v56_51 {z : P0} {st : List Value} {cu : Nat × Nat} {Q : Res → Mem → Prop} {σ : Mem} {x0 x1 x2 : Option Value} : X z 56 51 [x0, x1, x2] (st) cu σ Q = (X z 56 52 [x0, x1, x2] (.int (nI 0) :: st) cu σ Q) := by
  rw [x56_51]
  rfl
theorem v56_52 {z : P0} {st : List Value} {cu : Nat × Nat} {Q : Res → Mem → Prop} {σ : Mem} {x0 x1 x2 : Option Value} {u : Int32} : X z 56 52 [x0, x1, x2] (.int u :: st) cu σ Q = (cat2 x1 = false ∧ X z 56 53 [x0, x1, some (.int u)] (st) cu σ Q) := by
  rw [x56_52]
  obtain ⟨K, I, R, L, sz, ex⟩ := σ
  exact i_istore_n.trans sl_2
theorem v56_53 {z : P0} {st : List Value} {cu : Nat × Nat} {Q : Res → Mem → Prop} {σ : Mem} {x0 x1 : Option Value} {u : Int32} : X z 56 53 [x0, x1, some (.int u)] (st) cu σ Q = (X z 56 54 [x0, x1, some (.int u)] (.int u :: st) cu σ Q) := by
  rw [x56_53]
  rfl
theorem v56_54 {z : P0} {st : List Value} {cu : Nat × Nat} {Q : Res → Mem → Prop} {σ : Mem} {x0 x1 x2 : Option Value} {u : Int32} : X z 56 54 [x0, x1, x2] (.int u :: st) cu σ Q = (if u = nI 0 then X z 56 62 [x0, x1, x2] (st) cu σ Q else X z 56 57 [x0, x1, x2] (st) cu σ Q) := by
  rw [x56_54]
  rw [nI_0]
  obtain ⟨K, I, R, L, sz, ex⟩ := σ
  exact br_ite
theorem v56_57 {z : P0} {st : List Value} {cu : Nat × Nat} {Q : Res → Mem → Prop} {σ : Mem} {x0 x1 x2 : Option Value} : X z 56 57 [x0, x1, x2] (st) cu σ Q = (X z 56 59 [x0, x1, x2] (.ref (z.1 102) :: st) cu σ Q) := by
  rw [x56_57]
  obtain ⟨K, I, R, L, sz, ex⟩ := σ
  exact i_ldc
theorem v56_59 {z : P0} {st : List Value} {cu : Nat × Nat} {Q : Res → Mem → Prop} {σ : Mem} {x0 x1 x2 : Option Value} : X z 56 59 [x0, x1, x2] (st) cu σ Q = (X z 56 64 [x0, x1, x2] (st) cu σ Q) := by
  rw [x56_59]
  rfl
theorem v56_62 {z : P0} {st : List Value} {cu : Nat × Nat} {Q : Res → Mem → Prop} {σ : Mem} {x0 x1 x2 : Option Value} : X z 56 62 [x0, x1, x2] (st) cu σ Q = (X z 56 64 [x0, x1, x2] (.ref (z.1 103) :: st) cu σ Q) := by
  rw [x56_62]
  obtain ⟨K, I, R, L, sz, ex⟩ := σ
  exact i_ldc
theorem v56_64 {z : P0} {cu : Nat × Nat} {Q : Res → Mem → Prop} {σ : Mem} {x0 x1 x2 : Option Value} {v : Nat} : X z 56 64 [x0, x1, x2] ([.ref v]) cu σ Q = (Q (.inl (some (.ref v))) σ) := by
  rw [x56_64]
  rfl
