theorem v192_0 {z : P0} {st : List Value} {cu : Nat × Nat} {Q : Res → Mem → Prop} {σ : Mem} {x0 : Option Value} {u : Int32} : X z 192 0 [x0, some (.int u)] (st) cu σ Q = (X z 192 1 [x0, some (.int u)] (.int u :: st) cu σ Q) := by
  rw [x192_0]
  rfl
theorem v192_1 {z : P0} {st : List Value} {cu : Nat × Nat} {Q : Res → Mem → Prop} {σ : Mem} {x1 : Option Value} {u : Nat} : X z 192 1 [some (.ref u), x1] (st) cu σ Q = (X z 192 2 [some (.ref u), x1] (.ref u :: st) cu σ Q) := by
  rw [x192_1]
  rfl
theorem v192_2 {z : P0} {st : List Value} {cu : Nat × Nat} {Q : Res → Mem → Prop} {K : Nat → Nat × Nat} {I : Nat → Nat → Int32} {R : Nat → Nat → Option Nat} {L : Nat → Nat → Int64} {sz : Nat} {ex : Bool} {x0 x1 : Option Value} {u : Nat} : X z 192 2 [x0, x1] (.ref u :: st) cu (K, I, R, L, sz, ex) Q = (isArr (K u).1 = true ∧ X z 192 3 [x0, x1] (.int (nI (K u).2) :: st) cu (K, I, R, L, sz, ex) Q) := by
  rw [x192_2]
  rfl
theorem v192_3 {z : P0} {st : List Value} {cu : Nat × Nat} {Q : Res → Mem → Prop} {σ : Mem} {x0 x1 : Option Value} {u v : Int32} : X z 192 3 [x0, x1] (.int v :: .int u :: st) cu σ Q = (if u < v then X z 192 6 [x0, x1] (st) cu σ Q else X z 192 12 [x0, x1] (st) cu σ Q) := by
  rw [x192_3]
  obtain ⟨K, I, R, L, sz, ex⟩ := σ
  exact br_ge
theorem v192_6 {z : P0} {st : List Value} {cu : Nat × Nat} {Q : Res → Mem → Prop} {σ : Mem} {x1 : Option Value} {u : Nat} : X z 192 6 [some (.ref u), x1] (st) cu σ Q = (X z 192 7 [some (.ref u), x1] (.ref u :: st) cu σ Q) := by
  rw [x192_6]
  rfl
theorem v192_7 {z : P0} {st : List Value} {cu : Nat × Nat} {Q : Res → Mem → Prop} {σ : Mem} {x0 : Option Value} {u : Int32} : X z 192 7 [x0, some (.int u)] (st) cu σ Q = (X z 192 8 [x0, some (.int u)] (.int u :: st) cu σ Q) := by
  rw [x192_7]
  rfl
theorem v192_8 {z : P0} {st : List Value} {cu : Nat × Nat} {Q : Res → Mem → Prop} {K : Nat → Nat × Nat} {I : Nat → Nat → Int32} {R : Nat → Nat → Option Nat} {L : Nat → Nat → Int64} {sz : Nat} {ex : Bool} {x0 x1 : Option Value} {u : Nat} {v : Int32} : X z 192 8 [x0, x1] (.int v :: .ref u :: st) cu (K, I, R, L, sz, ex) Q = (((K u).1 = 20 ∨ (K u).1 = 50) ∧ vp_in v (K u).2 ∧ X z 192 9 [x0, x1] (.int (I u v.toNatClampNeg) :: st) cu (K, I, R, L, sz, ex) Q) := by
  rw [x192_8]
  rfl
theorem v192_9 {z : P0} {st : List Value} {cu : Nat × Nat} {Q : Res → Mem → Prop} {σ : Mem} {x0 x1 : Option Value} : X z 192 9 [x0, x1] (st) cu σ Q = (X z 192 19 [x0, x1] (st) cu σ Q) := by
  rw [x192_9]
  rfl
theorem v192_12 {z : P0} {st : List Value} {cu : Nat × Nat} {Q : Res → Mem → Prop} {σ : Mem} {x0 x1 : Option Value} : X z 192 12 [x0, x1] (st) cu σ Q = (X z 192 14 [x0, x1] (.int (nI 668265263) :: st) cu σ Q) := by
  rw [x192_12]
  obtain ⟨K, I, R, L, sz, ex⟩ := σ
  exact i_ldcI
theorem v192_14 {z : P0} {st : List Value} {cu : Nat × Nat} {Q : Res → Mem → Prop} {σ : Mem} {x0 : Option Value} {u : Int32} : X z 192 14 [x0, some (.int u)] (st) cu σ Q = (X z 192 15 [x0, some (.int u)] (.int u :: st) cu σ Q) := by
  rw [x192_14]
  rfl
theorem v192_15 {z : P0} {st : List Value} {cu : Nat × Nat} {Q : Res → Mem → Prop} {σ : Mem} {x0 x1 : Option Value} : X z 192 15 [x0, x1] (st) cu σ Q = (X z 192 17 [x0, x1] (.int (nI 83) :: st) cu σ Q) := by
  rw [x192_15]
  rfl
theorem v192_17 {z : P0} {st : List Value} {cu : Nat × Nat} {Q : Res → Mem → Prop} {σ : Mem} {x0 x1 : Option Value} {u v : Int32} : X z 192 17 [x0, x1] (.int v :: .int u :: st) cu σ Q = (X z 192 18 [x0, x1] (.int (u + v) :: st) cu σ Q) := by
  rw [x192_17]
  rfl
theorem v192_18 {z : P0} {st : List Value} {cu : Nat × Nat} {Q : Res → Mem → Prop} {σ : Mem} {x0 x1 : Option Value} {u v : Int32} : X z 192 18 [x0, x1] (.int v :: .int u :: st) cu σ Q = (X z 192 19 [x0, x1] (.int (u * v) :: st) cu σ Q) := by
  rw [x192_18]
  rfl
theorem v192_19 {z : P0} {cu : Nat × Nat} {Q : Res → Mem → Prop} {σ : Mem} {x0 x1 : Option Value} {v : Int32} : X z 192 19 [x0, x1] ([.int v]) cu σ Q = (Q (.inl (some (.int v))) σ) := by
  rw [x192_19]
  exact propext ⟨fun h => h.2, fun h => ⟨trivial, h⟩⟩
theorem v193_0 {z : P0} {st : List Value} {cu : Nat × Nat} {Q : Res → Mem → Prop} {σ : Mem} {x1 : Option Value} {u : Int32} : X z 193 0 [some (.int u), x1] (st) cu σ Q = (X z 193 1 [some (.int u), x1] (.int u :: st) cu σ Q) := by
  rw [x193_0]
  rfl
theorem v193_1 {z : P0} {st : List Value} {cu : Nat × Nat} {Q : Res → Mem → Prop} {σ : Mem} {x0 x1 : Option Value} : X z 193 1 [x0, x1] (st) cu σ Q = (X z 193 2 [x0, x1] (.int (nI 1) :: st) cu σ Q) := by
  rw [x193_1]
  rfl
theorem v193_2 {z : P0} {st : List Value} {cu : Nat × Nat} {Q : Res → Mem → Prop} {σ : Mem} {x0 x1 : Option Value} {u v : Int32} : X z 193 2 [x0, x1] (.int v :: .int u :: st) cu σ Q = (X z 193 3 [x0, x1] (.int (ushr u v) :: st) cu σ Q) := by
  rw [x193_2]
  rfl
theorem v193_3 {z : P0} {st : List Value} {cu : Nat × Nat} {Q : Res → Mem → Prop} {σ : Mem} {x0 : Option Value} {u : Int32} : X z 193 3 [x0, some (.int u)] (st) cu σ Q = (X z 193 4 [x0, some (.int u)] (.int u :: st) cu σ Q) := by
  rw [x193_3]
  rfl
theorem v193_4 {z : P0} {st : List Value} {cu : Nat × Nat} {Q : Res → Mem → Prop} {σ : Mem} {x0 x1 : Option Value} {u v : Int32} : X z 193 4 [x0, x1] (.int v :: .int u :: st) cu σ Q = (¬ v = 0 ∧ X z 193 5 [x0, x1] (.int (u - u / v * v) :: st) cu σ Q) := by
  rw [x193_4]
  rfl
theorem v193_5 {z : P0} {cu : Nat × Nat} {Q : Res → Mem → Prop} {σ : Mem} {x0 x1 : Option Value} {v : Int32} : X z 193 5 [x0, x1] ([.int v]) cu σ Q = (Q (.inl (some (.int v))) σ) := by
  rw [x193_5]
  exact propext ⟨fun h => h.2, fun h => ⟨trivial, h⟩⟩
theorem v194_0 {z : P0} {st : List Value} {cu : Nat × Nat} {Q : Res → Mem → Prop} {σ : Mem} {x0 x1 x2 x3 : Option Value} : X z 194 0 [x0, x1, x2, x3] (st) cu σ Q = (X z 194 2 [x0, x1, x2, x3] (.int (nI 97) :: st) cu σ Q) := by
  rw [x194_0]
  rfl
theorem v194_2 {z : P0} {st : List Value} {cu : Nat × Nat} {Q : Res → Mem → Prop} {σ : Mem} {x1 x2 x3 : Option Value} {u : Int32} : X z 194 2 [some (.int u), x1, x2, x3] (st) cu σ Q = (X z 194 3 [some (.int u), x1, x2, x3] (.int u :: st) cu σ Q) := by
  rw [x194_2]
  rfl
theorem v194_3 {z : P0} {st : List Value} {cu : Nat × Nat} {Q : Res → Mem → Prop} {σ : Mem} {x0 x1 x2 x3 : Option Value} {u : Int32} : X z 194 3 [x0, x1, x2, x3] (.int u :: st) cu σ Q = (if u = nI 0 then X z 194 6 [x0, x1, x2, x3] (st) cu σ Q else X z 194 16 [x0, x1, x2, x3] (st) cu σ Q) := by
  rw [x194_3]
  rw [nI_0]
  obtain ⟨K, I, R, L, sz, ex⟩ := σ
  exact br_ne
theorem v194_6 {z : P0} {st : List Value} {cu : Nat × Nat} {Q : Res → Mem → Prop} {σ : Mem} {x0 x2 x3 : Option Value} {u : Int32} : X z 194 6 [x0, some (.int u), x2, x3] (st) cu σ Q = (X z 194 7 [x0, some (.int u), x2, x3] (.int u :: st) cu σ Q) := by
  rw [x194_6]
  rfl
theorem v194_7 {z : P0} {st : List Value} {cu : Nat × Nat} {Q : Res → Mem → Prop} {σ : Mem} {x0 x1 x2 x3 : Option Value} : X z 194 7 [x0, x1, x2, x3] (st) cu σ Q = (X z 194 8 [x0, x1, x2, x3] (.int (nI 5) :: st) cu σ Q) := by
  rw [x194_7]
  rfl
theorem v194_8 {z : P0} {st : List Value} {cu : Nat × Nat} {Q : Res → Mem → Prop} {σ : Mem} {x0 x1 x2 : Option Value} {u : Int32} : X z 194 8 [x0, x1, x2, some (.int u)] (st) cu σ Q = (X z 194 9 [x0, x1, x2, some (.int u)] (.int u :: st) cu σ Q) := by
  rw [x194_8]
  rfl
theorem v194_9 {z : P0} {st : List Value} {cu : Nat × Nat} {Q : Res → Mem → Prop} {σ : Mem} {x0 x1 x2 x3 : Option Value} {u v : Int32} : X z 194 9 [x0, x1, x2, x3] (.int v :: .int u :: st) cu σ Q = (X z 194 10 [x0, x1, x2, x3] (.int (u * v) :: st) cu σ Q) := by
  rw [x194_9]
  rfl
theorem v194_10 {z : P0} {st : List Value} {cu : Nat × Nat} {Q : Res → Mem → Prop} {σ : Mem} {x0 x1 x2 x3 : Option Value} {u v : Int32} : X z 194 10 [x0, x1, x2, x3] (.int v :: .int u :: st) cu σ Q = (X z 194 11 [x0, x1, x2, x3] (.int (u + v) :: st) cu σ Q) := by
  rw [x194_10]
  rfl
theorem v194_11 {z : P0} {st : List Value} {cu : Nat × Nat} {Q : Res → Mem → Prop} {σ : Mem} {x0 x1 x3 : Option Value} {u : Int32} : X z 194 11 [x0, x1, some (.int u), x3] (st) cu σ Q = (X z 194 12 [x0, x1, some (.int u), x3] (.int u :: st) cu σ Q) := by
  rw [x194_11]
  rfl
theorem v194_12 {z : P0} {st : List Value} {cu : Nat × Nat} {Q : Res → Mem → Prop} {σ : Mem} {x0 x1 x2 x3 : Option Value} {u v : Int32} : X z 194 12 [x0, x1, x2, x3] (.int v :: .int u :: st) cu σ Q = (X z 194 13 [x0, x1, x2, x3] (.int (u + v) :: st) cu σ Q) := by
  rw [x194_12]
  rfl
theorem v194_13 {z : P0} {st : List Value} {cu : Nat × Nat} {Q : Res → Mem → Prop} {σ : Mem} {x0 x1 x2 x3 : Option Value} : X z 194 13 [x0, x1, x2, x3] (st) cu σ Q = (X z 194 26 [x0, x1, x2, x3] (st) cu σ Q) := by
  rw [x194_13]
  rfl
theorem v194_16 {z : P0} {st : List Value} {cu : Nat × Nat} {Q : Res → Mem → Prop} {σ : Mem} {x0 x1 x2 x3 : Option Value} : X z 194 16 [x0, x1, x2, x3] (st) cu σ Q = (X z 194 17 [x0, x1, x2, x3] (.int (nI 3) :: st) cu σ Q) := by
  rw [x194_16]
  rfl
theorem v194_17 {z : P0} {st : List Value} {cu : Nat × Nat} {Q : Res → Mem → Prop} {σ : Mem} {x0 x2 x3 : Option Value} {u : Int32} : X z 194 17 [x0, some (.int u), x2, x3] (st) cu σ Q = (X z 194 18 [x0, some (.int u), x2, x3] (.int u :: st) cu σ Q) := by
  rw [x194_17]
  rfl
theorem v194_18 {z : P0} {st : List Value} {cu : Nat × Nat} {Q : Res → Mem → Prop} {σ : Mem} {x0 x1 x2 x3 : Option Value} {u v : Int32} : X z 194 18 [x0, x1, x2, x3] (.int v :: .int u :: st) cu σ Q = (X z 194 19 [x0, x1, x2, x3] (.int (u * v) :: st) cu σ Q) := by
  rw [x194_18]
  rfl
theorem v194_19 {z : P0} {st : List Value} {cu : Nat × Nat} {Q : Res → Mem → Prop} {σ : Mem} {x0 x1 x2 x3 : Option Value} : X z 194 19 [x0, x1, x2, x3] (st) cu σ Q = (X z 194 21 [x0, x1, x2, x3] (.int (nI 7) :: st) cu σ Q) := by
  rw [x194_19]
  rfl
theorem v194_21 {z : P0} {st : List Value} {cu : Nat × Nat} {Q : Res → Mem → Prop} {σ : Mem} {x0 x1 x2 : Option Value} {u : Int32} : X z 194 21 [x0, x1, x2, some (.int u)] (st) cu σ Q = (X z 194 22 [x0, x1, x2, some (.int u)] (.int u :: st) cu σ Q) := by
  rw [x194_21]
  rfl
theorem v194_22 {z : P0} {st : List Value} {cu : Nat × Nat} {Q : Res → Mem → Prop} {σ : Mem} {x0 x1 x2 x3 : Option Value} {u v : Int32} : X z 194 22 [x0, x1, x2, x3] (.int v :: .int u :: st) cu σ Q = (X z 194 23 [x0, x1, x2, x3] (.int (u * v) :: st) cu σ Q) := by
  rw [x194_22]
  rfl
theorem v194_23 {z : P0} {st : List Value} {cu : Nat × Nat} {Q : Res → Mem → Prop} {σ : Mem} {x0 x1 x2 x3 : Option Value} {u v : Int32} : X z 194 23 [x0, x1, x2, x3] (.int v :: .int u :: st) cu σ Q = (X z 194 24 [x0, x1, x2, x3] (.int (u + v) :: st) cu σ Q) := by
  rw [x194_23]
  rfl
theorem v194_24 {z : P0} {st : List Value} {cu : Nat × Nat} {Q : Res → Mem → Prop} {σ : Mem} {x0 x1 x3 : Option Value} {u : Int32} : X z 194 24 [x0, x1, some (.int u), x3] (st) cu σ Q = (X z 194 25 [x0, x1, some (.int u), x3] (.int u :: st) cu σ Q) := by
  rw [x194_24]
  rfl
theorem v194_25 {z : P0} {st : List Value} {cu : Nat × Nat} {Q : Res → Mem → Prop} {σ : Mem} {x0 x1 x2 x3 : Option Value} {u v : Int32} : X z 194 25 [x0, x1, x2, x3] (.int v :: .int u :: st) cu σ Q = (X z 194 26 [x0, x1, x2, x3] (.int (u + v) :: st) cu σ Q) := by
  rw [x194_25]
  rfl
theorem v194_26 {z : P0} {st : List Value} {cu : Nat × Nat} {Q : Res → Mem → Prop} {σ : Mem} {x0 x1 x2 x3 : Option Value} : X z 194 26 [x0, x1, x2, x3] (st) cu σ Q = (X z 194 28 [x0, x1, x2, x3] (.int (nI 26) :: st) cu σ Q) := by
  rw [x194_26]
  rfl
theorem v194_28 {z : P0} {st : List Value} {cu : Nat × Nat} {Q : Res → Mem → Prop} {σ : Mem} {x0 x1 x2 x3 : Option Value} {u v : Int32} : X z 194 28 [x0, x1, x2, x3] (.int v :: .int u :: st) cu σ Q = (¬ v = 0 ∧ X z 194 29 [x0, x1, x2, x3] (.int (u - u / v * v) :: st) cu σ Q) := by
  rw [x194_28]
  rfl
theorem v194_29 {z : P0} {st : List Value} {cu : Nat × Nat} {Q : Res → Mem → Prop} {σ : Mem} {x0 x1 x2 x3 : Option Value} {u v : Int32} : X z 194 29 [x0, x1, x2, x3] (.int v :: .int u :: st) cu σ Q = (X z 194 30 [x0, x1, x2, x3] (.int (u + v) :: st) cu σ Q) := by
  rw [x194_29]
  rfl
theorem v194_30 {z : P0} {cu : Nat × Nat} {Q : Res → Mem → Prop} {σ : Mem} {x0 x1 x2 x3 : Option Value} {v : Int32} : X z 194 30 [x0, x1, x2, x3] ([.int v]) cu σ Q = (Q (.inl (some (.int v))) σ) := by
  rw [x194_30]
  exact propext ⟨fun h => h.2, fun h => ⟨trivial, h⟩⟩
theorem v195_0 {z : P0} {st : List Value} {cu : Nat × Nat} {Q : Res → Mem → Prop} {σ : Mem} {x1 x2 x3 x4 x5 : Option Value} {u : Nat} : X z 195 0 [some (.ref u), x1, x2, x3, x4, x5] (st) cu σ Q = (X z 195 1 [some (.ref u), x1, x2, x3, x4, x5] (.ref u :: st) cu σ Q) := by
  rw [x195_0]
  rfl
theorem u195_1 {z : P0} {ls : Lcs} {st : List Value} {c n : Nat} {K : Nat → Nat × Nat} {I : Nat → Nat → Int32} {R : Nat → Nat → Option Nat} {L : Nat → Nat → Int64} {sz : Nat} {ex : Bool} {Q : Res → Mem → Prop} {x : Nat} : X z 195 1 ls (.ref x :: st) (c, n) (K, I, R, L, sz, ex) Q = ((K x).1 = 110 ∧ wsum st ≤ 8 ∧ c + 0 ≤ 20 ∧ n + 0 ≤ 120 ∧ X z 68 0 [some (.ref x), none] [] (0, 0) (K, I, R, L, sz, ex) (aftr (X z) mT 195 1 ls st (c + 0, n + 0) Q)) := v195_1
theorem v195_4 {z : P0} {st : List Value} {cu : Nat × Nat} {Q : Res → Mem → Prop} {σ : Mem} {x0 x1 x2 x3 x4 x5 : Option Value} {u : Int32} : X z 195 4 [x0, x1, x2, x3, x4, x5] (.int u :: st) cu σ Q = (X z 195 5 [x0, x1, x2, x3, x4, x5] (st) cu σ Q) := by
  rw [x195_4]
  exact propext ⟨fun h => h.2, fun h => ⟨rfl, h⟩⟩
theorem v195_5 {z : P0} {st : List Value} {cu : Nat × Nat} {Q : Res → Mem → Prop} {σ : Mem} {x0 x1 x2 x3 x4 x5 : Option Value} : X z 195 5 [x0, x1, x2, x3, x4, x5] (st) cu σ Q = (X z 195 6 [x0, x1, x2, x3, x4, x5] (.int (nI 0) :: st) cu σ Q) := by
  rw [x195_5]
  rfl
theorem v195_6 {z : P0} {st : List Value} {cu : Nat × Nat} {Q : Res → Mem → Prop} {σ : Mem} {x0 x1 x2 x3 x4 x5 : Option Value} {u : Int32} : X z 195 6 [x0, x1, x2, x3, x4, x5] (.int u :: st) cu σ Q = (cat2 x4 = false ∧ X z 195 8 [x0, x1, x2, x3, x4, some (.int u)] (st) cu σ Q) := by
  rw [x195_6]
  obtain ⟨K, I, R, L, sz, ex⟩ := σ
  exact i_istore.trans sl_5
theorem v195_8 {z : P0} {st : List Value} {cu : Nat × Nat} {Q : Res → Mem → Prop} {σ : Mem} {x0 x1 x2 x3 x4 : Option Value} {u : Int32} : X z 195 8 [x0, x1, x2, x3, x4, some (.int u)] (st) cu σ Q = (X z 195 10 [x0, x1, x2, x3, x4, some (.int u)] (.int u :: st) cu σ Q) := by
  rw [x195_8]
  rfl
theorem v195_10 {z : P0} {st : List Value} {cu : Nat × Nat} {Q : Res → Mem → Prop} {σ : Mem} {x0 x1 x3 x4 x5 : Option Value} {u : Int32} : X z 195 10 [x0, x1, some (.int u), x3, x4, x5] (st) cu σ Q = (X z 195 11 [x0, x1, some (.int u), x3, x4, x5] (.int u :: st) cu σ Q) := by
  rw [x195_10]
  rfl
theorem v195_11 {z : P0} {st : List Value} {cu : Nat × Nat} {Q : Res → Mem → Prop} {σ : Mem} {x0 x1 x2 x3 x4 x5 : Option Value} {u v : Int32} : X z 195 11 [x0, x1, x2, x3, x4, x5] (.int v :: .int u :: st) cu σ Q = (if u < v then X z 195 14 [x0, x1, x2, x3, x4, x5] (st) cu σ Q else X z 195 53 [x0, x1, x2, x3, x4, x5] (st) cu σ Q) := by
  rw [x195_11]
  obtain ⟨K, I, R, L, sz, ex⟩ := σ
  exact br_ge
theorem v195_14 {z : P0} {st : List Value} {cu : Nat × Nat} {Q : Res → Mem → Prop} {σ : Mem} {x1 x2 x3 x4 x5 : Option Value} {u : Nat} : X z 195 14 [some (.ref u), x1, x2, x3, x4, x5] (st) cu σ Q = (X z 195 15 [some (.ref u), x1, x2, x3, x4, x5] (.ref u :: st) cu σ Q) := by
  rw [x195_14]
  rfl
theorem v195_15 {z : P0} {st : List Value} {cu : Nat × Nat} {Q : Res → Mem → Prop} {σ : Mem} {x0 x1 x2 x3 x4 x5 : Option Value} : X z 195 15 [x0, x1, x2, x3, x4, x5] (st) cu σ Q = (X z 195 16 [x0, x1, x2, x3, x4, x5] (.int (nI 0) :: st) cu σ Q) := by
  rw [x195_15]
  rfl
theorem v195_16 {z : P0} {st : List Value} {cu : Nat × Nat} {Q : Res → Mem → Prop} {σ : Mem} {x0 x2 x3 x4 x5 : Option Value} {u : Int32} : X z 195 16 [x0, some (.int u), x2, x3, x4, x5] (st) cu σ Q = (X z 195 17 [x0, some (.int u), x2, x3, x4, x5] (.int u :: st) cu σ Q) := by
  rw [x195_16]
  rfl
theorem v195_17 {z : P0} {st : List Value} {cu : Nat × Nat} {Q : Res → Mem → Prop} {σ : Mem} {x0 x1 x3 x4 x5 : Option Value} {u : Int32} : X z 195 17 [x0, x1, some (.int u), x3, x4, x5] (st) cu σ Q = (X z 195 18 [x0, x1, some (.int u), x3, x4, x5] (.int u :: st) cu σ Q) := by
  rw [x195_17]
  rfl
theorem v195_18 {z : P0} {st : List Value} {cu : Nat × Nat} {Q : Res → Mem → Prop} {σ : Mem} {x0 x1 x2 x3 x4 : Option Value} {u : Int32} : X z 195 18 [x0, x1, x2, x3, x4, some (.int u)] (st) cu σ Q = (X z 195 20 [x0, x1, x2, x3, x4, some (.int u)] (.int u :: st) cu σ Q) := by
  rw [x195_18]
  rfl
theorem u195_20 {z : P0} {ls : Lcs} {st : List Value} {c n : Nat} {K : Nat → Nat × Nat} {I : Nat → Nat → Int32} {R : Nat → Nat → Option Nat} {L : Nat → Nat → Int64} {sz : Nat} {ex : Bool} {Q : Res → Mem → Prop} {a0 : Int32} {a1 : Int32} {a2 : Int32} {a3 : Int32} : X z 195 20 ls (.int a3 :: .int a2 :: .int a1 :: .int a0 :: st) (c, n) (K, I, R, L, sz, ex) Q = (wsum st ≤ 8 ∧ c + 0 ≤ 20 ∧ n + 0 ≤ 120 ∧ X z 194 0 [some (.int a0), some (.int a1), some (.int a2), some (.int a3)] [] (0, 0) (K, I, R, L, sz, ex) (aftr (X z) mT 195 20 ls st (c + 0, n + 0) Q)) := v195_20
theorem u195_23 {z : P0} {ls : Lcs} {st : List Value} {c n : Nat} {K : Nat → Nat × Nat} {I : Nat → Nat → Int32} {R : Nat → Nat → Option Nat} {L : Nat → Nat → Int64} {sz : Nat} {ex : Bool} {Q : Res → Mem → Prop} {x : Nat} {a0 : Int32} : X z 195 23 ls (.int a0 :: .ref x :: st) (c, n) (K, I, R, L, sz, ex) Q = ((K x).1 = 110 ∧ wsum st ≤ 8 ∧ c + 1 ≤ 20 ∧ n + 6 ≤ 120 ∧ X z 67 0 [some (.ref x), some (.int a0)] [] (0, 0) (K, I, R, L, sz, ex) (aftr (X z) mT 195 23 ls st (c + 1, n + 6) Q)) := v195_23
theorem v195_26 {z : P0} {st : List Value} {cu : Nat × Nat} {Q : Res → Mem → Prop} {σ : Mem} {x0 x1 x2 x3 x4 : Option Value} {u : Int32} : X z 195 26 [x0, x1, x2, x3, x4, some (.int u)] (st) cu σ Q = (X z 195 28 [x0, x1, x2, x3, x4, some (.int u)] (.int u :: st) cu σ Q) := by
  rw [x195_26]
  rfl
theorem v195_28 {z : P0} {st : List Value} {cu : Nat × Nat} {Q : Res → Mem → Prop} {σ : Mem} {x0 x1 x2 x3 x4 x5 : Option Value} : X z 195 28 [x0, x1, x2, x3, x4, x5] (st) cu σ Q = (X z 195 29 [x0, x1, x2, x3, x4, x5] (.int (nI 1) :: st) cu σ Q) := by
  rw [x195_28]
  rfl
theorem v195_29 {z : P0} {st : List Value} {cu : Nat × Nat} {Q : Res → Mem → Prop} {σ : Mem} {x0 x1 x2 x3 x4 x5 : Option Value} {u v : Int32} : X z 195 29 [x0, x1, x2, x3, x4, x5] (.int v :: .int u :: st) cu σ Q = (X z 195 30 [x0, x1, x2, x3, x4, x5] (.int (u + v) :: st) cu σ Q) := by
  rw [x195_29]
  rfl
theorem v195_30 {z : P0} {st : List Value} {cu : Nat × Nat} {Q : Res → Mem → Prop} {σ : Mem} {x0 x1 x2 x3 x4 x5 : Option Value} {u v : Int32} : X z 195 30 [x0, x1, x2, x3, x4, x5] (.int v :: .int u :: st) cu σ Q = (if u = v then X z 195 33 [x0, x1, x2, x3, x4, x5] (st) cu σ Q else X z 195 45 [x0, x1, x2, x3, x4, x5] (st) cu σ Q) := by
  rw [x195_30]
  obtain ⟨K, I, R, L, sz, ex⟩ := σ
  exact br_ne
theorem v195_33 {z : P0} {st : List Value} {cu : Nat × Nat} {Q : Res → Mem → Prop} {σ : Mem} {x1 x2 x3 x4 x5 : Option Value} {u : Nat} : X z 195 33 [some (.ref u), x1, x2, x3, x4, x5] (st) cu σ Q = (X z 195 34 [some (.ref u), x1, x2, x3, x4, x5] (.ref u :: st) cu σ Q) := by
  rw [x195_33]
  rfl
theorem v195_34 {z : P0} {st : List Value} {cu : Nat × Nat} {Q : Res → Mem → Prop} {σ : Mem} {x0 x1 x2 x3 x4 x5 : Option Value} : X z 195 34 [x0, x1, x2, x3, x4, x5] (st) cu σ Q = (X z 195 35 [x0, x1, x2, x3, x4, x5] (.int (nI 0) :: st) cu σ Q) := by
  rw [x195_34]
  rfl
theorem u195_35 {z : P0} {ls : Lcs} {st : List Value} {c n : Nat} {K : Nat → Nat × Nat} {I : Nat → Nat → Int32} {R : Nat → Nat → Option Nat} {L : Nat → Nat → Int64} {sz : Nat} {ex : Bool} {Q : Res → Mem → Prop} {x : Nat} {a0 : Int32} : X z 195 35 ls (.int a0 :: .ref x :: st) (c, n) (K, I, R, L, sz, ex) Q = ((K x).1 = 110 ∧ wsum st ≤ 8 ∧ c + 1 ≤ 20 ∧ n + 6 ≤ 120 ∧ X z 69 0 [some (.ref x), some (.int a0)] [] (0, 0) (K, I, R, L, sz, ex) (aftr (X z) mT 195 35 ls st (c + 1, n + 6) Q)) := v195_35
theorem v195_38 {z : P0} {st : List Value} {cu : Nat × Nat} {Q : Res → Mem → Prop} {σ : Mem} {x0 x1 x2 x3 x4 : Option Value} {u : Int32} : X z 195 38 [x0, x1, x2, x3, x4, some (.int u)] (st) cu σ Q = (X z 195 40 [x0, x1, x2, x3, x4, some (.int u)] (.int u :: st) cu σ Q) := by
  rw [x195_38]
  rfl
theorem v195_40 {z : P0} {st : List Value} {cu : Nat × Nat} {Q : Res → Mem → Prop} {σ : Mem} {x0 x1 x2 x3 x4 x5 : Option Value} : X z 195 40 [x0, x1, x2, x3, x4, x5] (st) cu σ Q = (X z 195 41 [x0, x1, x2, x3, x4, x5] (.int (nI 1) :: st) cu σ Q) := by
  rw [x195_40]
  rfl
theorem v195_41 {z : P0} {st : List Value} {cu : Nat × Nat} {Q : Res → Mem → Prop} {σ : Mem} {x0 x1 x2 x3 x4 x5 : Option Value} {u v : Int32} : X z 195 41 [x0, x1, x2, x3, x4, x5] (.int v :: .int u :: st) cu σ Q = (X z 195 42 [x0, x1, x2, x3, x4, x5] (.int (u + v) :: st) cu σ Q) := by
  rw [x195_41]
  rfl
theorem v195_42 {z : P0} {st : List Value} {cu : Nat × Nat} {Q : Res → Mem → Prop} {σ : Mem} {x0 x1 x2 x3 x4 x5 : Option Value} {u v : Int32} : X z 195 42 [x0, x1, x2, x3, x4, x5] (.int v :: .int u :: st) cu σ Q = (if u = v then X z 195 47 [x0, x1, x2, x3, x4, x5] (st) cu σ Q else X z 195 45 [x0, x1, x2, x3, x4, x5] (st) cu σ Q) := by
  rw [x195_42]
  obtain ⟨K, I, R, L, sz, ex⟩ := σ
  exact br_ite
theorem v195_45 {z : P0} {st : List Value} {cu : Nat × Nat} {Q : Res → Mem → Prop} {σ : Mem} {x0 x1 x2 x3 x4 x5 : Option Value} : X z 195 45 [x0, x1, x2, x3, x4, x5] (st) cu σ Q = (X z 195 46 [x0, x1, x2, x3, x4, x5] (.int (nI 0) :: st) cu σ Q) := by
  rw [x195_45]
  rfl
theorem v195_46 {z : P0} {cu : Nat × Nat} {Q : Res → Mem → Prop} {σ : Mem} {x0 x1 x2 x3 x4 x5 : Option Value} {v : Int32} : X z 195 46 [x0, x1, x2, x3, x4, x5] ([.int v]) cu σ Q = ((v = nI 0 ∨ v = nI 1) ∧ Q (.inl (some (.int v))) σ) := by
  rw [x195_46]
  rw [nI_0, one1]
  rfl
theorem v195_47 {z : P0} {st : List Value} {cu : Nat × Nat} {Q : Res → Mem → Prop} {σ : Mem} {x0 x1 x2 x3 x4 : Option Value} {u : Int32} : X z 195 47 [x0, x1, x2, x3, x4, some (.int u)] (st) cu σ Q = (cat2 x4 = false ∧ X z 195 50 [x0, x1, x2, x3, x4, some (.int (u + nI 1))] (st) cu σ Q) := by
  rw [x195_47]
  obtain ⟨K, I, R, L, sz, ex⟩ := σ
  exact i_iinc.trans (gl_5.trans (ldI_i.trans sl_5))
theorem v195_50 {z : P0} {st : List Value} {cu : Nat × Nat} {Q : Res → Mem → Prop} {σ : Mem} {x0 x1 x2 x3 x4 x5 : Option Value} : X z 195 50 [x0, x1, x2, x3, x4, x5] (st) cu σ Q = (X z 195 8 [x0, x1, x2, x3, x4, x5] (st) cu σ Q) := by
  rw [x195_50]
  rfl
theorem v195_53 {z : P0} {st : List Value} {cu : Nat × Nat} {Q : Res → Mem → Prop} {σ : Mem} {x1 x2 x3 x4 x5 : Option Value} {u : Nat} : X z 195 53 [some (.ref u), x1, x2, x3, x4, x5] (st) cu σ Q = (X z 195 54 [some (.ref u), x1, x2, x3, x4, x5] (.ref u :: st) cu σ Q) := by
  rw [x195_53]
  rfl
theorem v195_54 {z : P0} {st : List Value} {cu : Nat × Nat} {Q : Res → Mem → Prop} {σ : Mem} {x0 x1 x2 x4 x5 : Option Value} {u : Int32} : X z 195 54 [x0, x1, x2, some (.int u), x4, x5] (st) cu σ Q = (X z 195 55 [x0, x1, x2, some (.int u), x4, x5] (.int u :: st) cu σ Q) := by
  rw [x195_54]
  rfl
theorem v195_55 {z : P0} {st : List Value} {cu : Nat × Nat} {Q : Res → Mem → Prop} {σ : Mem} {x0 x1 x2 x3 x5 : Option Value} {u : Int32} : X z 195 55 [x0, x1, x2, x3, some (.int u), x5] (st) cu σ Q = (X z 195 57 [x0, x1, x2, x3, some (.int u), x5] (.int u :: st) cu σ Q) := by
  rw [x195_55]
  rfl
theorem u195_57 {z : P0} {ls : Lcs} {st : List Value} {c n : Nat} {K : Nat → Nat × Nat} {I : Nat → Nat → Int32} {R : Nat → Nat → Option Nat} {L : Nat → Nat → Int64} {sz : Nat} {ex : Bool} {Q : Res → Mem → Prop} {x : Nat} {a0 : Int32} {a1 : Int32} : X z 195 57 ls (.int a1 :: .int a0 :: .ref x :: st) (c, n) (K, I, R, L, sz, ex) Q = ((K x).1 = 110 ∧ wsum st ≤ 8 ∧ c + 1 ≤ 20 ∧ n + 6 ≤ 120 ∧ X z 58 0 [some (.ref x), some (.int a0), some (.int a1), none] [] (0, 0) (K, I, R, L, sz, ex) (aftr (X z) mT 195 57 ls st (c + 1, n + 6) Q)) := v195_57
theorem v195_60 {z : P0} {st : List Value} {cu : Nat × Nat} {Q : Res → Mem → Prop} {σ : Mem} {x0 x2 x3 x4 x5 : Option Value} {u : Int32} : X z 195 60 [x0, some (.int u), x2, x3, x4, x5] (st) cu σ Q = (X z 195 61 [x0, some (.int u), x2, x3, x4, x5] (.int u :: st) cu σ Q) := by
  rw [x195_60]
  rfl
theorem v195_61 {z : P0} {st : List Value} {cu : Nat × Nat} {Q : Res → Mem → Prop} {σ : Mem} {x0 x1 x2 x3 x4 x5 : Option Value} {u v : Int32} : X z 195 61 [x0, x1, x2, x3, x4, x5] (.int v :: .int u :: st) cu σ Q = (if u = v then X z 195 64 [x0, x1, x2, x3, x4, x5] (st) cu σ Q else X z 195 75 [x0, x1, x2, x3, x4, x5] (st) cu σ Q) := by
  rw [x195_61]
  obtain ⟨K, I, R, L, sz, ex⟩ := σ
  exact br_ne
theorem v195_64 {z : P0} {st : List Value} {cu : Nat × Nat} {Q : Res → Mem → Prop} {σ : Mem} {x1 x2 x3 x4 x5 : Option Value} {u : Nat} : X z 195 64 [some (.ref u), x1, x2, x3, x4, x5] (st) cu σ Q = (X z 195 65 [some (.ref u), x1, x2, x3, x4, x5] (.ref u :: st) cu σ Q) := by
  rw [x195_64]
  rfl
theorem u195_65 {z : P0} {ls : Lcs} {st : List Value} {c n : Nat} {K : Nat → Nat × Nat} {I : Nat → Nat → Int32} {R : Nat → Nat → Option Nat} {L : Nat → Nat → Int64} {sz : Nat} {ex : Bool} {Q : Res → Mem → Prop} {x : Nat} : X z 195 65 ls (.ref x :: st) (c, n) (K, I, R, L, sz, ex) Q = ((K x).1 = 110 ∧ wsum st ≤ 8 ∧ c + 0 ≤ 20 ∧ n + 0 ≤ 120 ∧ X z 68 0 [some (.ref x), none] [] (0, 0) (K, I, R, L, sz, ex) (aftr (X z) mT 195 65 ls st (c + 0, n + 0) Q)) := v195_65
theorem v195_68 {z : P0} {st : List Value} {cu : Nat × Nat} {Q : Res → Mem → Prop} {σ : Mem} {x0 x1 x2 x3 x4 x5 : Option Value} {u : Int32} : X z 195 68 [x0, x1, x2, x3, x4, x5] (.int u :: st) cu σ Q = (if u = nI 0 then X z 195 71 [x0, x1, x2, x3, x4, x5] (st) cu σ Q else X z 195 75 [x0, x1, x2, x3, x4, x5] (st) cu σ Q) := by
  rw [x195_68]
  rw [nI_0]
  obtain ⟨K, I, R, L, sz, ex⟩ := σ
  exact br_ne
theorem v195_71 {z : P0} {st : List Value} {cu : Nat × Nat} {Q : Res → Mem → Prop} {σ : Mem} {x0 x1 x2 x3 x4 x5 : Option Value} : X z 195 71 [x0, x1, x2, x3, x4, x5] (st) cu σ Q = (X z 195 72 [x0, x1, x2, x3, x4, x5] (.int (nI 1) :: st) cu σ Q) := by
  rw [x195_71]
  rfl
theorem v195_72 {z : P0} {st : List Value} {cu : Nat × Nat} {Q : Res → Mem → Prop} {σ : Mem} {x0 x1 x2 x3 x4 x5 : Option Value} : X z 195 72 [x0, x1, x2, x3, x4, x5] (st) cu σ Q = (X z 195 76 [x0, x1, x2, x3, x4, x5] (st) cu σ Q) := by
  rw [x195_72]
  rfl
theorem v195_75 {z : P0} {st : List Value} {cu : Nat × Nat} {Q : Res → Mem → Prop} {σ : Mem} {x0 x1 x2 x3 x4 x5 : Option Value} : X z 195 75 [x0, x1, x2, x3, x4, x5] (st) cu σ Q = (X z 195 76 [x0, x1, x2, x3, x4, x5] (.int (nI 0) :: st) cu σ Q) := by
  rw [x195_75]
  rfl
theorem v195_76 {z : P0} {cu : Nat × Nat} {Q : Res → Mem → Prop} {σ : Mem} {x0 x1 x2 x3 x4 x5 : Option Value} {v : Int32} : X z 195 76 [x0, x1, x2, x3, x4, x5] ([.int v]) cu σ Q = ((v = nI 0 ∨ v = nI 1) ∧ Q (.inl (some (.int v))) σ) := by
  rw [x195_76]
  rw [nI_0, one1]
  rfl
theorem v196_0 {z : P0} {st : List Value} {cu : Nat × Nat} {Q : Res → Mem → Prop} {σ : Mem} {x1 x2 x3 x4 : Option Value} {u : Nat} : X z 196 0 [some (.ref u), x1, x2, x3, x4] (st) cu σ Q = (X z 196 1 [some (.ref u), x1, x2, x3, x4] (.ref u :: st) cu σ Q) := by
  rw [x196_0]
  rfl
theorem u196_1 {z : P0} {ls : Lcs} {st : List Value} {c n : Nat} {K : Nat → Nat × Nat} {I : Nat → Nat → Int32} {R : Nat → Nat → Option Nat} {L : Nat → Nat → Int64} {sz : Nat} {ex : Bool} {Q : Res → Mem → Prop} {x : Nat} : X z 196 1 ls (.ref x :: st) (c, n) (K, I, R, L, sz, ex) Q = ((K x).1 = 110 ∧ wsum st ≤ 8 ∧ c + 0 ≤ 20 ∧ n + 0 ≤ 120 ∧ X z 68 0 [some (.ref x), none] [] (0, 0) (K, I, R, L, sz, ex) (aftr (X z) mT 196 1 ls st (c + 0, n + 0) Q)) := v196_1
theorem v196_4 {z : P0} {st : List Value} {cu : Nat × Nat} {Q : Res → Mem → Prop} {σ : Mem} {x0 x1 x2 x3 x4 : Option Value} {u : Int32} : X z 196 4 [x0, x1, x2, x3, x4] (.int u :: st) cu σ Q = (X z 196 5 [x0, x1, x2, x3, x4] (st) cu σ Q) := by
  rw [x196_4]
  exact propext ⟨fun h => h.2, fun h => ⟨rfl, h⟩⟩
theorem v196_5 {z : P0} {st : List Value} {cu : Nat × Nat} {Q : Res → Mem → Prop} {σ : Mem} {x0 x1 x2 x3 x4 : Option Value} : X z 196 5 [x0, x1, x2, x3, x4] (st) cu σ Q = (X z 196 6 [x0, x1, x2, x3, x4] (.int (nI 0) :: st) cu σ Q) := by
  rw [x196_5]
  rfl
theorem v196_6 {z : P0} {st : List Value} {cu : Nat × Nat} {Q : Res → Mem → Prop} {σ : Mem} {x0 x1 x2 x3 x4 : Option Value} {u : Int32} : X z 196 6 [x0, x1, x2, x3, x4] (.int u :: st) cu σ Q = (cat2 x3 = false ∧ X z 196 8 [x0, x1, x2, x3, some (.int u)] (st) cu σ Q) := by
  rw [x196_6]
  obtain ⟨K, I, R, L, sz, ex⟩ := σ
  exact i_istore.trans sl_4
theorem v196_8 {z : P0} {st : List Value} {cu : Nat × Nat} {Q : Res → Mem → Prop} {σ : Mem} {x0 x1 x2 x3 : Option Value} {u : Int32} : X z 196 8 [x0, x1, x2, x3, some (.int u)] (st) cu σ Q = (X z 196 10 [x0, x1, x2, x3, some (.int u)] (.int u :: st) cu σ Q) := by
  rw [x196_8]
  rfl
theorem v196_10 {z : P0} {st : List Value} {cu : Nat × Nat} {Q : Res → Mem → Prop} {σ : Mem} {x0 x1 x3 x4 : Option Value} {u : Int32} : X z 196 10 [x0, x1, some (.int u), x3, x4] (st) cu σ Q = (X z 196 11 [x0, x1, some (.int u), x3, x4] (.int u :: st) cu σ Q) := by
  rw [x196_10]
  rfl
theorem v196_11 {z : P0} {st : List Value} {cu : Nat × Nat} {Q : Res → Mem → Prop} {σ : Mem} {x0 x1 x2 x3 x4 : Option Value} {u v : Int32} : X z 196 11 [x0, x1, x2, x3, x4] (.int v :: .int u :: st) cu σ Q = (if u < v then X z 196 14 [x0, x1, x2, x3, x4] (st) cu σ Q else X z 196 33 [x0, x1, x2, x3, x4] (st) cu σ Q) := by
  rw [x196_11]
  obtain ⟨K, I, R, L, sz, ex⟩ := σ
  exact br_ge
theorem v196_14 {z : P0} {st : List Value} {cu : Nat × Nat} {Q : Res → Mem → Prop} {σ : Mem} {x1 x2 x3 x4 : Option Value} {u : Nat} : X z 196 14 [some (.ref u), x1, x2, x3, x4] (st) cu σ Q = (X z 196 15 [some (.ref u), x1, x2, x3, x4] (.ref u :: st) cu σ Q) := by
  rw [x196_14]
  rfl
theorem v196_15 {z : P0} {st : List Value} {cu : Nat × Nat} {Q : Res → Mem → Prop} {σ : Mem} {x0 x1 x2 x3 x4 : Option Value} : X z 196 15 [x0, x1, x2, x3, x4] (st) cu σ Q = (X z 196 16 [x0, x1, x2, x3, x4] (.int (nI 1) :: st) cu σ Q) := by
  rw [x196_15]
  rfl
theorem v196_16 {z : P0} {st : List Value} {cu : Nat × Nat} {Q : Res → Mem → Prop} {σ : Mem} {x0 x2 x3 x4 : Option Value} {u : Int32} : X z 196 16 [x0, some (.int u), x2, x3, x4] (st) cu σ Q = (X z 196 17 [x0, some (.int u), x2, x3, x4] (.int u :: st) cu σ Q) := by
  rw [x196_16]
  rfl
theorem v196_17 {z : P0} {st : List Value} {cu : Nat × Nat} {Q : Res → Mem → Prop} {σ : Mem} {x0 x1 x3 x4 : Option Value} {u : Int32} : X z 196 17 [x0, x1, some (.int u), x3, x4] (st) cu σ Q = (X z 196 18 [x0, x1, some (.int u), x3, x4] (.int u :: st) cu σ Q) := by
  rw [x196_17]
  rfl
theorem v196_18 {z : P0} {st : List Value} {cu : Nat × Nat} {Q : Res → Mem → Prop} {σ : Mem} {x0 x1 x2 x3 : Option Value} {u : Int32} : X z 196 18 [x0, x1, x2, x3, some (.int u)] (st) cu σ Q = (X z 196 20 [x0, x1, x2, x3, some (.int u)] (.int u :: st) cu σ Q) := by
  rw [x196_18]
  rfl
theorem u196_20 {z : P0} {ls : Lcs} {st : List Value} {c n : Nat} {K : Nat → Nat × Nat} {I : Nat → Nat → Int32} {R : Nat → Nat → Option Nat} {L : Nat → Nat → Int64} {sz : Nat} {ex : Bool} {Q : Res → Mem → Prop} {a0 : Int32} {a1 : Int32} {a2 : Int32} {a3 : Int32} : X z 196 20 ls (.int a3 :: .int a2 :: .int a1 :: .int a0 :: st) (c, n) (K, I, R, L, sz, ex) Q = (wsum st ≤ 8 ∧ c + 0 ≤ 20 ∧ n + 0 ≤ 120 ∧ X z 194 0 [some (.int a0), some (.int a1), some (.int a2), some (.int a3)] [] (0, 0) (K, I, R, L, sz, ex) (aftr (X z) mT 196 20 ls st (c + 0, n + 0) Q)) := v196_20
theorem u196_23 {z : P0} {ls : Lcs} {st : List Value} {c n : Nat} {K : Nat → Nat × Nat} {I : Nat → Nat → Int32} {R : Nat → Nat → Option Nat} {L : Nat → Nat → Int64} {sz : Nat} {ex : Bool} {Q : Res → Mem → Prop} {x : Nat} {a0 : Int32} : X z 196 23 ls (.int a0 :: .ref x :: st) (c, n) (K, I, R, L, sz, ex) Q = ((K x).1 = 110 ∧ wsum st ≤ 8 ∧ c + 1 ≤ 20 ∧ n + 6 ≤ 120 ∧ X z 67 0 [some (.ref x), some (.int a0)] [] (0, 0) (K, I, R, L, sz, ex) (aftr (X z) mT 196 23 ls st (c + 1, n + 6) Q)) := v196_23
theorem v196_26 {z : P0} {st : List Value} {cu : Nat × Nat} {Q : Res → Mem → Prop} {σ : Mem} {x0 x1 x2 x3 x4 : Option Value} {u : Int32} : X z 196 26 [x0, x1, x2, x3, x4] (.int u :: st) cu σ Q = (X z 196 27 [x0, x1, x2, x3, x4] (st) cu σ Q) := by
  rw [x196_26]
  exact propext ⟨fun h => h.2, fun h => ⟨rfl, h⟩⟩
theorem v196_27 {z : P0} {st : List Value} {cu : Nat × Nat} {Q : Res → Mem → Prop} {σ : Mem} {x0 x1 x2 x3 : Option Value} {u : Int32} : X z 196 27 [x0, x1, x2, x3, some (.int u)] (st) cu σ Q = (cat2 x3 = false ∧ X z 196 30 [x0, x1, x2, x3, some (.int (u + nI 1))] (st) cu σ Q) := by
  rw [x196_27]
  obtain ⟨K, I, R, L, sz, ex⟩ := σ
  exact i_iinc.trans (gl_4.trans (ldI_i.trans sl_4))
theorem v196_30 {z : P0} {st : List Value} {cu : Nat × Nat} {Q : Res → Mem → Prop} {σ : Mem} {x0 x1 x2 x3 x4 : Option Value} : X z 196 30 [x0, x1, x2, x3, x4] (st) cu σ Q = (X z 196 8 [x0, x1, x2, x3, x4] (st) cu σ Q) := by
  rw [x196_30]
  rfl
theorem v196_33 {z : P0} {st : List Value} {cu : Nat × Nat} {Q : Res → Mem → Prop} {σ : Mem} {x0 x1 x2 x4 : Option Value} {u : Int32} : X z 196 33 [x0, x1, x2, some (.int u), x4] (st) cu σ Q = (X z 196 34 [x0, x1, x2, some (.int u), x4] (.int u :: st) cu σ Q) := by
  rw [x196_33]
  rfl
theorem v196_34 {z : P0} {st : List Value} {cu : Nat × Nat} {Q : Res → Mem → Prop} {σ : Mem} {x0 x1 x2 x3 x4 : Option Value} {u : Int32} : X z 196 34 [x0, x1, x2, x3, x4] (.int u :: st) cu σ Q = (if u = nI 0 then X z 196 44 [x0, x1, x2, x3, x4] (st) cu σ Q else X z 196 37 [x0, x1, x2, x3, x4] (st) cu σ Q) := by
  rw [x196_34]
  rw [nI_0]
  obtain ⟨K, I, R, L, sz, ex⟩ := σ
  exact br_ite
theorem v196_37 {z : P0} {st : List Value} {cu : Nat × Nat} {Q : Res → Mem → Prop} {σ : Mem} {x1 x2 x3 x4 : Option Value} {u : Nat} : X z 196 37 [some (.ref u), x1, x2, x3, x4] (st) cu σ Q = (X z 196 38 [some (.ref u), x1, x2, x3, x4] (.ref u :: st) cu σ Q) := by
  rw [x196_37]
  rfl
theorem v196_38 {z : P0} {st : List Value} {cu : Nat × Nat} {Q : Res → Mem → Prop} {σ : Mem} {x0 x1 x2 x3 x4 : Option Value} : X z 196 38 [x0, x1, x2, x3, x4] (st) cu σ Q = (X z 196 40 [x0, x1, x2, x3, x4] (.int (nI 42) :: st) cu σ Q) := by
  rw [x196_38]
  rfl
theorem u196_40 {z : P0} {ls : Lcs} {st : List Value} {c n : Nat} {K : Nat → Nat × Nat} {I : Nat → Nat → Int32} {R : Nat → Nat → Option Nat} {L : Nat → Nat → Int64} {sz : Nat} {ex : Bool} {Q : Res → Mem → Prop} {x : Nat} {a0 : Int32} : X z 196 40 ls (.int a0 :: .ref x :: st) (c, n) (K, I, R, L, sz, ex) Q = ((K x).1 = 110 ∧ wsum st ≤ 8 ∧ c + 1 ≤ 20 ∧ n + 6 ≤ 120 ∧ X z 67 0 [some (.ref x), some (.int a0)] [] (0, 0) (K, I, R, L, sz, ex) (aftr (X z) mT 196 40 ls st (c + 1, n + 6) Q)) := v196_40
theorem v196_43 {z : P0} {st : List Value} {cu : Nat × Nat} {Q : Res → Mem → Prop} {σ : Mem} {x0 x1 x2 x3 x4 : Option Value} {u : Int32} : X z 196 43 [x0, x1, x2, x3, x4] (.int u :: st) cu σ Q = (X z 196 44 [x0, x1, x2, x3, x4] (st) cu σ Q) := by
  rw [x196_43]
  exact propext ⟨fun h => h.2, fun h => ⟨rfl, h⟩⟩
theorem v196_44 {z : P0} {st : List Value} {cu : Nat × Nat} {Q : Res → Mem → Prop} {σ : Mem} {x1 x2 x3 x4 : Option Value} {u : Nat} : X z 196 44 [some (.ref u), x1, x2, x3, x4] (st) cu σ Q = (X z 196 45 [some (.ref u), x1, x2, x3, x4] (.ref u :: st) cu σ Q) := by
  rw [x196_44]
  rfl
theorem v196_45 {z : P0} {st : List Value} {cu : Nat × Nat} {Q : Res → Mem → Prop} {σ : Mem} {x0 x1 x2 x3 x4 : Option Value} : X z 196 45 [x0, x1, x2, x3, x4] (st) cu σ Q = (X z 196 46 [x0, x1, x2, x3, x4] (.int (nI 1) :: st) cu σ Q) := by
  rw [x196_45]
  rfl
theorem u196_46 {z : P0} {ls : Lcs} {st : List Value} {c n : Nat} {K : Nat → Nat × Nat} {I : Nat → Nat → Int32} {R : Nat → Nat → Option Nat} {L : Nat → Nat → Int64} {sz : Nat} {ex : Bool} {Q : Res → Mem → Prop} {x : Nat} {a0 : Int32} : X z 196 46 ls (.int a0 :: .ref x :: st) (c, n) (K, I, R, L, sz, ex) Q = ((K x).1 = 110 ∧ wsum st ≤ 8 ∧ c + 1 ≤ 20 ∧ n + 6 ≤ 120 ∧ X z 69 0 [some (.ref x), some (.int a0)] [] (0, 0) (K, I, R, L, sz, ex) (aftr (X z) mT 196 46 ls st (c + 1, n + 6) Q)) := v196_46
theorem v196_49 {z : P0} {st : List Value} {cu : Nat × Nat} {Q : Res → Mem → Prop} {σ : Mem} {x0 x1 x3 x4 : Option Value} {u : Int32} : X z 196 49 [x0, x1, some (.int u), x3, x4] (st) cu σ Q = (X z 196 50 [x0, x1, some (.int u), x3, x4] (.int u :: st) cu σ Q) := by
  rw [x196_49]
  rfl
theorem v196_50 {z : P0} {st : List Value} {cu : Nat × Nat} {Q : Res → Mem → Prop} {σ : Mem} {x0 x1 x2 x4 : Option Value} {u : Int32} : X z 196 50 [x0, x1, x2, some (.int u), x4] (st) cu σ Q = (X z 196 51 [x0, x1, x2, some (.int u), x4] (.int u :: st) cu σ Q) := by
  rw [x196_50]
  rfl
theorem v196_51 {z : P0} {st : List Value} {cu : Nat × Nat} {Q : Res → Mem → Prop} {σ : Mem} {x0 x1 x2 x3 x4 : Option Value} {u : Int32} : X z 196 51 [x0, x1, x2, x3, x4] (.int u :: st) cu σ Q = (if u = nI 0 then X z 196 58 [x0, x1, x2, x3, x4] (st) cu σ Q else X z 196 54 [x0, x1, x2, x3, x4] (st) cu σ Q) := by
  rw [x196_51]
  rw [nI_0]
  obtain ⟨K, I, R, L, sz, ex⟩ := σ
  exact br_ite
theorem v196_54 {z : P0} {st : List Value} {cu : Nat × Nat} {Q : Res → Mem → Prop} {σ : Mem} {x0 x1 x2 x3 x4 : Option Value} : X z 196 54 [x0, x1, x2, x3, x4] (st) cu σ Q = (X z 196 55 [x0, x1, x2, x3, x4] (.int (nI 1) :: st) cu σ Q) := by
  rw [x196_54]
  rfl
theorem v196_55 {z : P0} {st : List Value} {cu : Nat × Nat} {Q : Res → Mem → Prop} {σ : Mem} {x0 x1 x2 x3 x4 : Option Value} : X z 196 55 [x0, x1, x2, x3, x4] (st) cu σ Q = (X z 196 59 [x0, x1, x2, x3, x4] (st) cu σ Q) := by
  rw [x196_55]
  rfl
theorem v196_58 {z : P0} {st : List Value} {cu : Nat × Nat} {Q : Res → Mem → Prop} {σ : Mem} {x0 x1 x2 x3 x4 : Option Value} : X z 196 58 [x0, x1, x2, x3, x4] (st) cu σ Q = (X z 196 59 [x0, x1, x2, x3, x4] (.int (nI 0) :: st) cu σ Q) := by
  rw [x196_58]
  rfl
theorem v196_59 {z : P0} {st : List Value} {cu : Nat × Nat} {Q : Res → Mem → Prop} {σ : Mem} {x0 x1 x2 x3 x4 : Option Value} {u v : Int32} : X z 196 59 [x0, x1, x2, x3, x4] (.int v :: .int u :: st) cu σ Q = (X z 196 60 [x0, x1, x2, x3, x4] (.int (u + v) :: st) cu σ Q) := by
  rw [x196_59]
  rfl
theorem v196_60 {z : P0} {st : List Value} {cu : Nat × Nat} {Q : Res → Mem → Prop} {σ : Mem} {x0 x1 x2 x3 x4 : Option Value} {u v : Int32} : X z 196 60 [x0, x1, x2, x3, x4] (.int v :: .int u :: st) cu σ Q = (if u = v then X z 196 63 [x0, x1, x2, x3, x4] (st) cu σ Q else X z 196 82 [x0, x1, x2, x3, x4] (st) cu σ Q) := by
  rw [x196_60]
  obtain ⟨K, I, R, L, sz, ex⟩ := σ
  exact br_ne
theorem v196_63 {z : P0} {st : List Value} {cu : Nat × Nat} {Q : Res → Mem → Prop} {σ : Mem} {x1 x2 x3 x4 : Option Value} {u : Nat} : X z 196 63 [some (.ref u), x1, x2, x3, x4] (st) cu σ Q = (X z 196 64 [some (.ref u), x1, x2, x3, x4] (.ref u :: st) cu σ Q) := by
  rw [x196_63]
  rfl
theorem u196_64 {z : P0} {ls : Lcs} {st : List Value} {c n : Nat} {K : Nat → Nat × Nat} {I : Nat → Nat → Int32} {R : Nat → Nat → Option Nat} {L : Nat → Nat → Int64} {sz : Nat} {ex : Bool} {Q : Res → Mem → Prop} {x : Nat} : X z 196 64 ls (.ref x :: st) (c, n) (K, I, R, L, sz, ex) Q = ((K x).1 = 110 ∧ wsum st ≤ 8 ∧ c + 1 ≤ 20 ∧ n + 6 ≤ 120 ∧ X z 59 0 [some (.ref x), none] [] (0, 0) (K, I, R, L, sz, ex) (aftr (X z) mT 196 64 ls st (c + 1, n + 6) Q)) := v196_64
theorem v196_67 {z : P0} {st : List Value} {cu : Nat × Nat} {Q : Res → Mem → Prop} {σ : Mem} {x0 x2 x3 x4 : Option Value} {u : Int32} : X z 196 67 [x0, some (.int u), x2, x3, x4] (st) cu σ Q = (X z 196 68 [x0, some (.int u), x2, x3, x4] (.int u :: st) cu σ Q) := by
  rw [x196_67]
  rfl
theorem v196_68 {z : P0} {st : List Value} {cu : Nat × Nat} {Q : Res → Mem → Prop} {σ : Mem} {x0 x1 x2 x3 x4 : Option Value} {u v : Int32} : X z 196 68 [x0, x1, x2, x3, x4] (.int v :: .int u :: st) cu σ Q = (if u = v then X z 196 71 [x0, x1, x2, x3, x4] (st) cu σ Q else X z 196 82 [x0, x1, x2, x3, x4] (st) cu σ Q) := by
  rw [x196_68]
  obtain ⟨K, I, R, L, sz, ex⟩ := σ
  exact br_ne
theorem v196_71 {z : P0} {st : List Value} {cu : Nat × Nat} {Q : Res → Mem → Prop} {σ : Mem} {x1 x2 x3 x4 : Option Value} {u : Nat} : X z 196 71 [some (.ref u), x1, x2, x3, x4] (st) cu σ Q = (X z 196 72 [some (.ref u), x1, x2, x3, x4] (.ref u :: st) cu σ Q) := by
  rw [x196_71]
  rfl
theorem u196_72 {z : P0} {ls : Lcs} {st : List Value} {c n : Nat} {K : Nat → Nat × Nat} {I : Nat → Nat → Int32} {R : Nat → Nat → Option Nat} {L : Nat → Nat → Int64} {sz : Nat} {ex : Bool} {Q : Res → Mem → Prop} {x : Nat} : X z 196 72 ls (.ref x :: st) (c, n) (K, I, R, L, sz, ex) Q = ((K x).1 = 110 ∧ wsum st ≤ 8 ∧ c + 0 ≤ 20 ∧ n + 0 ≤ 120 ∧ X z 68 0 [some (.ref x), none] [] (0, 0) (K, I, R, L, sz, ex) (aftr (X z) mT 196 72 ls st (c + 0, n + 0) Q)) := v196_72
theorem v196_75 {z : P0} {st : List Value} {cu : Nat × Nat} {Q : Res → Mem → Prop} {σ : Mem} {x0 x1 x2 x3 x4 : Option Value} {u : Int32} : X z 196 75 [x0, x1, x2, x3, x4] (.int u :: st) cu σ Q = (if u = nI 0 then X z 196 78 [x0, x1, x2, x3, x4] (st) cu σ Q else X z 196 82 [x0, x1, x2, x3, x4] (st) cu σ Q) := by
  rw [x196_75]
  rw [nI_0]
  obtain ⟨K, I, R, L, sz, ex⟩ := σ
  exact br_ne
theorem v196_78 {z : P0} {st : List Value} {cu : Nat × Nat} {Q : Res → Mem → Prop} {σ : Mem} {x0 x1 x2 x3 x4 : Option Value} : X z 196 78 [x0, x1, x2, x3, x4] (st) cu σ Q = (X z 196 79 [x0, x1, x2, x3, x4] (.int (nI 1) :: st) cu σ Q) := by
  rw [x196_78]
  rfl
theorem v196_79 {z : P0} {st : List Value} {cu : Nat × Nat} {Q : Res → Mem → Prop} {σ : Mem} {x0 x1 x2 x3 x4 : Option Value} : X z 196 79 [x0, x1, x2, x3, x4] (st) cu σ Q = (X z 196 83 [x0, x1, x2, x3, x4] (st) cu σ Q) := by
  rw [x196_79]
  rfl
theorem v196_82 {z : P0} {st : List Value} {cu : Nat × Nat} {Q : Res → Mem → Prop} {σ : Mem} {x0 x1 x2 x3 x4 : Option Value} : X z 196 82 [x0, x1, x2, x3, x4] (st) cu σ Q = (X z 196 83 [x0, x1, x2, x3, x4] (.int (nI 0) :: st) cu σ Q) := by
  rw [x196_82]
  rfl
theorem v196_83 {z : P0} {cu : Nat × Nat} {Q : Res → Mem → Prop} {σ : Mem} {x0 x1 x2 x3 x4 : Option Value} {v : Int32} : X z 196 83 [x0, x1, x2, x3, x4] ([.int v]) cu σ Q = ((v = nI 0 ∨ v = nI 1) ∧ Q (.inl (some (.int v))) σ) := by
  rw [x196_83]
  rw [nI_0, one1]
  rfl
theorem v197_0 {z : P0} {st : List Value} {cu : Nat × Nat} {Q : Res → Mem → Prop} {σ : Mem} {x1 x2 x3 x4 x5 x6 x7 x8 x9 x10 : Option Value} {u : Nat} : X z 197 0 [some (.ref u), x1, x2, x3, x4, x5, x6, x7, x8, x9, x10] (st) cu σ Q = (X z 197 1 [some (.ref u), x1, x2, x3, x4, x5, x6, x7, x8, x9, x10] (.ref u :: st) cu σ Q) := by
  rw [x197_0]
  rfl
theorem u197_1 {z : P0} {ls : Lcs} {st : List Value} {c n : Nat} {K : Nat → Nat × Nat} {I : Nat → Nat → Int32} {R : Nat → Nat → Option Nat} {L : Nat → Nat → Int64} {sz : Nat} {ex : Bool} {Q : Res → Mem → Prop} {x : Nat} : X z 197 1 ls (.ref x :: st) (c, n) (K, I, R, L, sz, ex) Q = ((K x).1 = 110 ∧ wsum st ≤ 8 ∧ c + 0 ≤ 60 ∧ n + 0 ≤ 360 ∧ X z 68 0 [some (.ref x), none] [] (0, 0) (K, I, R, L, sz, ex) (aftr (X z) mT 197 1 ls st (c + 0, n + 0) Q)) := v197_1
theorem v197_4 {z : P0} {st : List Value} {cu : Nat × Nat} {Q : Res → Mem → Prop} {σ : Mem} {x0 x1 x2 x3 x4 x5 x6 x7 x8 x9 x10 : Option Value} {u : Int32} : X z 197 4 [x0, x1, x2, x3, x4, x5, x6, x7, x8, x9, x10] (.int u :: st) cu σ Q = (X z 197 5 [x0, x1, x2, x3, x4, x5, x6, x7, x8, x9, x10] (st) cu σ Q) := by
  rw [x197_4]
  exact propext ⟨fun h => h.2, fun h => ⟨rfl, h⟩⟩
theorem v197_5 {z : P0} {st : List Value} {cu : Nat × Nat} {Q : Res → Mem → Prop} {σ : Mem} {x0 x1 x2 x3 x4 x5 x6 x7 x8 x9 x10 : Option Value} : X z 197 5 [x0, x1, x2, x3, x4, x5, x6, x7, x8, x9, x10] (st) cu σ Q = (X z 197 6 [x0, x1, x2, x3, x4, x5, x6, x7, x8, x9, x10] (.int (nI 0) :: st) cu σ Q) := by
  rw [x197_5]
  rfl
theorem v197_6 {z : P0} {st : List Value} {cu : Nat × Nat} {Q : Res → Mem → Prop} {σ : Mem} {x0 x1 x2 x3 x4 x5 x6 x7 x8 x9 x10 : Option Value} {u : Int32} : X z 197 6 [x0, x1, x2, x3, x4, x5, x6, x7, x8, x9, x10] (.int u :: st) cu σ Q = (cat2 x3 = false ∧ X z 197 8 [x0, x1, x2, x3, some (.int u), x5, x6, x7, x8, x9, x10] (st) cu σ Q) := by
  rw [x197_6]
  obtain ⟨K, I, R, L, sz, ex⟩ := σ
  exact i_istore.trans sl_4
theorem v197_8 {z : P0} {st : List Value} {cu : Nat × Nat} {Q : Res → Mem → Prop} {σ : Mem} {x0 x1 x2 x3 x4 x5 x6 x7 x8 x9 x10 : Option Value} : X z 197 8 [x0, x1, x2, x3, x4, x5, x6, x7, x8, x9, x10] (st) cu σ Q = (X z 197 9 [x0, x1, x2, x3, x4, x5, x6, x7, x8, x9, x10] (.int (nI 0) :: st) cu σ Q) := by
  rw [x197_8]
  rfl
theorem v197_9 {z : P0} {st : List Value} {cu : Nat × Nat} {Q : Res → Mem → Prop} {σ : Mem} {x0 x1 x2 x3 x4 x5 x6 x7 x8 x9 x10 : Option Value} {u : Int32} : X z 197 9 [x0, x1, x2, x3, x4, x5, x6, x7, x8, x9, x10] (.int u :: st) cu σ Q = (cat2 x4 = false ∧ X z 197 11 [x0, x1, x2, x3, x4, some (.int u), x6, x7, x8, x9, x10] (st) cu σ Q) := by
  rw [x197_9]
  obtain ⟨K, I, R, L, sz, ex⟩ := σ
  exact i_istore.trans sl_5
theorem v197_11 {z : P0} {st : List Value} {cu : Nat × Nat} {Q : Res → Mem → Prop} {σ : Mem} {x0 x1 x2 x3 x4 x5 x6 x7 x8 x9 x10 : Option Value} : X z 197 11 [x0, x1, x2, x3, x4, x5, x6, x7, x8, x9, x10] (st) cu σ Q = (X z 197 12 [x0, x1, x2, x3, x4, x5, x6, x7, x8, x9, x10] (.int (nI 0) :: st) cu σ Q) := by
  rw [x197_11]
  rfl
theorem v197_12 {z : P0} {st : List Value} {cu : Nat × Nat} {Q : Res → Mem → Prop} {σ : Mem} {x0 x1 x2 x3 x4 x5 x6 x7 x8 x9 x10 : Option Value} {u : Int32} : X z 197 12 [x0, x1, x2, x3, x4, x5, x6, x7, x8, x9, x10] (.int u :: st) cu σ Q = (cat2 x5 = false ∧ X z 197 14 [x0, x1, x2, x3, x4, x5, some (.int u), x7, x8, x9, x10] (st) cu σ Q) := by
  rw [x197_12]
  obtain ⟨K, I, R, L, sz, ex⟩ := σ
  exact i_istore.trans sl_6
theorem v197_14 {z : P0} {st : List Value} {cu : Nat × Nat} {Q : Res → Mem → Prop} {σ : Mem} {x0 x1 x2 x3 x4 x5 x6 x7 x8 x9 x10 : Option Value} : X z 197 14 [x0, x1, x2, x3, x4, x5, x6, x7, x8, x9, x10] (st) cu σ Q = (X z 197 15 [x0, x1, x2, x3, x4, x5, x6, x7, x8, x9, x10] (.int (nI 3) :: st) cu σ Q) := by
  rw [x197_14]
  rfl
theorem v197_15 {z : P0} {st : List Value} {cu : Nat × Nat} {Q : Res → Mem → Prop} {σ : Mem} {x0 x2 x3 x4 x5 x6 x7 x8 x9 x10 : Option Value} {u : Int32} : X z 197 15 [x0, some (.int u), x2, x3, x4, x5, x6, x7, x8, x9, x10] (st) cu σ Q = (X z 197 16 [x0, some (.int u), x2, x3, x4, x5, x6, x7, x8, x9, x10] (.int u :: st) cu σ Q) := by
  rw [x197_15]
  rfl
theorem v197_16 {z : P0} {st : List Value} {cu : Nat × Nat} {Q : Res → Mem → Prop} {σ : Mem} {x0 x1 x2 x3 x4 x5 x6 x7 x8 x9 x10 : Option Value} : X z 197 16 [x0, x1, x2, x3, x4, x5, x6, x7, x8, x9, x10] (st) cu σ Q = (X z 197 18 [x0, x1, x2, x3, x4, x5, x6, x7, x8, x9, x10] (.int (nI 12) :: st) cu σ Q) := by
  rw [x197_16]
  rfl
theorem u197_18 {z : P0} {ls : Lcs} {st : List Value} {c n : Nat} {K : Nat → Nat × Nat} {I : Nat → Nat → Int32} {R : Nat → Nat → Option Nat} {L : Nat → Nat → Int64} {sz : Nat} {ex : Bool} {Q : Res → Mem → Prop} {a0 : Int32} {a1 : Int32} : X z 197 18 ls (.int a1 :: .int a0 :: st) (c, n) (K, I, R, L, sz, ex) Q = (wsum st ≤ 8 ∧ c + 0 ≤ 60 ∧ n + 0 ≤ 360 ∧ X z 193 0 [some (.int a0), some (.int a1)] [] (0, 0) (K, I, R, L, sz, ex) (aftr (X z) mT 197 18 ls st (c + 0, n + 0) Q)) := v197_18
theorem v197_21 {z : P0} {st : List Value} {cu : Nat × Nat} {Q : Res → Mem → Prop} {σ : Mem} {x0 x1 x2 x3 x4 x5 x6 x7 x8 x9 x10 : Option Value} {u v : Int32} : X z 197 21 [x0, x1, x2, x3, x4, x5, x6, x7, x8, x9, x10] (.int v :: .int u :: st) cu σ Q = (X z 197 22 [x0, x1, x2, x3, x4, x5, x6, x7, x8, x9, x10] (.int (u + v) :: st) cu σ Q) := by
  rw [x197_21]
  rfl
theorem v197_22 {z : P0} {st : List Value} {cu : Nat × Nat} {Q : Res → Mem → Prop} {σ : Mem} {x0 x1 x2 x3 x4 x5 x6 x7 x8 x9 x10 : Option Value} {u : Int32} : X z 197 22 [x0, x1, x2, x3, x4, x5, x6, x7, x8, x9, x10] (.int u :: st) cu σ Q = (cat2 x6 = false ∧ X z 197 24 [x0, x1, x2, x3, x4, x5, x6, some (.int u), x8, x9, x10] (st) cu σ Q) := by
  rw [x197_22]
  obtain ⟨K, I, R, L, sz, ex⟩ := σ
  exact i_istore.trans sl_7
theorem v197_24 {z : P0} {st : List Value} {cu : Nat × Nat} {Q : Res → Mem → Prop} {σ : Mem} {x0 x1 x2 x3 x4 x5 x6 x7 x8 x9 x10 : Option Value} : X z 197 24 [x0, x1, x2, x3, x4, x5, x6, x7, x8, x9, x10] (st) cu σ Q = (X z 197 25 [x0, x1, x2, x3, x4, x5, x6, x7, x8, x9, x10] (.int (nI 0) :: st) cu σ Q) := by
  rw [x197_24]
  rfl
theorem v197_25 {z : P0} {st : List Value} {cu : Nat × Nat} {Q : Res → Mem → Prop} {σ : Mem} {x0 x1 x2 x3 x4 x5 x6 x7 x8 x9 x10 : Option Value} {u : Int32} : X z 197 25 [x0, x1, x2, x3, x4, x5, x6, x7, x8, x9, x10] (.int u :: st) cu σ Q = (cat2 x7 = false ∧ X z 197 27 [x0, x1, x2, x3, x4, x5, x6, x7, some (.int u), x9, x10] (st) cu σ Q) := by
  rw [x197_25]
  obtain ⟨K, I, R, L, sz, ex⟩ := σ
  exact i_istore.trans sl_8
theorem v197_27 {z : P0} {st : List Value} {cu : Nat × Nat} {Q : Res → Mem → Prop} {σ : Mem} {x0 x1 x2 x3 x4 x5 x6 x7 x9 x10 : Option Value} {u : Int32} : X z 197 27 [x0, x1, x2, x3, x4, x5, x6, x7, some (.int u), x9, x10] (st) cu σ Q = (X z 197 29 [x0, x1, x2, x3, x4, x5, x6, x7, some (.int u), x9, x10] (.int u :: st) cu σ Q) := by
  rw [x197_27]
  rfl
theorem v197_29 {z : P0} {st : List Value} {cu : Nat × Nat} {Q : Res → Mem → Prop} {σ : Mem} {x0 x1 x2 x3 x4 x5 x6 x8 x9 x10 : Option Value} {u : Int32} : X z 197 29 [x0, x1, x2, x3, x4, x5, x6, some (.int u), x8, x9, x10] (st) cu σ Q = (X z 197 31 [x0, x1, x2, x3, x4, x5, x6, some (.int u), x8, x9, x10] (.int u :: st) cu σ Q) := by
  rw [x197_29]
  rfl
theorem v197_31 {z : P0} {st : List Value} {cu : Nat × Nat} {Q : Res → Mem → Prop} {σ : Mem} {x0 x1 x2 x3 x4 x5 x6 x7 x8 x9 x10 : Option Value} {u v : Int32} : X z 197 31 [x0, x1, x2, x3, x4, x5, x6, x7, x8, x9, x10] (.int v :: .int u :: st) cu σ Q = (if u < v then X z 197 34 [x0, x1, x2, x3, x4, x5, x6, x7, x8, x9, x10] (st) cu σ Q else X z 197 315 [x0, x1, x2, x3, x4, x5, x6, x7, x8, x9, x10] (st) cu σ Q) := by
  rw [x197_31]
  obtain ⟨K, I, R, L, sz, ex⟩ := σ
  exact br_ge
theorem v197_34 {z : P0} {st : List Value} {cu : Nat × Nat} {Q : Res → Mem → Prop} {σ : Mem} {x0 x1 x3 x4 x5 x6 x7 x8 x9 x10 : Option Value} {u : Int32} : X z 197 34 [x0, x1, some (.int u), x3, x4, x5, x6, x7, x8, x9, x10] (st) cu σ Q = (X z 197 35 [x0, x1, some (.int u), x3, x4, x5, x6, x7, x8, x9, x10] (.int u :: st) cu σ Q) := by
  rw [x197_34]
  rfl
theorem v197_35 {z : P0} {st : List Value} {cu : Nat × Nat} {Q : Res → Mem → Prop} {σ : Mem} {x0 x1 x2 x3 x4 x5 x6 x7 x9 x10 : Option Value} {u : Int32} : X z 197 35 [x0, x1, x2, x3, x4, x5, x6, x7, some (.int u), x9, x10] (st) cu σ Q = (X z 197 37 [x0, x1, x2, x3, x4, x5, x6, x7, some (.int u), x9, x10] (.int u :: st) cu σ Q) := by
  rw [x197_35]
  rfl
theorem v197_37 {z : P0} {st : List Value} {cu : Nat × Nat} {Q : Res → Mem → Prop} {σ : Mem} {x0 x1 x2 x3 x4 x5 x6 x7 x8 x9 x10 : Option Value} {u v : Int32} : X z 197 37 [x0, x1, x2, x3, x4, x5, x6, x7, x8, x9, x10] (.int v :: .int u :: st) cu σ Q = (X z 197 38 [x0, x1, x2, x3, x4, x5, x6, x7, x8, x9, x10] (.int (u >>> (v &&& 31)) :: st) cu σ Q) := by
  rw [x197_37]
  rfl
theorem v197_38 {z : P0} {st : List Value} {cu : Nat × Nat} {Q : Res → Mem → Prop} {σ : Mem} {x0 x1 x2 x3 x4 x5 x6 x7 x8 x9 x10 : Option Value} : X z 197 38 [x0, x1, x2, x3, x4, x5, x6, x7, x8, x9, x10] (st) cu σ Q = (X z 197 40 [x0, x1, x2, x3, x4, x5, x6, x7, x8, x9, x10] (.int (nI 16) :: st) cu σ Q) := by
  rw [x197_38]
  rfl
theorem u197_40 {z : P0} {ls : Lcs} {st : List Value} {c n : Nat} {K : Nat → Nat × Nat} {I : Nat → Nat → Int32} {R : Nat → Nat → Option Nat} {L : Nat → Nat → Int64} {sz : Nat} {ex : Bool} {Q : Res → Mem → Prop} {a0 : Int32} {a1 : Int32} : X z 197 40 ls (.int a1 :: .int a0 :: st) (c, n) (K, I, R, L, sz, ex) Q = (wsum st ≤ 8 ∧ c + 0 ≤ 60 ∧ n + 0 ≤ 360 ∧ X z 193 0 [some (.int a0), some (.int a1)] [] (0, 0) (K, I, R, L, sz, ex) (aftr (X z) mT 197 40 ls st (c + 0, n + 0) Q)) := v197_40
theorem v197_43 {z : P0} {st : List Value} {cu : Nat × Nat} {Q : Res → Mem → Prop} {σ : Mem} {x0 x1 x2 x3 x4 x5 x6 x7 x8 x9 x10 : Option Value} {u : Int32} : X z 197 43 [x0, x1, x2, x3, x4, x5, x6, x7, x8, x9, x10] (.int u :: st) cu σ Q = (cat2 x8 = false ∧ X z 197 45 [x0, x1, x2, x3, x4, x5, x6, x7, x8, some (.int u), x10] (st) cu σ Q) := by
  rw [x197_43]
  obtain ⟨K, I, R, L, sz, ex⟩ := σ
  exact i_istore.trans sl_9
theorem v197_45 {z : P0} {st : List Value} {cu : Nat × Nat} {Q : Res → Mem → Prop} {σ : Mem} {x0 x1 x2 x3 x4 x5 x6 x7 x8 x10 : Option Value} {u : Int32} : X z 197 45 [x0, x1, x2, x3, x4, x5, x6, x7, x8, some (.int u), x10] (st) cu σ Q = (X z 197 47 [x0, x1, x2, x3, x4, x5, x6, x7, x8, some (.int u), x10] (.int u :: st) cu σ Q) := by
  rw [x197_45]
  rfl
theorem v197_47 {z : P0} {st : List Value} {cu : Nat × Nat} {Q : Res → Mem → Prop} {σ : Mem} {x0 x1 x2 x3 x4 x5 x6 x7 x8 x9 x10 : Option Value} : X z 197 47 [x0, x1, x2, x3, x4, x5, x6, x7, x8, x9, x10] (st) cu σ Q = (X z 197 48 [x0, x1, x2, x3, x4, x5, x6, x7, x8, x9, x10] (.int (nI 4) :: st) cu σ Q) := by
  rw [x197_47]
  rfl
theorem v197_48 {z : P0} {st : List Value} {cu : Nat × Nat} {Q : Res → Mem → Prop} {σ : Mem} {x0 x1 x2 x3 x4 x5 x6 x7 x8 x9 x10 : Option Value} {u v : Int32} : X z 197 48 [x0, x1, x2, x3, x4, x5, x6, x7, x8, x9, x10] (.int v :: .int u :: st) cu σ Q = (if u < v then X z 197 51 [x0, x1, x2, x3, x4, x5, x6, x7, x8, x9, x10] (st) cu σ Q else X z 197 56 [x0, x1, x2, x3, x4, x5, x6, x7, x8, x9, x10] (st) cu σ Q) := by
  rw [x197_48]
  obtain ⟨K, I, R, L, sz, ex⟩ := σ
  exact br_ge
theorem v197_51 {z : P0} {st : List Value} {cu : Nat × Nat} {Q : Res → Mem → Prop} {σ : Mem} {x0 x1 x2 x3 x4 x5 x6 x7 x8 x9 x10 : Option Value} : X z 197 51 [x0, x1, x2, x3, x4, x5, x6, x7, x8, x9, x10] (st) cu σ Q = (X z 197 53 [x0, x1, x2, x3, x4, x5, x6, x7, x8, x9, x10] (.int (nI 95) :: st) cu σ Q) := by
  rw [x197_51]
  rfl
theorem v197_53 {z : P0} {st : List Value} {cu : Nat × Nat} {Q : Res → Mem → Prop} {σ : Mem} {x0 x1 x2 x3 x4 x5 x6 x7 x8 x9 x10 : Option Value} : X z 197 53 [x0, x1, x2, x3, x4, x5, x6, x7, x8, x9, x10] (st) cu σ Q = (X z 197 212 [x0, x1, x2, x3, x4, x5, x6, x7, x8, x9, x10] (st) cu σ Q) := by
  rw [x197_53]
  rfl
theorem v197_56 {z : P0} {st : List Value} {cu : Nat × Nat} {Q : Res → Mem → Prop} {σ : Mem} {x0 x1 x2 x3 x4 x5 x6 x7 x8 x10 : Option Value} {u : Int32} : X z 197 56 [x0, x1, x2, x3, x4, x5, x6, x7, x8, some (.int u), x10] (st) cu σ Q = (X z 197 58 [x0, x1, x2, x3, x4, x5, x6, x7, x8, some (.int u), x10] (.int u :: st) cu σ Q) := by
  rw [x197_56]
  rfl
theorem v197_58 {z : P0} {st : List Value} {cu : Nat × Nat} {Q : Res → Mem → Prop} {σ : Mem} {x0 x1 x2 x3 x4 x5 x6 x7 x8 x9 x10 : Option Value} : X z 197 58 [x0, x1, x2, x3, x4, x5, x6, x7, x8, x9, x10] (st) cu σ Q = (X z 197 60 [x0, x1, x2, x3, x4, x5, x6, x7, x8, x9, x10] (.int (nI 6) :: st) cu σ Q) := by
  rw [x197_58]
  rfl
theorem v197_60 {z : P0} {st : List Value} {cu : Nat × Nat} {Q : Res → Mem → Prop} {σ : Mem} {x0 x1 x2 x3 x4 x5 x6 x7 x8 x9 x10 : Option Value} {u v : Int32} : X z 197 60 [x0, x1, x2, x3, x4, x5, x6, x7, x8, x9, x10] (.int v :: .int u :: st) cu σ Q = (if u < v then X z 197 63 [x0, x1, x2, x3, x4, x5, x6, x7, x8, x9, x10] (st) cu σ Q else X z 197 78 [x0, x1, x2, x3, x4, x5, x6, x7, x8, x9, x10] (st) cu σ Q) := by
  rw [x197_60]
  obtain ⟨K, I, R, L, sz, ex⟩ := σ
  exact br_ge
theorem v197_63 {z : P0} {st : List Value} {cu : Nat × Nat} {Q : Res → Mem → Prop} {σ : Mem} {x0 x1 x2 x3 x4 x5 x6 x7 x8 x9 x10 : Option Value} : X z 197 63 [x0, x1, x2, x3, x4, x5, x6, x7, x8, x9, x10] (st) cu σ Q = (X z 197 65 [x0, x1, x2, x3, x4, x5, x6, x7, x8, x9, x10] (.int (nI 98) :: st) cu σ Q) := by
  rw [x197_63]
  rfl
theorem v197_65 {z : P0} {st : List Value} {cu : Nat × Nat} {Q : Res → Mem → Prop} {σ : Mem} {x0 x2 x3 x4 x5 x6 x7 x8 x9 x10 : Option Value} {u : Int32} : X z 197 65 [x0, some (.int u), x2, x3, x4, x5, x6, x7, x8, x9, x10] (st) cu σ Q = (X z 197 66 [x0, some (.int u), x2, x3, x4, x5, x6, x7, x8, x9, x10] (.int u :: st) cu σ Q) := by
  rw [x197_65]
  rfl
theorem v197_66 {z : P0} {st : List Value} {cu : Nat × Nat} {Q : Res → Mem → Prop} {σ : Mem} {x0 x1 x2 x3 x4 x5 x6 x7 x9 x10 : Option Value} {u : Int32} : X z 197 66 [x0, x1, x2, x3, x4, x5, x6, x7, some (.int u), x9, x10] (st) cu σ Q = (X z 197 68 [x0, x1, x2, x3, x4, x5, x6, x7, some (.int u), x9, x10] (.int u :: st) cu σ Q) := by
  rw [x197_66]
  rfl
theorem v197_68 {z : P0} {st : List Value} {cu : Nat × Nat} {Q : Res → Mem → Prop} {σ : Mem} {x0 x1 x2 x3 x4 x5 x6 x7 x8 x9 x10 : Option Value} {u v : Int32} : X z 197 68 [x0, x1, x2, x3, x4, x5, x6, x7, x8, x9, x10] (.int v :: .int u :: st) cu σ Q = (X z 197 69 [x0, x1, x2, x3, x4, x5, x6, x7, x8, x9, x10] (.int (u >>> (v &&& 31)) :: st) cu σ Q) := by
  rw [x197_68]
  rfl
theorem v197_69 {z : P0} {st : List Value} {cu : Nat × Nat} {Q : Res → Mem → Prop} {σ : Mem} {x0 x1 x2 x3 x4 x5 x6 x7 x8 x9 x10 : Option Value} : X z 197 69 [x0, x1, x2, x3, x4, x5, x6, x7, x8, x9, x10] (st) cu σ Q = (X z 197 71 [x0, x1, x2, x3, x4, x5, x6, x7, x8, x9, x10] (.int (nI 20) :: st) cu σ Q) := by
  rw [x197_69]
  rfl
theorem u197_71 {z : P0} {ls : Lcs} {st : List Value} {c n : Nat} {K : Nat → Nat × Nat} {I : Nat → Nat → Int32} {R : Nat → Nat → Option Nat} {L : Nat → Nat → Int64} {sz : Nat} {ex : Bool} {Q : Res → Mem → Prop} {a0 : Int32} {a1 : Int32} : X z 197 71 ls (.int a1 :: .int a0 :: st) (c, n) (K, I, R, L, sz, ex) Q = (wsum st ≤ 8 ∧ c + 0 ≤ 60 ∧ n + 0 ≤ 360 ∧ X z 193 0 [some (.int a0), some (.int a1)] [] (0, 0) (K, I, R, L, sz, ex) (aftr (X z) mT 197 71 ls st (c + 0, n + 0) Q)) := v197_71
theorem v197_74 {z : P0} {st : List Value} {cu : Nat × Nat} {Q : Res → Mem → Prop} {σ : Mem} {x0 x1 x2 x3 x4 x5 x6 x7 x8 x9 x10 : Option Value} {u v : Int32} : X z 197 74 [x0, x1, x2, x3, x4, x5, x6, x7, x8, x9, x10] (.int v :: .int u :: st) cu σ Q = (X z 197 75 [x0, x1, x2, x3, x4, x5, x6, x7, x8, x9, x10] (.int (u + v) :: st) cu σ Q) := by
  rw [x197_74]
  rfl
theorem v197_75 {z : P0} {st : List Value} {cu : Nat × Nat} {Q : Res → Mem → Prop} {σ : Mem} {x0 x1 x2 x3 x4 x5 x6 x7 x8 x9 x10 : Option Value} : X z 197 75 [x0, x1, x2, x3, x4, x5, x6, x7, x8, x9, x10] (st) cu σ Q = (X z 197 212 [x0, x1, x2, x3, x4, x5, x6, x7, x8, x9, x10] (st) cu σ Q) := by
  rw [x197_75]
  rfl
theorem v197_78 {z : P0} {st : List Value} {cu : Nat × Nat} {Q : Res → Mem → Prop} {σ : Mem} {x0 x1 x2 x3 x4 x5 x6 x7 x8 x10 : Option Value} {u : Int32} : X z 197 78 [x0, x1, x2, x3, x4, x5, x6, x7, x8, some (.int u), x10] (st) cu σ Q = (X z 197 80 [x0, x1, x2, x3, x4, x5, x6, x7, x8, some (.int u), x10] (.int u :: st) cu σ Q) := by
  rw [x197_78]
  rfl
theorem v197_80 {z : P0} {st : List Value} {cu : Nat × Nat} {Q : Res → Mem → Prop} {σ : Mem} {x0 x1 x2 x3 x4 x5 x6 x7 x8 x9 x10 : Option Value} : X z 197 80 [x0, x1, x2, x3, x4, x5, x6, x7, x8, x9, x10] (st) cu σ Q = (X z 197 82 [x0, x1, x2, x3, x4, x5, x6, x7, x8, x9, x10] (.int (nI 6) :: st) cu σ Q) := by
  rw [x197_80]
  rfl
theorem v197_82 {z : P0} {st : List Value} {cu : Nat × Nat} {Q : Res → Mem → Prop} {σ : Mem} {x0 x1 x2 x3 x4 x5 x6 x7 x8 x9 x10 : Option Value} {u v : Int32} : X z 197 82 [x0, x1, x2, x3, x4, x5, x6, x7, x8, x9, x10] (.int v :: .int u :: st) cu σ Q = (if u = v then X z 197 85 [x0, x1, x2, x3, x4, x5, x6, x7, x8, x9, x10] (st) cu σ Q else X z 197 90 [x0, x1, x2, x3, x4, x5, x6, x7, x8, x9, x10] (st) cu σ Q) := by
  rw [x197_82]
  obtain ⟨K, I, R, L, sz, ex⟩ := σ
  exact br_ne
theorem v197_85 {z : P0} {st : List Value} {cu : Nat × Nat} {Q : Res → Mem → Prop} {σ : Mem} {x0 x1 x2 x3 x4 x5 x6 x7 x8 x9 x10 : Option Value} : X z 197 85 [x0, x1, x2, x3, x4, x5, x6, x7, x8, x9, x10] (st) cu σ Q = (X z 197 87 [x0, x1, x2, x3, x4, x5, x6, x7, x8, x9, x10] (.int (nI 47) :: st) cu σ Q) := by
  rw [x197_85]
  rfl
theorem v197_87 {z : P0} {st : List Value} {cu : Nat × Nat} {Q : Res → Mem → Prop} {σ : Mem} {x0 x1 x2 x3 x4 x5 x6 x7 x8 x9 x10 : Option Value} : X z 197 87 [x0, x1, x2, x3, x4, x5, x6, x7, x8, x9, x10] (st) cu σ Q = (X z 197 212 [x0, x1, x2, x3, x4, x5, x6, x7, x8, x9, x10] (st) cu σ Q) := by
  rw [x197_87]
  rfl
theorem v197_90 {z : P0} {st : List Value} {cu : Nat × Nat} {Q : Res → Mem → Prop} {σ : Mem} {x0 x1 x2 x3 x4 x5 x6 x7 x8 x10 : Option Value} {u : Int32} : X z 197 90 [x0, x1, x2, x3, x4, x5, x6, x7, x8, some (.int u), x10] (st) cu σ Q = (X z 197 92 [x0, x1, x2, x3, x4, x5, x6, x7, x8, some (.int u), x10] (.int u :: st) cu σ Q) := by
  rw [x197_90]
  rfl
theorem v197_92 {z : P0} {st : List Value} {cu : Nat × Nat} {Q : Res → Mem → Prop} {σ : Mem} {x0 x1 x2 x3 x4 x5 x6 x7 x8 x9 x10 : Option Value} : X z 197 92 [x0, x1, x2, x3, x4, x5, x6, x7, x8, x9, x10] (st) cu σ Q = (X z 197 94 [x0, x1, x2, x3, x4, x5, x6, x7, x8, x9, x10] (.int (nI 7) :: st) cu σ Q) := by
  rw [x197_92]
  rfl
theorem v197_94 {z : P0} {st : List Value} {cu : Nat × Nat} {Q : Res → Mem → Prop} {σ : Mem} {x0 x1 x2 x3 x4 x5 x6 x7 x8 x9 x10 : Option Value} {u v : Int32} : X z 197 94 [x0, x1, x2, x3, x4, x5, x6, x7, x8, x9, x10] (.int v :: .int u :: st) cu σ Q = (if u = v then X z 197 97 [x0, x1, x2, x3, x4, x5, x6, x7, x8, x9, x10] (st) cu σ Q else X z 197 102 [x0, x1, x2, x3, x4, x5, x6, x7, x8, x9, x10] (st) cu σ Q) := by
  rw [x197_94]
  obtain ⟨K, I, R, L, sz, ex⟩ := σ
  exact br_ne
theorem v197_97 {z : P0} {st : List Value} {cu : Nat × Nat} {Q : Res → Mem → Prop} {σ : Mem} {x0 x1 x2 x3 x4 x5 x6 x7 x8 x9 x10 : Option Value} : X z 197 97 [x0, x1, x2, x3, x4, x5, x6, x7, x8, x9, x10] (st) cu σ Q = (X z 197 99 [x0, x1, x2, x3, x4, x5, x6, x7, x8, x9, x10] (.int (nI 124) :: st) cu σ Q) := by
  rw [x197_97]
  rfl
theorem v197_99 {z : P0} {st : List Value} {cu : Nat × Nat} {Q : Res → Mem → Prop} {σ : Mem} {x0 x1 x2 x3 x4 x5 x6 x7 x8 x9 x10 : Option Value} : X z 197 99 [x0, x1, x2, x3, x4, x5, x6, x7, x8, x9, x10] (st) cu σ Q = (X z 197 212 [x0, x1, x2, x3, x4, x5, x6, x7, x8, x9, x10] (st) cu σ Q) := by
  rw [x197_99]
  rfl
theorem v197_102 {z : P0} {st : List Value} {cu : Nat × Nat} {Q : Res → Mem → Prop} {σ : Mem} {x0 x1 x2 x3 x4 x5 x6 x7 x8 x10 : Option Value} {u : Int32} : X z 197 102 [x0, x1, x2, x3, x4, x5, x6, x7, x8, some (.int u), x10] (st) cu σ Q = (X z 197 104 [x0, x1, x2, x3, x4, x5, x6, x7, x8, some (.int u), x10] (.int u :: st) cu σ Q) := by
  rw [x197_102]
  rfl
theorem v197_104 {z : P0} {st : List Value} {cu : Nat × Nat} {Q : Res → Mem → Prop} {σ : Mem} {x0 x1 x2 x3 x4 x5 x6 x7 x8 x9 x10 : Option Value} : X z 197 104 [x0, x1, x2, x3, x4, x5, x6, x7, x8, x9, x10] (st) cu σ Q = (X z 197 106 [x0, x1, x2, x3, x4, x5, x6, x7, x8, x9, x10] (.int (nI 8) :: st) cu σ Q) := by
  rw [x197_104]
  rfl
theorem v197_106 {z : P0} {st : List Value} {cu : Nat × Nat} {Q : Res → Mem → Prop} {σ : Mem} {x0 x1 x2 x3 x4 x5 x6 x7 x8 x9 x10 : Option Value} {u v : Int32} : X z 197 106 [x0, x1, x2, x3, x4, x5, x6, x7, x8, x9, x10] (.int v :: .int u :: st) cu σ Q = (if u = v then X z 197 109 [x0, x1, x2, x3, x4, x5, x6, x7, x8, x9, x10] (st) cu σ Q else X z 197 114 [x0, x1, x2, x3, x4, x5, x6, x7, x8, x9, x10] (st) cu σ Q) := by
  rw [x197_106]
  obtain ⟨K, I, R, L, sz, ex⟩ := σ
  exact br_ne
theorem v197_109 {z : P0} {st : List Value} {cu : Nat × Nat} {Q : Res → Mem → Prop} {σ : Mem} {x0 x1 x2 x3 x4 x5 x6 x7 x8 x9 x10 : Option Value} : X z 197 109 [x0, x1, x2, x3, x4, x5, x6, x7, x8, x9, x10] (st) cu σ Q = (X z 197 111 [x0, x1, x2, x3, x4, x5, x6, x7, x8, x9, x10] (.int (nI 44) :: st) cu σ Q) := by
  rw [x197_109]
  rfl
theorem v197_111 {z : P0} {st : List Value} {cu : Nat × Nat} {Q : Res → Mem → Prop} {σ : Mem} {x0 x1 x2 x3 x4 x5 x6 x7 x8 x9 x10 : Option Value} : X z 197 111 [x0, x1, x2, x3, x4, x5, x6, x7, x8, x9, x10] (st) cu σ Q = (X z 197 212 [x0, x1, x2, x3, x4, x5, x6, x7, x8, x9, x10] (st) cu σ Q) := by
  rw [x197_111]
  rfl
theorem v197_114 {z : P0} {st : List Value} {cu : Nat × Nat} {Q : Res → Mem → Prop} {σ : Mem} {x0 x1 x2 x3 x4 x5 x6 x7 x8 x10 : Option Value} {u : Int32} : X z 197 114 [x0, x1, x2, x3, x4, x5, x6, x7, x8, some (.int u), x10] (st) cu σ Q = (X z 197 116 [x0, x1, x2, x3, x4, x5, x6, x7, x8, some (.int u), x10] (.int u :: st) cu σ Q) := by
  rw [x197_114]
  rfl
theorem v197_116 {z : P0} {st : List Value} {cu : Nat × Nat} {Q : Res → Mem → Prop} {σ : Mem} {x0 x1 x2 x3 x4 x5 x6 x7 x8 x9 x10 : Option Value} : X z 197 116 [x0, x1, x2, x3, x4, x5, x6, x7, x8, x9, x10] (st) cu σ Q = (X z 197 118 [x0, x1, x2, x3, x4, x5, x6, x7, x8, x9, x10] (.int (nI 9) :: st) cu σ Q) := by
  rw [x197_116]
  rfl
theorem v197_118 {z : P0} {st : List Value} {cu : Nat × Nat} {Q : Res → Mem → Prop} {σ : Mem} {x0 x1 x2 x3 x4 x5 x6 x7 x8 x9 x10 : Option Value} {u v : Int32} : X z 197 118 [x0, x1, x2, x3, x4, x5, x6, x7, x8, x9, x10] (.int v :: .int u :: st) cu σ Q = (if u = v then X z 197 121 [x0, x1, x2, x3, x4, x5, x6, x7, x8, x9, x10] (st) cu σ Q else X z 197 126 [x0, x1, x2, x3, x4, x5, x6, x7, x8, x9, x10] (st) cu σ Q) := by
  rw [x197_118]
  obtain ⟨K, I, R, L, sz, ex⟩ := σ
  exact br_ne
theorem v197_121 {z : P0} {st : List Value} {cu : Nat × Nat} {Q : Res → Mem → Prop} {σ : Mem} {x0 x1 x2 x3 x4 x5 x6 x7 x8 x9 x10 : Option Value} : X z 197 121 [x0, x1, x2, x3, x4, x5, x6, x7, x8, x9, x10] (st) cu σ Q = (X z 197 123 [x0, x1, x2, x3, x4, x5, x6, x7, x8, x9, x10] (.int (nI 46) :: st) cu σ Q) := by
  rw [x197_121]
  rfl
theorem v197_123 {z : P0} {st : List Value} {cu : Nat × Nat} {Q : Res → Mem → Prop} {σ : Mem} {x0 x1 x2 x3 x4 x5 x6 x7 x8 x9 x10 : Option Value} : X z 197 123 [x0, x1, x2, x3, x4, x5, x6, x7, x8, x9, x10] (st) cu σ Q = (X z 197 212 [x0, x1, x2, x3, x4, x5, x6, x7, x8, x9, x10] (st) cu σ Q) := by
  rw [x197_123]
  rfl
theorem v197_126 {z : P0} {st : List Value} {cu : Nat × Nat} {Q : Res → Mem → Prop} {σ : Mem} {x0 x1 x2 x3 x4 x5 x6 x7 x8 x10 : Option Value} {u : Int32} : X z 197 126 [x0, x1, x2, x3, x4, x5, x6, x7, x8, some (.int u), x10] (st) cu σ Q = (X z 197 128 [x0, x1, x2, x3, x4, x5, x6, x7, x8, some (.int u), x10] (.int u :: st) cu σ Q) := by
  rw [x197_126]
  rfl
theorem v197_128 {z : P0} {st : List Value} {cu : Nat × Nat} {Q : Res → Mem → Prop} {σ : Mem} {x0 x1 x2 x3 x4 x5 x6 x7 x8 x9 x10 : Option Value} : X z 197 128 [x0, x1, x2, x3, x4, x5, x6, x7, x8, x9, x10] (st) cu σ Q = (X z 197 130 [x0, x1, x2, x3, x4, x5, x6, x7, x8, x9, x10] (.int (nI 14) :: st) cu σ Q) := by
  rw [x197_128]
  rfl
theorem v197_130 {z : P0} {st : List Value} {cu : Nat × Nat} {Q : Res → Mem → Prop} {σ : Mem} {x0 x1 x2 x3 x4 x5 x6 x7 x8 x9 x10 : Option Value} {u v : Int32} : X z 197 130 [x0, x1, x2, x3, x4, x5, x6, x7, x8, x9, x10] (.int v :: .int u :: st) cu σ Q = (if u < v then X z 197 133 [x0, x1, x2, x3, x4, x5, x6, x7, x8, x9, x10] (st) cu σ Q else X z 197 178 [x0, x1, x2, x3, x4, x5, x6, x7, x8, x9, x10] (st) cu σ Q) := by
  rw [x197_130]
  obtain ⟨K, I, R, L, sz, ex⟩ := σ
  exact br_ge
theorem v197_133 {z : P0} {st : List Value} {cu : Nat × Nat} {Q : Res → Mem → Prop} {σ : Mem} {x0 x1 x2 x3 x4 x5 x6 x7 x8 x9 x10 : Option Value} : X z 197 133 [x0, x1, x2, x3, x4, x5, x6, x7, x8, x9, x10] (st) cu σ Q = (X z 197 136 [x0, x1, x2, x3, x4, x5, x6, x7, x8, x9, x10] (.int (nI 256) :: st) cu σ Q) := by
  rw [x197_133]
  rfl
theorem v197_136 {z : P0} {st : List Value} {cu : Nat × Nat} {Q : Res → Mem → Prop} {σ : Mem} {x0 x1 x2 x3 x4 x5 x6 x7 x8 x10 : Option Value} {u : Int32} : X z 197 136 [x0, x1, x2, x3, x4, x5, x6, x7, x8, some (.int u), x10] (st) cu σ Q = (X z 197 138 [x0, x1, x2, x3, x4, x5, x6, x7, x8, some (.int u), x10] (.int u :: st) cu σ Q) := by
  rw [x197_136]
  rfl
theorem v197_138 {z : P0} {st : List Value} {cu : Nat × Nat} {Q : Res → Mem → Prop} {σ : Mem} {x0 x1 x2 x3 x4 x5 x6 x7 x8 x9 x10 : Option Value} : X z 197 138 [x0, x1, x2, x3, x4, x5, x6, x7, x8, x9, x10] (st) cu σ Q = (X z 197 140 [x0, x1, x2, x3, x4, x5, x6, x7, x8, x9, x10] (.int (nI 10) :: st) cu σ Q) := by
  rw [x197_138]
  rfl
theorem v197_140 {z : P0} {st : List Value} {cu : Nat × Nat} {Q : Res → Mem → Prop} {σ : Mem} {x0 x1 x2 x3 x4 x5 x6 x7 x8 x9 x10 : Option Value} {u v : Int32} : X z 197 140 [x0, x1, x2, x3, x4, x5, x6, x7, x8, x9, x10] (.int v :: .int u :: st) cu σ Q = (if u = v then X z 197 143 [x0, x1, x2, x3, x4, x5, x6, x7, x8, x9, x10] (st) cu σ Q else X z 197 148 [x0, x1, x2, x3, x4, x5, x6, x7, x8, x9, x10] (st) cu σ Q) := by
  rw [x197_140]
  obtain ⟨K, I, R, L, sz, ex⟩ := σ
  exact br_ne
theorem v197_143 {z : P0} {st : List Value} {cu : Nat × Nat} {Q : Res → Mem → Prop} {σ : Mem} {x0 x1 x2 x3 x4 x5 x6 x7 x8 x9 x10 : Option Value} : X z 197 143 [x0, x1, x2, x3, x4, x5, x6, x7, x8, x9, x10] (st) cu σ Q = (X z 197 145 [x0, x1, x2, x3, x4, x5, x6, x7, x8, x9, x10] (.int (nI 110) :: st) cu σ Q) := by
  rw [x197_143]
  rfl
theorem v197_145 {z : P0} {st : List Value} {cu : Nat × Nat} {Q : Res → Mem → Prop} {σ : Mem} {x0 x1 x2 x3 x4 x5 x6 x7 x8 x9 x10 : Option Value} : X z 197 145 [x0, x1, x2, x3, x4, x5, x6, x7, x8, x9, x10] (st) cu σ Q = (X z 197 174 [x0, x1, x2, x3, x4, x5, x6, x7, x8, x9, x10] (st) cu σ Q) := by
  rw [x197_145]
  rfl
theorem v197_148 {z : P0} {st : List Value} {cu : Nat × Nat} {Q : Res → Mem → Prop} {σ : Mem} {x0 x1 x2 x3 x4 x5 x6 x7 x8 x10 : Option Value} {u : Int32} : X z 197 148 [x0, x1, x2, x3, x4, x5, x6, x7, x8, some (.int u), x10] (st) cu σ Q = (X z 197 150 [x0, x1, x2, x3, x4, x5, x6, x7, x8, some (.int u), x10] (.int u :: st) cu σ Q) := by
  rw [x197_148]
  rfl
theorem v197_150 {z : P0} {st : List Value} {cu : Nat × Nat} {Q : Res → Mem → Prop} {σ : Mem} {x0 x1 x2 x3 x4 x5 x6 x7 x8 x9 x10 : Option Value} : X z 197 150 [x0, x1, x2, x3, x4, x5, x6, x7, x8, x9, x10] (st) cu σ Q = (X z 197 152 [x0, x1, x2, x3, x4, x5, x6, x7, x8, x9, x10] (.int (nI 11) :: st) cu σ Q) := by
  rw [x197_150]
  rfl
theorem v197_152 {z : P0} {st : List Value} {cu : Nat × Nat} {Q : Res → Mem → Prop} {σ : Mem} {x0 x1 x2 x3 x4 x5 x6 x7 x8 x9 x10 : Option Value} {u v : Int32} : X z 197 152 [x0, x1, x2, x3, x4, x5, x6, x7, x8, x9, x10] (.int v :: .int u :: st) cu σ Q = (if u = v then X z 197 155 [x0, x1, x2, x3, x4, x5, x6, x7, x8, x9, x10] (st) cu σ Q else X z 197 160 [x0, x1, x2, x3, x4, x5, x6, x7, x8, x9, x10] (st) cu σ Q) := by
  rw [x197_152]
  obtain ⟨K, I, R, L, sz, ex⟩ := σ
  exact br_ne
theorem v197_155 {z : P0} {st : List Value} {cu : Nat × Nat} {Q : Res → Mem → Prop} {σ : Mem} {x0 x1 x2 x3 x4 x5 x6 x7 x8 x9 x10 : Option Value} : X z 197 155 [x0, x1, x2, x3, x4, x5, x6, x7, x8, x9, x10] (st) cu σ Q = (X z 197 157 [x0, x1, x2, x3, x4, x5, x6, x7, x8, x9, x10] (.int (nI 103) :: st) cu σ Q) := by
  rw [x197_155]
  rfl
theorem v197_157 {z : P0} {st : List Value} {cu : Nat × Nat} {Q : Res → Mem → Prop} {σ : Mem} {x0 x1 x2 x3 x4 x5 x6 x7 x8 x9 x10 : Option Value} : X z 197 157 [x0, x1, x2, x3, x4, x5, x6, x7, x8, x9, x10] (st) cu σ Q = (X z 197 174 [x0, x1, x2, x3, x4, x5, x6, x7, x8, x9, x10] (st) cu σ Q) := by
  rw [x197_157]
  rfl
theorem v197_160 {z : P0} {st : List Value} {cu : Nat × Nat} {Q : Res → Mem → Prop} {σ : Mem} {x0 x1 x2 x3 x4 x5 x6 x7 x8 x10 : Option Value} {u : Int32} : X z 197 160 [x0, x1, x2, x3, x4, x5, x6, x7, x8, some (.int u), x10] (st) cu σ Q = (X z 197 162 [x0, x1, x2, x3, x4, x5, x6, x7, x8, some (.int u), x10] (.int u :: st) cu σ Q) := by
  rw [x197_160]
  rfl
theorem v197_162 {z : P0} {st : List Value} {cu : Nat × Nat} {Q : Res → Mem → Prop} {σ : Mem} {x0 x1 x2 x3 x4 x5 x6 x7 x8 x9 x10 : Option Value} : X z 197 162 [x0, x1, x2, x3, x4, x5, x6, x7, x8, x9, x10] (st) cu σ Q = (X z 197 164 [x0, x1, x2, x3, x4, x5, x6, x7, x8, x9, x10] (.int (nI 12) :: st) cu σ Q) := by
  rw [x197_162]
  rfl
theorem v197_164 {z : P0} {st : List Value} {cu : Nat × Nat} {Q : Res → Mem → Prop} {σ : Mem} {x0 x1 x2 x3 x4 x5 x6 x7 x8 x9 x10 : Option Value} {u v : Int32} : X z 197 164 [x0, x1, x2, x3, x4, x5, x6, x7, x8, x9, x10] (.int v :: .int u :: st) cu σ Q = (if u = v then X z 197 167 [x0, x1, x2, x3, x4, x5, x6, x7, x8, x9, x10] (st) cu σ Q else X z 197 172 [x0, x1, x2, x3, x4, x5, x6, x7, x8, x9, x10] (st) cu σ Q) := by
  rw [x197_164]
  obtain ⟨K, I, R, L, sz, ex⟩ := σ
  exact br_ne
theorem v197_167 {z : P0} {st : List Value} {cu : Nat × Nat} {Q : Res → Mem → Prop} {σ : Mem} {x0 x1 x2 x3 x4 x5 x6 x7 x8 x9 x10 : Option Value} : X z 197 167 [x0, x1, x2, x3, x4, x5, x6, x7, x8, x9, x10] (st) cu σ Q = (X z 197 169 [x0, x1, x2, x3, x4, x5, x6, x7, x8, x9, x10] (.int (nI 119) :: st) cu σ Q) := by
  rw [x197_167]
  rfl
theorem v197_169 {z : P0} {st : List Value} {cu : Nat × Nat} {Q : Res → Mem → Prop} {σ : Mem} {x0 x1 x2 x3 x4 x5 x6 x7 x8 x9 x10 : Option Value} : X z 197 169 [x0, x1, x2, x3, x4, x5, x6, x7, x8, x9, x10] (st) cu σ Q = (X z 197 174 [x0, x1, x2, x3, x4, x5, x6, x7, x8, x9, x10] (st) cu σ Q) := by
  rw [x197_169]
  rfl
theorem v197_172 {z : P0} {st : List Value} {cu : Nat × Nat} {Q : Res → Mem → Prop} {σ : Mem} {x0 x1 x2 x3 x4 x5 x6 x7 x8 x9 x10 : Option Value} : X z 197 172 [x0, x1, x2, x3, x4, x5, x6, x7, x8, x9, x10] (st) cu σ Q = (X z 197 174 [x0, x1, x2, x3, x4, x5, x6, x7, x8, x9, x10] (.int (nI 99) :: st) cu σ Q) := by
  rw [x197_172]
  rfl
theorem v197_174 {z : P0} {st : List Value} {cu : Nat × Nat} {Q : Res → Mem → Prop} {σ : Mem} {x0 x1 x2 x3 x4 x5 x6 x7 x8 x9 x10 : Option Value} {u v : Int32} : X z 197 174 [x0, x1, x2, x3, x4, x5, x6, x7, x8, x9, x10] (.int v :: .int u :: st) cu σ Q = (X z 197 175 [x0, x1, x2, x3, x4, x5, x6, x7, x8, x9, x10] (.int (u + v) :: st) cu σ Q) := by
  rw [x197_174]
  rfl
theorem v197_175 {z : P0} {st : List Value} {cu : Nat × Nat} {Q : Res → Mem → Prop} {σ : Mem} {x0 x1 x2 x3 x4 x5 x6 x7 x8 x9 x10 : Option Value} : X z 197 175 [x0, x1, x2, x3, x4, x5, x6, x7, x8, x9, x10] (st) cu σ Q = (X z 197 212 [x0, x1, x2, x3, x4, x5, x6, x7, x8, x9, x10] (st) cu σ Q) := by
  rw [x197_175]
  rfl
theorem v197_178 {z : P0} {st : List Value} {cu : Nat × Nat} {Q : Res → Mem → Prop} {σ : Mem} {x0 x1 x2 x3 x4 x5 x6 x7 x8 x10 : Option Value} {u : Int32} : X z 197 178 [x0, x1, x2, x3, x4, x5, x6, x7, x8, some (.int u), x10] (st) cu σ Q = (X z 197 180 [x0, x1, x2, x3, x4, x5, x6, x7, x8, some (.int u), x10] (.int u :: st) cu σ Q) := by
  rw [x197_178]
  rfl
theorem v197_180 {z : P0} {st : List Value} {cu : Nat × Nat} {Q : Res → Mem → Prop} {σ : Mem} {x0 x1 x2 x3 x4 x5 x6 x7 x8 x9 x10 : Option Value} : X z 197 180 [x0, x1, x2, x3, x4, x5, x6, x7, x8, x9, x10] (st) cu σ Q = (X z 197 182 [x0, x1, x2, x3, x4, x5, x6, x7, x8, x9, x10] (.int (nI 14) :: st) cu σ Q) := by
  rw [x197_180]
  rfl
theorem v197_182 {z : P0} {st : List Value} {cu : Nat × Nat} {Q : Res → Mem → Prop} {σ : Mem} {x0 x1 x2 x3 x4 x5 x6 x7 x8 x9 x10 : Option Value} {u v : Int32} : X z 197 182 [x0, x1, x2, x3, x4, x5, x6, x7, x8, x9, x10] (.int v :: .int u :: st) cu σ Q = (if u = v then X z 197 185 [x0, x1, x2, x3, x4, x5, x6, x7, x8, x9, x10] (st) cu σ Q else X z 197 195 [x0, x1, x2, x3, x4, x5, x6, x7, x8, x9, x10] (st) cu σ Q) := by
  rw [x197_182]
  obtain ⟨K, I, R, L, sz, ex⟩ := σ
  exact br_ne
theorem v197_185 {z : P0} {st : List Value} {cu : Nat × Nat} {Q : Res → Mem → Prop} {σ : Mem} {x0 x1 x2 x3 x4 x6 x7 x8 x9 x10 : Option Value} {u : Int32} : X z 197 185 [x0, x1, x2, x3, x4, some (.int u), x6, x7, x8, x9, x10] (st) cu σ Q = (X z 197 187 [x0, x1, x2, x3, x4, some (.int u), x6, x7, x8, x9, x10] (.int u :: st) cu σ Q) := by
  rw [x197_185]
  rfl
theorem v197_187 {z : P0} {st : List Value} {cu : Nat × Nat} {Q : Res → Mem → Prop} {σ : Mem} {x0 x1 x2 x3 x4 x5 x6 x7 x8 x9 x10 : Option Value} {u : Int32} : X z 197 187 [x0, x1, x2, x3, x4, x5, x6, x7, x8, x9, x10] (.int u :: st) cu σ Q = (if u = nI 0 then X z 197 190 [x0, x1, x2, x3, x4, x5, x6, x7, x8, x9, x10] (st) cu σ Q else X z 197 195 [x0, x1, x2, x3, x4, x5, x6, x7, x8, x9, x10] (st) cu σ Q) := by
  rw [x197_187]
  rw [nI_0]
  obtain ⟨K, I, R, L, sz, ex⟩ := σ
  exact br_ne
theorem v197_190 {z : P0} {st : List Value} {cu : Nat × Nat} {Q : Res → Mem → Prop} {σ : Mem} {x0 x1 x2 x3 x4 x5 x6 x7 x8 x9 x10 : Option Value} : X z 197 190 [x0, x1, x2, x3, x4, x5, x6, x7, x8, x9, x10] (st) cu σ Q = (X z 197 192 [x0, x1, x2, x3, x4, x5, x6, x7, x8, x9, x10] (.int (nI 123) :: st) cu σ Q) := by
  rw [x197_190]
  rfl
theorem v197_192 {z : P0} {st : List Value} {cu : Nat × Nat} {Q : Res → Mem → Prop} {σ : Mem} {x0 x1 x2 x3 x4 x5 x6 x7 x8 x9 x10 : Option Value} : X z 197 192 [x0, x1, x2, x3, x4, x5, x6, x7, x8, x9, x10] (st) cu σ Q = (X z 197 212 [x0, x1, x2, x3, x4, x5, x6, x7, x8, x9, x10] (st) cu σ Q) := by
  rw [x197_192]
  rfl
theorem v197_195 {z : P0} {st : List Value} {cu : Nat × Nat} {Q : Res → Mem → Prop} {σ : Mem} {x0 x1 x2 x3 x4 x6 x7 x8 x9 x10 : Option Value} {u : Int32} : X z 197 195 [x0, x1, x2, x3, x4, some (.int u), x6, x7, x8, x9, x10] (st) cu σ Q = (X z 197 197 [x0, x1, x2, x3, x4, some (.int u), x6, x7, x8, x9, x10] (.int u :: st) cu σ Q) := by
  rw [x197_195]
  rfl
theorem v197_197 {z : P0} {st : List Value} {cu : Nat × Nat} {Q : Res → Mem → Prop} {σ : Mem} {x0 x1 x2 x3 x4 x5 x6 x7 x8 x9 x10 : Option Value} {u : Int32} : X z 197 197 [x0, x1, x2, x3, x4, x5, x6, x7, x8, x9, x10] (.int u :: st) cu σ Q = (if u = nI 0 then X z 197 210 [x0, x1, x2, x3, x4, x5, x6, x7, x8, x9, x10] (st) cu σ Q else X z 197 200 [x0, x1, x2, x3, x4, x5, x6, x7, x8, x9, x10] (st) cu σ Q) := by
  rw [x197_197]
  rw [nI_0]
  obtain ⟨K, I, R, L, sz, ex⟩ := σ
  exact br_ite
theorem v197_200 {z : P0} {st : List Value} {cu : Nat × Nat} {Q : Res → Mem → Prop} {σ : Mem} {x0 x1 x2 x3 x4 x5 x7 x8 x9 x10 : Option Value} {u : Int32} : X z 197 200 [x0, x1, x2, x3, x4, x5, some (.int u), x7, x8, x9, x10] (st) cu σ Q = (X z 197 202 [x0, x1, x2, x3, x4, x5, some (.int u), x7, x8, x9, x10] (.int u :: st) cu σ Q) := by
  rw [x197_200]
  rfl
theorem v197_202 {z : P0} {st : List Value} {cu : Nat × Nat} {Q : Res → Mem → Prop} {σ : Mem} {x0 x1 x2 x3 x4 x5 x6 x7 x8 x9 x10 : Option Value} {u : Int32} : X z 197 202 [x0, x1, x2, x3, x4, x5, x6, x7, x8, x9, x10] (.int u :: st) cu σ Q = (if nI 0 < u then X z 197 205 [x0, x1, x2, x3, x4, x5, x6, x7, x8, x9, x10] (st) cu σ Q else X z 197 210 [x0, x1, x2, x3, x4, x5, x6, x7, x8, x9, x10] (st) cu σ Q) := by
  rw [x197_202]
  rw [nI_0]
  obtain ⟨K, I, R, L, sz, ex⟩ := σ
  exact br_ge
theorem v197_205 {z : P0} {st : List Value} {cu : Nat × Nat} {Q : Res → Mem → Prop} {σ : Mem} {x0 x1 x2 x3 x4 x5 x6 x7 x8 x9 x10 : Option Value} : X z 197 205 [x0, x1, x2, x3, x4, x5, x6, x7, x8, x9, x10] (st) cu σ Q = (X z 197 207 [x0, x1, x2, x3, x4, x5, x6, x7, x8, x9, x10] (.int (nI 125) :: st) cu σ Q) := by
  rw [x197_205]
  rfl
theorem v197_207 {z : P0} {st : List Value} {cu : Nat × Nat} {Q : Res → Mem → Prop} {σ : Mem} {x0 x1 x2 x3 x4 x5 x6 x7 x8 x9 x10 : Option Value} : X z 197 207 [x0, x1, x2, x3, x4, x5, x6, x7, x8, x9, x10] (st) cu σ Q = (X z 197 212 [x0, x1, x2, x3, x4, x5, x6, x7, x8, x9, x10] (st) cu σ Q) := by
  rw [x197_207]
  rfl
theorem v197_210 {z : P0} {st : List Value} {cu : Nat × Nat} {Q : Res → Mem → Prop} {σ : Mem} {x0 x1 x2 x3 x4 x5 x6 x7 x8 x9 x10 : Option Value} : X z 197 210 [x0, x1, x2, x3, x4, x5, x6, x7, x8, x9, x10] (st) cu σ Q = (X z 197 212 [x0, x1, x2, x3, x4, x5, x6, x7, x8, x9, x10] (.int (nI 95) :: st) cu σ Q) := by
  rw [x197_210]
  rfl
theorem v197_212 {z : P0} {st : List Value} {cu : Nat × Nat} {Q : Res → Mem → Prop} {σ : Mem} {x0 x1 x2 x3 x4 x5 x6 x7 x8 x9 x10 : Option Value} {u : Int32} : X z 197 212 [x0, x1, x2, x3, x4, x5, x6, x7, x8, x9, x10] (.int u :: st) cu σ Q = (cat2 x9 = false ∧ X z 197 214 [x0, x1, x2, x3, x4, x5, x6, x7, x8, x9, some (.int u)] (st) cu σ Q) := by
  rw [x197_212]
  obtain ⟨K, I, R, L, sz, ex⟩ := σ
  exact i_istore.trans sl_10
theorem v197_214 {z : P0} {st : List Value} {cu : Nat × Nat} {Q : Res → Mem → Prop} {σ : Mem} {x0 x1 x2 x3 x4 x5 x6 x7 x8 x9 : Option Value} {u : Int32} : X z 197 214 [x0, x1, x2, x3, x4, x5, x6, x7, x8, x9, some (.int u)] (st) cu σ Q = (X z 197 216 [x0, x1, x2, x3, x4, x5, x6, x7, x8, x9, some (.int u)] (.int u :: st) cu σ Q) := by
  rw [x197_214]
  rfl
theorem v197_216 {z : P0} {st : List Value} {cu : Nat × Nat} {Q : Res → Mem → Prop} {σ : Mem} {x0 x1 x2 x3 x4 x5 x6 x7 x8 x9 x10 : Option Value} : X z 197 216 [x0, x1, x2, x3, x4, x5, x6, x7, x8, x9, x10] (st) cu σ Q = (X z 197 219 [x0, x1, x2, x3, x4, x5, x6, x7, x8, x9, x10] (.int (nI 255) :: st) cu σ Q) := by
  rw [x197_216]
  rfl
theorem v197_219 {z : P0} {st : List Value} {cu : Nat × Nat} {Q : Res → Mem → Prop} {σ : Mem} {x0 x1 x2 x3 x4 x5 x6 x7 x8 x9 x10 : Option Value} {u v : Int32} : X z 197 219 [x0, x1, x2, x3, x4, x5, x6, x7, x8, x9, x10] (.int v :: .int u :: st) cu σ Q = (if v < u then X z 197 222 [x0, x1, x2, x3, x4, x5, x6, x7, x8, x9, x10] (st) cu σ Q else X z 197 250 [x0, x1, x2, x3, x4, x5, x6, x7, x8, x9, x10] (st) cu σ Q) := by
  rw [x197_219]
  obtain ⟨K, I, R, L, sz, ex⟩ := σ
  exact br_ge
theorem v197_222 {z : P0} {st : List Value} {cu : Nat × Nat} {Q : Res → Mem → Prop} {σ : Mem} {x1 x2 x3 x4 x5 x6 x7 x8 x9 x10 : Option Value} {u : Nat} : X z 197 222 [some (.ref u), x1, x2, x3, x4, x5, x6, x7, x8, x9, x10] (st) cu σ Q = (X z 197 223 [some (.ref u), x1, x2, x3, x4, x5, x6, x7, x8, x9, x10] (.ref u :: st) cu σ Q) := by
  rw [x197_222]
  rfl
theorem v197_223 {z : P0} {st : List Value} {cu : Nat × Nat} {Q : Res → Mem → Prop} {σ : Mem} {x0 x1 x2 x3 x4 x5 x6 x7 x8 x9 x10 : Option Value} : X z 197 223 [x0, x1, x2, x3, x4, x5, x6, x7, x8, x9, x10] (st) cu σ Q = (X z 197 225 [x0, x1, x2, x3, x4, x5, x6, x7, x8, x9, x10] (.int (nI 60) :: st) cu σ Q) := by
  rw [x197_223]
  rfl
theorem u197_225 {z : P0} {ls : Lcs} {st : List Value} {c n : Nat} {K : Nat → Nat × Nat} {I : Nat → Nat → Int32} {R : Nat → Nat → Option Nat} {L : Nat → Nat → Int64} {sz : Nat} {ex : Bool} {Q : Res → Mem → Prop} {x : Nat} {a0 : Int32} : X z 197 225 ls (.int a0 :: .ref x :: st) (c, n) (K, I, R, L, sz, ex) Q = ((K x).1 = 110 ∧ wsum st ≤ 8 ∧ c + 1 ≤ 60 ∧ n + 6 ≤ 360 ∧ X z 67 0 [some (.ref x), some (.int a0)] [] (0, 0) (K, I, R, L, sz, ex) (aftr (X z) mT 197 225 ls st (c + 1, n + 6) Q)) := v197_225
theorem v197_228 {z : P0} {st : List Value} {cu : Nat × Nat} {Q : Res → Mem → Prop} {σ : Mem} {x0 x1 x2 x3 x4 x5 x6 x7 x8 x9 x10 : Option Value} {u : Int32} : X z 197 228 [x0, x1, x2, x3, x4, x5, x6, x7, x8, x9, x10] (.int u :: st) cu σ Q = (X z 197 229 [x0, x1, x2, x3, x4, x5, x6, x7, x8, x9, x10] (st) cu σ Q) := by
  rw [x197_228]
  exact propext ⟨fun h => h.2, fun h => ⟨rfl, h⟩⟩
theorem v197_229 {z : P0} {st : List Value} {cu : Nat × Nat} {Q : Res → Mem → Prop} {σ : Mem} {x1 x2 x3 x4 x5 x6 x7 x8 x9 x10 : Option Value} {u : Nat} : X z 197 229 [some (.ref u), x1, x2, x3, x4, x5, x6, x7, x8, x9, x10] (st) cu σ Q = (X z 197 230 [some (.ref u), x1, x2, x3, x4, x5, x6, x7, x8, x9, x10] (.ref u :: st) cu σ Q) := by
  rw [x197_229]
  rfl
theorem v197_230 {z : P0} {st : List Value} {cu : Nat × Nat} {Q : Res → Mem → Prop} {σ : Mem} {x0 x1 x2 x3 x4 x5 x6 x7 x8 x9 : Option Value} {u : Int32} : X z 197 230 [x0, x1, x2, x3, x4, x5, x6, x7, x8, x9, some (.int u)] (st) cu σ Q = (X z 197 232 [x0, x1, x2, x3, x4, x5, x6, x7, x8, x9, some (.int u)] (.int u :: st) cu σ Q) := by
  rw [x197_230]
  rfl
theorem v197_232 {z : P0} {st : List Value} {cu : Nat × Nat} {Q : Res → Mem → Prop} {σ : Mem} {x0 x1 x2 x3 x4 x5 x6 x7 x8 x9 x10 : Option Value} : X z 197 232 [x0, x1, x2, x3, x4, x5, x6, x7, x8, x9, x10] (st) cu σ Q = (X z 197 235 [x0, x1, x2, x3, x4, x5, x6, x7, x8, x9, x10] (.int (nI 256) :: st) cu σ Q) := by
  rw [x197_232]
  rfl
theorem v197_235 {z : P0} {st : List Value} {cu : Nat × Nat} {Q : Res → Mem → Prop} {σ : Mem} {x0 x1 x2 x3 x4 x5 x6 x7 x8 x9 x10 : Option Value} {u v : Int32} : X z 197 235 [x0, x1, x2, x3, x4, x5, x6, x7, x8, x9, x10] (.int v :: .int u :: st) cu σ Q = (X z 197 236 [x0, x1, x2, x3, x4, x5, x6, x7, x8, x9, x10] (.int (u - v) :: st) cu σ Q) := by
  rw [x197_235]
  rfl
theorem u197_236 {z : P0} {ls : Lcs} {st : List Value} {c n : Nat} {K : Nat → Nat × Nat} {I : Nat → Nat → Int32} {R : Nat → Nat → Option Nat} {L : Nat → Nat → Int64} {sz : Nat} {ex : Bool} {Q : Res → Mem → Prop} {x : Nat} {a0 : Int32} : X z 197 236 ls (.int a0 :: .ref x :: st) (c, n) (K, I, R, L, sz, ex) Q = ((K x).1 = 110 ∧ wsum st ≤ 8 ∧ c + 1 ≤ 60 ∧ n + 6 ≤ 360 ∧ X z 67 0 [some (.ref x), some (.int a0)] [] (0, 0) (K, I, R, L, sz, ex) (aftr (X z) mT 197 236 ls st (c + 1, n + 6) Q)) := v197_236
theorem v197_239 {z : P0} {st : List Value} {cu : Nat × Nat} {Q : Res → Mem → Prop} {σ : Mem} {x0 x1 x2 x3 x4 x5 x6 x7 x8 x9 x10 : Option Value} {u : Int32} : X z 197 239 [x0, x1, x2, x3, x4, x5, x6, x7, x8, x9, x10] (.int u :: st) cu σ Q = (X z 197 240 [x0, x1, x2, x3, x4, x5, x6, x7, x8, x9, x10] (st) cu σ Q) := by
  rw [x197_239]
  exact propext ⟨fun h => h.2, fun h => ⟨rfl, h⟩⟩
theorem v197_240 {z : P0} {st : List Value} {cu : Nat × Nat} {Q : Res → Mem → Prop} {σ : Mem} {x1 x2 x3 x4 x5 x6 x7 x8 x9 x10 : Option Value} {u : Nat} : X z 197 240 [some (.ref u), x1, x2, x3, x4, x5, x6, x7, x8, x9, x10] (st) cu σ Q = (X z 197 241 [some (.ref u), x1, x2, x3, x4, x5, x6, x7, x8, x9, x10] (.ref u :: st) cu σ Q) := by
  rw [x197_240]
  rfl
theorem v197_241 {z : P0} {st : List Value} {cu : Nat × Nat} {Q : Res → Mem → Prop} {σ : Mem} {x0 x1 x2 x3 x4 x5 x6 x7 x8 x9 x10 : Option Value} : X z 197 241 [x0, x1, x2, x3, x4, x5, x6, x7, x8, x9, x10] (st) cu σ Q = (X z 197 243 [x0, x1, x2, x3, x4, x5, x6, x7, x8, x9, x10] (.int (nI 62) :: st) cu σ Q) := by
  rw [x197_241]
  rfl
theorem u197_243 {z : P0} {ls : Lcs} {st : List Value} {c n : Nat} {K : Nat → Nat × Nat} {I : Nat → Nat → Int32} {R : Nat → Nat → Option Nat} {L : Nat → Nat → Int64} {sz : Nat} {ex : Bool} {Q : Res → Mem → Prop} {x : Nat} {a0 : Int32} : X z 197 243 ls (.int a0 :: .ref x :: st) (c, n) (K, I, R, L, sz, ex) Q = ((K x).1 = 110 ∧ wsum st ≤ 8 ∧ c + 1 ≤ 60 ∧ n + 6 ≤ 360 ∧ X z 67 0 [some (.ref x), some (.int a0)] [] (0, 0) (K, I, R, L, sz, ex) (aftr (X z) mT 197 243 ls st (c + 1, n + 6) Q)) := v197_243
theorem v197_246 {z : P0} {st : List Value} {cu : Nat × Nat} {Q : Res → Mem → Prop} {σ : Mem} {x0 x1 x2 x3 x4 x5 x6 x7 x8 x9 x10 : Option Value} {u : Int32} : X z 197 246 [x0, x1, x2, x3, x4, x5, x6, x7, x8, x9, x10] (.int u :: st) cu σ Q = (X z 197 247 [x0, x1, x2, x3, x4, x5, x6, x7, x8, x9, x10] (st) cu σ Q) := by
  rw [x197_246]
  exact propext ⟨fun h => h.2, fun h => ⟨rfl, h⟩⟩
theorem v197_247 {z : P0} {st : List Value} {cu : Nat × Nat} {Q : Res → Mem → Prop} {σ : Mem} {x0 x1 x2 x3 x4 x5 x6 x7 x8 x9 x10 : Option Value} : X z 197 247 [x0, x1, x2, x3, x4, x5, x6, x7, x8, x9, x10] (st) cu σ Q = (X z 197 257 [x0, x1, x2, x3, x4, x5, x6, x7, x8, x9, x10] (st) cu σ Q) := by
  rw [x197_247]
  rfl
theorem v197_250 {z : P0} {st : List Value} {cu : Nat × Nat} {Q : Res → Mem → Prop} {σ : Mem} {x1 x2 x3 x4 x5 x6 x7 x8 x9 x10 : Option Value} {u : Nat} : X z 197 250 [some (.ref u), x1, x2, x3, x4, x5, x6, x7, x8, x9, x10] (st) cu σ Q = (X z 197 251 [some (.ref u), x1, x2, x3, x4, x5, x6, x7, x8, x9, x10] (.ref u :: st) cu σ Q) := by
  rw [x197_250]
  rfl
theorem v197_251 {z : P0} {st : List Value} {cu : Nat × Nat} {Q : Res → Mem → Prop} {σ : Mem} {x0 x1 x2 x3 x4 x5 x6 x7 x8 x9 : Option Value} {u : Int32} : X z 197 251 [x0, x1, x2, x3, x4, x5, x6, x7, x8, x9, some (.int u)] (st) cu σ Q = (X z 197 253 [x0, x1, x2, x3, x4, x5, x6, x7, x8, x9, some (.int u)] (.int u :: st) cu σ Q) := by
  rw [x197_251]
  rfl
theorem u197_253 {z : P0} {ls : Lcs} {st : List Value} {c n : Nat} {K : Nat → Nat × Nat} {I : Nat → Nat → Int32} {R : Nat → Nat → Option Nat} {L : Nat → Nat → Int64} {sz : Nat} {ex : Bool} {Q : Res → Mem → Prop} {x : Nat} {a0 : Int32} : X z 197 253 ls (.int a0 :: .ref x :: st) (c, n) (K, I, R, L, sz, ex) Q = ((K x).1 = 110 ∧ wsum st ≤ 8 ∧ c + 1 ≤ 60 ∧ n + 6 ≤ 360 ∧ X z 67 0 [some (.ref x), some (.int a0)] [] (0, 0) (K, I, R, L, sz, ex) (aftr (X z) mT 197 253 ls st (c + 1, n + 6) Q)) := v197_253
theorem v197_256 {z : P0} {st : List Value} {cu : Nat × Nat} {Q : Res → Mem → Prop} {σ : Mem} {x0 x1 x2 x3 x4 x5 x6 x7 x8 x9 x10 : Option Value} {u : Int32} : X z 197 256 [x0, x1, x2, x3, x4, x5, x6, x7, x8, x9, x10] (.int u :: st) cu σ Q = (X z 197 257 [x0, x1, x2, x3, x4, x5, x6, x7, x8, x9, x10] (st) cu σ Q) := by
  rw [x197_256]
  exact propext ⟨fun h => h.2, fun h => ⟨rfl, h⟩⟩
theorem v197_257 {z : P0} {st : List Value} {cu : Nat × Nat} {Q : Res → Mem → Prop} {σ : Mem} {x0 x1 x2 x4 x5 x6 x7 x8 x9 x10 : Option Value} {u : Nat} : X z 197 257 [x0, x1, x2, some (.ref u), x4, x5, x6, x7, x8, x9, x10] (st) cu σ Q = (X z 197 258 [x0, x1, x2, some (.ref u), x4, x5, x6, x7, x8, x9, x10] (.ref u :: st) cu σ Q) := by
  rw [x197_257]
  rfl
theorem v197_258 {z : P0} {st : List Value} {cu : Nat × Nat} {Q : Res → Mem → Prop} {σ : Mem} {x0 x1 x2 x3 x5 x6 x7 x8 x9 x10 : Option Value} {u : Int32} : X z 197 258 [x0, x1, x2, x3, some (.int u), x5, x6, x7, x8, x9, x10] (st) cu σ Q = (X z 197 260 [x0, x1, x2, x3, some (.int u), x5, x6, x7, x8, x9, x10] (.int u :: st) cu σ Q) := by
  rw [x197_258]
  rfl
theorem v197_260 {z : P0} {st : List Value} {cu : Nat × Nat} {Q : Res → Mem → Prop} {σ : Mem} {x0 x1 x2 x3 x4 x5 x6 x7 x8 x9 : Option Value} {u : Int32} : X z 197 260 [x0, x1, x2, x3, x4, x5, x6, x7, x8, x9, some (.int u)] (st) cu σ Q = (X z 197 262 [x0, x1, x2, x3, x4, x5, x6, x7, x8, x9, some (.int u)] (.int u :: st) cu σ Q) := by
  rw [x197_260]
  rfl
theorem v197_262 {z : P0} {st : List Value} {cu : Nat × Nat} {Q : Res → Mem → Prop} {K : Nat → Nat × Nat} {I : Nat → Nat → Int32} {R : Nat → Nat → Option Nat} {L : Nat → Nat → Int64} {sz : Nat} {ex : Bool} {x0 x1 x2 x3 x4 x5 x6 x7 x8 x9 x10 : Option Value} {u : Nat} {j v : Int32} : X z 197 262 [x0, x1, x2, x3, x4, x5, x6, x7, x8, x9, x10] (.int v :: .int j :: .ref u :: st) cu (K, I, R, L, sz, ex) Q = ((K u).1 = 20 ∧ vp_in j (K u).2 ∧ X z 197 263 [x0, x1, x2, x3, x4, x5, x6, x7, x8, x9, x10] (st) cu (K, up2 I u j.toNatClampNeg v, R, L, sz, ex) Q) := by
  rw [x197_262]
  rfl
theorem v197_263 {z : P0} {st : List Value} {cu : Nat × Nat} {Q : Res → Mem → Prop} {σ : Mem} {x0 x1 x2 x3 x5 x6 x7 x8 x9 x10 : Option Value} {u : Int32} : X z 197 263 [x0, x1, x2, x3, some (.int u), x5, x6, x7, x8, x9, x10] (st) cu σ Q = (cat2 x3 = false ∧ X z 197 266 [x0, x1, x2, x3, some (.int (u + nI 1)), x5, x6, x7, x8, x9, x10] (st) cu σ Q) := by
  rw [x197_263]
  obtain ⟨K, I, R, L, sz, ex⟩ := σ
  exact i_iinc.trans (gl_4.trans (ldI_i.trans sl_4))
theorem v197_266 {z : P0} {st : List Value} {cu : Nat × Nat} {Q : Res → Mem → Prop} {σ : Mem} {x0 x1 x2 x3 x4 x5 x6 x7 x8 x9 : Option Value} {u : Int32} : X z 197 266 [x0, x1, x2, x3, x4, x5, x6, x7, x8, x9, some (.int u)] (st) cu σ Q = (X z 197 268 [x0, x1, x2, x3, x4, x5, x6, x7, x8, x9, some (.int u)] (.int u :: st) cu σ Q) := by
  rw [x197_266]
  rfl
theorem v197_268 {z : P0} {st : List Value} {cu : Nat × Nat} {Q : Res → Mem → Prop} {σ : Mem} {x0 x1 x2 x3 x4 x5 x6 x7 x8 x9 x10 : Option Value} : X z 197 268 [x0, x1, x2, x3, x4, x5, x6, x7, x8, x9, x10] (st) cu σ Q = (X z 197 270 [x0, x1, x2, x3, x4, x5, x6, x7, x8, x9, x10] (.int (nI 123) :: st) cu σ Q) := by
  rw [x197_268]
  rfl
theorem v197_270 {z : P0} {st : List Value} {cu : Nat × Nat} {Q : Res → Mem → Prop} {σ : Mem} {x0 x1 x2 x3 x4 x5 x6 x7 x8 x9 x10 : Option Value} {u v : Int32} : X z 197 270 [x0, x1, x2, x3, x4, x5, x6, x7, x8, x9, x10] (.int v :: .int u :: st) cu σ Q = (if u = v then X z 197 273 [x0, x1, x2, x3, x4, x5, x6, x7, x8, x9, x10] (st) cu σ Q else X z 197 277 [x0, x1, x2, x3, x4, x5, x6, x7, x8, x9, x10] (st) cu σ Q) := by
  rw [x197_270]
  obtain ⟨K, I, R, L, sz, ex⟩ := σ
  exact br_ne
theorem v197_273 {z : P0} {st : List Value} {cu : Nat × Nat} {Q : Res → Mem → Prop} {σ : Mem} {x0 x1 x2 x3 x4 x5 x6 x7 x8 x9 x10 : Option Value} : X z 197 273 [x0, x1, x2, x3, x4, x5, x6, x7, x8, x9, x10] (st) cu σ Q = (X z 197 274 [x0, x1, x2, x3, x4, x5, x6, x7, x8, x9, x10] (.int (nI 0) :: st) cu σ Q) := by
  rw [x197_273]
  rfl
theorem v197_274 {z : P0} {st : List Value} {cu : Nat × Nat} {Q : Res → Mem → Prop} {σ : Mem} {x0 x1 x2 x3 x4 x5 x6 x7 x8 x9 x10 : Option Value} : X z 197 274 [x0, x1, x2, x3, x4, x5, x6, x7, x8, x9, x10] (st) cu σ Q = (X z 197 281 [x0, x1, x2, x3, x4, x5, x6, x7, x8, x9, x10] (st) cu σ Q) := by
  rw [x197_274]
  rfl
theorem v197_277 {z : P0} {st : List Value} {cu : Nat × Nat} {Q : Res → Mem → Prop} {σ : Mem} {x0 x1 x2 x3 x4 x5 x7 x8 x9 x10 : Option Value} {u : Int32} : X z 197 277 [x0, x1, x2, x3, x4, x5, some (.int u), x7, x8, x9, x10] (st) cu σ Q = (X z 197 279 [x0, x1, x2, x3, x4, x5, some (.int u), x7, x8, x9, x10] (.int u :: st) cu σ Q) := by
  rw [x197_277]
  rfl
theorem v197_279 {z : P0} {st : List Value} {cu : Nat × Nat} {Q : Res → Mem → Prop} {σ : Mem} {x0 x1 x2 x3 x4 x5 x6 x7 x8 x9 x10 : Option Value} : X z 197 279 [x0, x1, x2, x3, x4, x5, x6, x7, x8, x9, x10] (st) cu σ Q = (X z 197 280 [x0, x1, x2, x3, x4, x5, x6, x7, x8, x9, x10] (.int (nI 1) :: st) cu σ Q) := by
  rw [x197_279]
  rfl
theorem v197_280 {z : P0} {st : List Value} {cu : Nat × Nat} {Q : Res → Mem → Prop} {σ : Mem} {x0 x1 x2 x3 x4 x5 x6 x7 x8 x9 x10 : Option Value} {u v : Int32} : X z 197 280 [x0, x1, x2, x3, x4, x5, x6, x7, x8, x9, x10] (.int v :: .int u :: st) cu σ Q = (X z 197 281 [x0, x1, x2, x3, x4, x5, x6, x7, x8, x9, x10] (.int (u + v) :: st) cu σ Q) := by
  rw [x197_280]
  rfl
theorem v197_281 {z : P0} {st : List Value} {cu : Nat × Nat} {Q : Res → Mem → Prop} {σ : Mem} {x0 x1 x2 x3 x4 x5 x6 x7 x8 x9 x10 : Option Value} {u : Int32} : X z 197 281 [x0, x1, x2, x3, x4, x5, x6, x7, x8, x9, x10] (.int u :: st) cu σ Q = (cat2 x5 = false ∧ X z 197 283 [x0, x1, x2, x3, x4, x5, some (.int u), x7, x8, x9, x10] (st) cu σ Q) := by
  rw [x197_281]
  obtain ⟨K, I, R, L, sz, ex⟩ := σ
  exact i_istore.trans sl_6
theorem v197_283 {z : P0} {st : List Value} {cu : Nat × Nat} {Q : Res → Mem → Prop} {σ : Mem} {x0 x1 x2 x3 x4 x5 x6 x7 x8 x9 : Option Value} {u : Int32} : X z 197 283 [x0, x1, x2, x3, x4, x5, x6, x7, x8, x9, some (.int u)] (st) cu σ Q = (X z 197 285 [x0, x1, x2, x3, x4, x5, x6, x7, x8, x9, some (.int u)] (.int u :: st) cu σ Q) := by
  rw [x197_283]
  rfl
theorem v197_285 {z : P0} {st : List Value} {cu : Nat × Nat} {Q : Res → Mem → Prop} {σ : Mem} {x0 x1 x2 x3 x4 x5 x6 x7 x8 x9 x10 : Option Value} : X z 197 285 [x0, x1, x2, x3, x4, x5, x6, x7, x8, x9, x10] (st) cu σ Q = (X z 197 287 [x0, x1, x2, x3, x4, x5, x6, x7, x8, x9, x10] (.int (nI 123) :: st) cu σ Q) := by
  rw [x197_285]
  rfl
theorem v197_287 {z : P0} {st : List Value} {cu : Nat × Nat} {Q : Res → Mem → Prop} {σ : Mem} {x0 x1 x2 x3 x4 x5 x6 x7 x8 x9 x10 : Option Value} {u v : Int32} : X z 197 287 [x0, x1, x2, x3, x4, x5, x6, x7, x8, x9, x10] (.int v :: .int u :: st) cu σ Q = (if u = v then X z 197 302 [x0, x1, x2, x3, x4, x5, x6, x7, x8, x9, x10] (st) cu σ Q else X z 197 290 [x0, x1, x2, x3, x4, x5, x6, x7, x8, x9, x10] (st) cu σ Q) := by
  rw [x197_287]
  obtain ⟨K, I, R, L, sz, ex⟩ := σ
  exact br_ite
theorem v197_290 {z : P0} {st : List Value} {cu : Nat × Nat} {Q : Res → Mem → Prop} {σ : Mem} {x0 x1 x2 x3 x4 x6 x7 x8 x9 x10 : Option Value} {u : Int32} : X z 197 290 [x0, x1, x2, x3, x4, some (.int u), x6, x7, x8, x9, x10] (st) cu σ Q = (X z 197 292 [x0, x1, x2, x3, x4, some (.int u), x6, x7, x8, x9, x10] (.int u :: st) cu σ Q) := by
  rw [x197_290]
  rfl
theorem v197_292 {z : P0} {st : List Value} {cu : Nat × Nat} {Q : Res → Mem → Prop} {σ : Mem} {x0 x1 x2 x3 x4 x5 x6 x7 x8 x9 x10 : Option Value} {u : Int32} : X z 197 292 [x0, x1, x2, x3, x4, x5, x6, x7, x8, x9, x10] (.int u :: st) cu σ Q = (if u = nI 0 then X z 197 306 [x0, x1, x2, x3, x4, x5, x6, x7, x8, x9, x10] (st) cu σ Q else X z 197 295 [x0, x1, x2, x3, x4, x5, x6, x7, x8, x9, x10] (st) cu σ Q) := by
  rw [x197_292]
  rw [nI_0]
  obtain ⟨K, I, R, L, sz, ex⟩ := σ
  exact br_ite
theorem v197_295 {z : P0} {st : List Value} {cu : Nat × Nat} {Q : Res → Mem → Prop} {σ : Mem} {x0 x1 x2 x3 x4 x5 x6 x7 x8 x9 : Option Value} {u : Int32} : X z 197 295 [x0, x1, x2, x3, x4, x5, x6, x7, x8, x9, some (.int u)] (st) cu σ Q = (X z 197 297 [x0, x1, x2, x3, x4, x5, x6, x7, x8, x9, some (.int u)] (.int u :: st) cu σ Q) := by
  rw [x197_295]
  rfl
theorem v197_297 {z : P0} {st : List Value} {cu : Nat × Nat} {Q : Res → Mem → Prop} {σ : Mem} {x0 x1 x2 x3 x4 x5 x6 x7 x8 x9 x10 : Option Value} : X z 197 297 [x0, x1, x2, x3, x4, x5, x6, x7, x8, x9, x10] (st) cu σ Q = (X z 197 299 [x0, x1, x2, x3, x4, x5, x6, x7, x8, x9, x10] (.int (nI 125) :: st) cu σ Q) := by
  rw [x197_297]
  rfl
theorem v197_299 {z : P0} {st : List Value} {cu : Nat × Nat} {Q : Res → Mem → Prop} {σ : Mem} {x0 x1 x2 x3 x4 x5 x6 x7 x8 x9 x10 : Option Value} {u v : Int32} : X z 197 299 [x0, x1, x2, x3, x4, x5, x6, x7, x8, x9, x10] (.int v :: .int u :: st) cu σ Q = (if u = v then X z 197 306 [x0, x1, x2, x3, x4, x5, x6, x7, x8, x9, x10] (st) cu σ Q else X z 197 302 [x0, x1, x2, x3, x4, x5, x6, x7, x8, x9, x10] (st) cu σ Q) := by
  rw [x197_299]
  obtain ⟨K, I, R, L, sz, ex⟩ := σ
  exact br_ite
theorem v197_302 {z : P0} {st : List Value} {cu : Nat × Nat} {Q : Res → Mem → Prop} {σ : Mem} {x0 x1 x2 x3 x4 x5 x6 x7 x8 x9 x10 : Option Value} : X z 197 302 [x0, x1, x2, x3, x4, x5, x6, x7, x8, x9, x10] (st) cu σ Q = (X z 197 303 [x0, x1, x2, x3, x4, x5, x6, x7, x8, x9, x10] (.int (nI 1) :: st) cu σ Q) := by
  rw [x197_302]
  rfl
theorem v197_303 {z : P0} {st : List Value} {cu : Nat × Nat} {Q : Res → Mem → Prop} {σ : Mem} {x0 x1 x2 x3 x4 x5 x6 x7 x8 x9 x10 : Option Value} : X z 197 303 [x0, x1, x2, x3, x4, x5, x6, x7, x8, x9, x10] (st) cu σ Q = (X z 197 307 [x0, x1, x2, x3, x4, x5, x6, x7, x8, x9, x10] (st) cu σ Q) := by
  rw [x197_303]
  rfl
theorem v197_306 {z : P0} {st : List Value} {cu : Nat × Nat} {Q : Res → Mem → Prop} {σ : Mem} {x0 x1 x2 x3 x4 x5 x6 x7 x8 x9 x10 : Option Value} : X z 197 306 [x0, x1, x2, x3, x4, x5, x6, x7, x8, x9, x10] (st) cu σ Q = (X z 197 307 [x0, x1, x2, x3, x4, x5, x6, x7, x8, x9, x10] (.int (nI 0) :: st) cu σ Q) := by
  rw [x197_306]
  rfl
theorem v197_307 {z : P0} {st : List Value} {cu : Nat × Nat} {Q : Res → Mem → Prop} {σ : Mem} {x0 x1 x2 x3 x4 x5 x6 x7 x8 x9 x10 : Option Value} {u : Int32} : X z 197 307 [x0, x1, x2, x3, x4, x5, x6, x7, x8, x9, x10] (.int u :: st) cu σ Q = (cat2 x4 = false ∧ X z 197 309 [x0, x1, x2, x3, x4, some (.int u), x6, x7, x8, x9, x10] (st) cu σ Q) := by
  rw [x197_307]
  obtain ⟨K, I, R, L, sz, ex⟩ := σ
  exact i_istore.trans sl_5
theorem v197_309 {z : P0} {st : List Value} {cu : Nat × Nat} {Q : Res → Mem → Prop} {σ : Mem} {x0 x1 x2 x3 x4 x5 x6 x7 x9 x10 : Option Value} {u : Int32} : X z 197 309 [x0, x1, x2, x3, x4, x5, x6, x7, some (.int u), x9, x10] (st) cu σ Q = (cat2 x7 = false ∧ X z 197 312 [x0, x1, x2, x3, x4, x5, x6, x7, some (.int (u + nI 1)), x9, x10] (st) cu σ Q) := by
  rw [x197_309]
  obtain ⟨K, I, R, L, sz, ex⟩ := σ
  exact i_iinc.trans (gl_8.trans (ldI_i.trans sl_8))
theorem v197_312 {z : P0} {st : List Value} {cu : Nat × Nat} {Q : Res → Mem → Prop} {σ : Mem} {x0 x1 x2 x3 x4 x5 x6 x7 x8 x9 x10 : Option Value} : X z 197 312 [x0, x1, x2, x3, x4, x5, x6, x7, x8, x9, x10] (st) cu σ Q = (X z 197 27 [x0, x1, x2, x3, x4, x5, x6, x7, x8, x9, x10] (st) cu σ Q) := by
  rw [x197_312]
  rfl
theorem v197_315 {z : P0} {st : List Value} {cu : Nat × Nat} {Q : Res → Mem → Prop} {σ : Mem} {x0 x1 x2 x3 x4 x6 x7 x8 x9 x10 : Option Value} {u : Int32} : X z 197 315 [x0, x1, x2, x3, x4, some (.int u), x6, x7, x8, x9, x10] (st) cu σ Q = (X z 197 317 [x0, x1, x2, x3, x4, some (.int u), x6, x7, x8, x9, x10] (.int u :: st) cu σ Q) := by
  rw [x197_315]
  rfl
theorem v197_317 {z : P0} {st : List Value} {cu : Nat × Nat} {Q : Res → Mem → Prop} {σ : Mem} {x0 x1 x2 x3 x4 x5 x6 x7 x8 x9 x10 : Option Value} {u : Int32} : X z 197 317 [x0, x1, x2, x3, x4, x5, x6, x7, x8, x9, x10] (.int u :: st) cu σ Q = (if u = nI 0 then X z 197 341 [x0, x1, x2, x3, x4, x5, x6, x7, x8, x9, x10] (st) cu σ Q else X z 197 320 [x0, x1, x2, x3, x4, x5, x6, x7, x8, x9, x10] (st) cu σ Q) := by
  rw [x197_317]
  rw [nI_0]
  obtain ⟨K, I, R, L, sz, ex⟩ := σ
  exact br_ite
theorem v197_320 {z : P0} {st : List Value} {cu : Nat × Nat} {Q : Res → Mem → Prop} {σ : Mem} {x0 x1 x2 x3 x4 x5 x7 x8 x9 x10 : Option Value} {u : Int32} : X z 197 320 [x0, x1, x2, x3, x4, x5, some (.int u), x7, x8, x9, x10] (st) cu σ Q = (X z 197 322 [x0, x1, x2, x3, x4, x5, some (.int u), x7, x8, x9, x10] (.int u :: st) cu σ Q) := by
  rw [x197_320]
  rfl
theorem v197_322 {z : P0} {st : List Value} {cu : Nat × Nat} {Q : Res → Mem → Prop} {σ : Mem} {x0 x1 x2 x3 x4 x5 x6 x7 x8 x9 x10 : Option Value} {u : Int32} : X z 197 322 [x0, x1, x2, x3, x4, x5, x6, x7, x8, x9, x10] (.int u :: st) cu σ Q = (if u = nI 0 then X z 197 325 [x0, x1, x2, x3, x4, x5, x6, x7, x8, x9, x10] (st) cu σ Q else X z 197 341 [x0, x1, x2, x3, x4, x5, x6, x7, x8, x9, x10] (st) cu σ Q) := by
  rw [x197_322]
  rw [nI_0]
  obtain ⟨K, I, R, L, sz, ex⟩ := σ
  exact br_ne
theorem v197_325 {z : P0} {st : List Value} {cu : Nat × Nat} {Q : Res → Mem → Prop} {σ : Mem} {x1 x2 x3 x4 x5 x6 x7 x8 x9 x10 : Option Value} {u : Nat} : X z 197 325 [some (.ref u), x1, x2, x3, x4, x5, x6, x7, x8, x9, x10] (st) cu σ Q = (X z 197 326 [some (.ref u), x1, x2, x3, x4, x5, x6, x7, x8, x9, x10] (.ref u :: st) cu σ Q) := by
  rw [x197_325]
  rfl
theorem v197_326 {z : P0} {st : List Value} {cu : Nat × Nat} {Q : Res → Mem → Prop} {σ : Mem} {x0 x1 x2 x3 x4 x5 x6 x7 x8 x9 x10 : Option Value} : X z 197 326 [x0, x1, x2, x3, x4, x5, x6, x7, x8, x9, x10] (st) cu σ Q = (X z 197 328 [x0, x1, x2, x3, x4, x5, x6, x7, x8, x9, x10] (.int (nI 120) :: st) cu σ Q) := by
  rw [x197_326]
  rfl
theorem u197_328 {z : P0} {ls : Lcs} {st : List Value} {c n : Nat} {K : Nat → Nat × Nat} {I : Nat → Nat → Int32} {R : Nat → Nat → Option Nat} {L : Nat → Nat → Int64} {sz : Nat} {ex : Bool} {Q : Res → Mem → Prop} {x : Nat} {a0 : Int32} : X z 197 328 ls (.int a0 :: .ref x :: st) (c, n) (K, I, R, L, sz, ex) Q = ((K x).1 = 110 ∧ wsum st ≤ 8 ∧ c + 1 ≤ 60 ∧ n + 6 ≤ 360 ∧ X z 67 0 [some (.ref x), some (.int a0)] [] (0, 0) (K, I, R, L, sz, ex) (aftr (X z) mT 197 328 ls st (c + 1, n + 6) Q)) := v197_328
theorem v197_331 {z : P0} {st : List Value} {cu : Nat × Nat} {Q : Res → Mem → Prop} {σ : Mem} {x0 x1 x2 x3 x4 x5 x6 x7 x8 x9 x10 : Option Value} {u : Int32} : X z 197 331 [x0, x1, x2, x3, x4, x5, x6, x7, x8, x9, x10] (.int u :: st) cu σ Q = (X z 197 332 [x0, x1, x2, x3, x4, x5, x6, x7, x8, x9, x10] (st) cu σ Q) := by
  rw [x197_331]
  exact propext ⟨fun h => h.2, fun h => ⟨rfl, h⟩⟩
theorem v197_332 {z : P0} {st : List Value} {cu : Nat × Nat} {Q : Res → Mem → Prop} {σ : Mem} {x0 x1 x2 x4 x5 x6 x7 x8 x9 x10 : Option Value} {u : Nat} : X z 197 332 [x0, x1, x2, some (.ref u), x4, x5, x6, x7, x8, x9, x10] (st) cu σ Q = (X z 197 333 [x0, x1, x2, some (.ref u), x4, x5, x6, x7, x8, x9, x10] (.ref u :: st) cu σ Q) := by
  rw [x197_332]
  rfl
theorem v197_333 {z : P0} {st : List Value} {cu : Nat × Nat} {Q : Res → Mem → Prop} {σ : Mem} {x0 x1 x2 x3 x5 x6 x7 x8 x9 x10 : Option Value} {u : Int32} : X z 197 333 [x0, x1, x2, x3, some (.int u), x5, x6, x7, x8, x9, x10] (st) cu σ Q = (X z 197 335 [x0, x1, x2, x3, some (.int u), x5, x6, x7, x8, x9, x10] (.int u :: st) cu σ Q) := by
  rw [x197_333]
  rfl
theorem v197_335 {z : P0} {st : List Value} {cu : Nat × Nat} {Q : Res → Mem → Prop} {σ : Mem} {x0 x1 x2 x3 x4 x5 x6 x7 x8 x9 x10 : Option Value} : X z 197 335 [x0, x1, x2, x3, x4, x5, x6, x7, x8, x9, x10] (st) cu σ Q = (X z 197 337 [x0, x1, x2, x3, x4, x5, x6, x7, x8, x9, x10] (.int (nI 120) :: st) cu σ Q) := by
  rw [x197_335]
  rfl
theorem v197_337 {z : P0} {st : List Value} {cu : Nat × Nat} {Q : Res → Mem → Prop} {K : Nat → Nat × Nat} {I : Nat → Nat → Int32} {R : Nat → Nat → Option Nat} {L : Nat → Nat → Int64} {sz : Nat} {ex : Bool} {x0 x1 x2 x3 x4 x5 x6 x7 x8 x9 x10 : Option Value} {u : Nat} {j v : Int32} : X z 197 337 [x0, x1, x2, x3, x4, x5, x6, x7, x8, x9, x10] (.int v :: .int j :: .ref u :: st) cu (K, I, R, L, sz, ex) Q = ((K u).1 = 20 ∧ vp_in j (K u).2 ∧ X z 197 338 [x0, x1, x2, x3, x4, x5, x6, x7, x8, x9, x10] (st) cu (K, up2 I u j.toNatClampNeg v, R, L, sz, ex) Q) := by
  rw [x197_337]
  rfl
theorem v197_338 {z : P0} {st : List Value} {cu : Nat × Nat} {Q : Res → Mem → Prop} {σ : Mem} {x0 x1 x2 x3 x5 x6 x7 x8 x9 x10 : Option Value} {u : Int32} : X z 197 338 [x0, x1, x2, x3, some (.int u), x5, x6, x7, x8, x9, x10] (st) cu σ Q = (cat2 x3 = false ∧ X z 197 341 [x0, x1, x2, x3, some (.int (u + nI 1)), x5, x6, x7, x8, x9, x10] (st) cu σ Q) := by
  rw [x197_338]
  obtain ⟨K, I, R, L, sz, ex⟩ := σ
  exact i_iinc.trans (gl_4.trans (ldI_i.trans sl_4))
theorem v197_341 {z : P0} {st : List Value} {cu : Nat × Nat} {Q : Res → Mem → Prop} {σ : Mem} {x0 x1 x2 x3 x4 x6 x7 x8 x9 x10 : Option Value} {u : Int32} : X z 197 341 [x0, x1, x2, x3, x4, some (.int u), x6, x7, x8, x9, x10] (st) cu σ Q = (X z 197 343 [x0, x1, x2, x3, x4, some (.int u), x6, x7, x8, x9, x10] (.int u :: st) cu σ Q) := by
  rw [x197_341]
  rfl
theorem v197_343 {z : P0} {st : List Value} {cu : Nat × Nat} {Q : Res → Mem → Prop} {σ : Mem} {x0 x1 x2 x3 x4 x5 x6 x7 x8 x9 x10 : Option Value} {u : Int32} : X z 197 343 [x0, x1, x2, x3, x4, x5, x6, x7, x8, x9, x10] (.int u :: st) cu σ Q = (if u = nI 0 then X z 197 362 [x0, x1, x2, x3, x4, x5, x6, x7, x8, x9, x10] (st) cu σ Q else X z 197 346 [x0, x1, x2, x3, x4, x5, x6, x7, x8, x9, x10] (st) cu σ Q) := by
  rw [x197_343]
  rw [nI_0]
  obtain ⟨K, I, R, L, sz, ex⟩ := σ
  exact br_ite
theorem v197_346 {z : P0} {st : List Value} {cu : Nat × Nat} {Q : Res → Mem → Prop} {σ : Mem} {x1 x2 x3 x4 x5 x6 x7 x8 x9 x10 : Option Value} {u : Nat} : X z 197 346 [some (.ref u), x1, x2, x3, x4, x5, x6, x7, x8, x9, x10] (st) cu σ Q = (X z 197 347 [some (.ref u), x1, x2, x3, x4, x5, x6, x7, x8, x9, x10] (.ref u :: st) cu σ Q) := by
  rw [x197_346]
  rfl
theorem v197_347 {z : P0} {st : List Value} {cu : Nat × Nat} {Q : Res → Mem → Prop} {σ : Mem} {x0 x1 x2 x3 x4 x5 x6 x7 x8 x9 x10 : Option Value} : X z 197 347 [x0, x1, x2, x3, x4, x5, x6, x7, x8, x9, x10] (st) cu σ Q = (X z 197 349 [x0, x1, x2, x3, x4, x5, x6, x7, x8, x9, x10] (.int (nI 125) :: st) cu σ Q) := by
  rw [x197_347]
  rfl
theorem u197_349 {z : P0} {ls : Lcs} {st : List Value} {c n : Nat} {K : Nat → Nat × Nat} {I : Nat → Nat → Int32} {R : Nat → Nat → Option Nat} {L : Nat → Nat → Int64} {sz : Nat} {ex : Bool} {Q : Res → Mem → Prop} {x : Nat} {a0 : Int32} : X z 197 349 ls (.int a0 :: .ref x :: st) (c, n) (K, I, R, L, sz, ex) Q = ((K x).1 = 110 ∧ wsum st ≤ 8 ∧ c + 1 ≤ 60 ∧ n + 6 ≤ 360 ∧ X z 67 0 [some (.ref x), some (.int a0)] [] (0, 0) (K, I, R, L, sz, ex) (aftr (X z) mT 197 349 ls st (c + 1, n + 6) Q)) := v197_349
theorem v197_352 {z : P0} {st : List Value} {cu : Nat × Nat} {Q : Res → Mem → Prop} {σ : Mem} {x0 x1 x2 x3 x4 x5 x6 x7 x8 x9 x10 : Option Value} {u : Int32} : X z 197 352 [x0, x1, x2, x3, x4, x5, x6, x7, x8, x9, x10] (.int u :: st) cu σ Q = (X z 197 353 [x0, x1, x2, x3, x4, x5, x6, x7, x8, x9, x10] (st) cu σ Q) := by
  rw [x197_352]
  exact propext ⟨fun h => h.2, fun h => ⟨rfl, h⟩⟩
theorem v197_353 {z : P0} {st : List Value} {cu : Nat × Nat} {Q : Res → Mem → Prop} {σ : Mem} {x0 x1 x2 x4 x5 x6 x7 x8 x9 x10 : Option Value} {u : Nat} : X z 197 353 [x0, x1, x2, some (.ref u), x4, x5, x6, x7, x8, x9, x10] (st) cu σ Q = (X z 197 354 [x0, x1, x2, some (.ref u), x4, x5, x6, x7, x8, x9, x10] (.ref u :: st) cu σ Q) := by
  rw [x197_353]
  rfl
theorem v197_354 {z : P0} {st : List Value} {cu : Nat × Nat} {Q : Res → Mem → Prop} {σ : Mem} {x0 x1 x2 x3 x5 x6 x7 x8 x9 x10 : Option Value} {u : Int32} : X z 197 354 [x0, x1, x2, x3, some (.int u), x5, x6, x7, x8, x9, x10] (st) cu σ Q = (X z 197 356 [x0, x1, x2, x3, some (.int u), x5, x6, x7, x8, x9, x10] (.int u :: st) cu σ Q) := by
  rw [x197_354]
  rfl
theorem v197_356 {z : P0} {st : List Value} {cu : Nat × Nat} {Q : Res → Mem → Prop} {σ : Mem} {x0 x1 x2 x3 x4 x5 x6 x7 x8 x9 x10 : Option Value} : X z 197 356 [x0, x1, x2, x3, x4, x5, x6, x7, x8, x9, x10] (st) cu σ Q = (X z 197 358 [x0, x1, x2, x3, x4, x5, x6, x7, x8, x9, x10] (.int (nI 125) :: st) cu σ Q) := by
  rw [x197_356]
  rfl
theorem v197_358 {z : P0} {st : List Value} {cu : Nat × Nat} {Q : Res → Mem → Prop} {K : Nat → Nat × Nat} {I : Nat → Nat → Int32} {R : Nat → Nat → Option Nat} {L : Nat → Nat → Int64} {sz : Nat} {ex : Bool} {x0 x1 x2 x3 x4 x5 x6 x7 x8 x9 x10 : Option Value} {u : Nat} {j v : Int32} : X z 197 358 [x0, x1, x2, x3, x4, x5, x6, x7, x8, x9, x10] (.int v :: .int j :: .ref u :: st) cu (K, I, R, L, sz, ex) Q = ((K u).1 = 20 ∧ vp_in j (K u).2 ∧ X z 197 359 [x0, x1, x2, x3, x4, x5, x6, x7, x8, x9, x10] (st) cu (K, up2 I u j.toNatClampNeg v, R, L, sz, ex) Q) := by
  rw [x197_358]
  rfl
theorem v197_359 {z : P0} {st : List Value} {cu : Nat × Nat} {Q : Res → Mem → Prop} {σ : Mem} {x0 x1 x2 x3 x5 x6 x7 x8 x9 x10 : Option Value} {u : Int32} : X z 197 359 [x0, x1, x2, x3, some (.int u), x5, x6, x7, x8, x9, x10] (st) cu σ Q = (cat2 x3 = false ∧ X z 197 362 [x0, x1, x2, x3, some (.int (u + nI 1)), x5, x6, x7, x8, x9, x10] (st) cu σ Q) := by
  rw [x197_359]
  obtain ⟨K, I, R, L, sz, ex⟩ := σ
  exact i_iinc.trans (gl_4.trans (ldI_i.trans sl_4))
theorem v197_362 {z : P0} {st : List Value} {cu : Nat × Nat} {Q : Res → Mem → Prop} {σ : Mem} {x0 x1 x2 x3 x5 x6 x7 x8 x9 x10 : Option Value} {u : Int32} : X z 197 362 [x0, x1, x2, x3, some (.int u), x5, x6, x7, x8, x9, x10] (st) cu σ Q = (X z 197 364 [x0, x1, x2, x3, some (.int u), x5, x6, x7, x8, x9, x10] (.int u :: st) cu σ Q) := by
  rw [x197_362]
  rfl
theorem v197_364 {z : P0} {cu : Nat × Nat} {Q : Res → Mem → Prop} {σ : Mem} {x0 x1 x2 x3 x4 x5 x6 x7 x8 x9 x10 : Option Value} {v : Int32} : X z 197 364 [x0, x1, x2, x3, x4, x5, x6, x7, x8, x9, x10] ([.int v]) cu σ Q = (Q (.inl (some (.int v))) σ) := by
  rw [x197_364]
  exact propext ⟨fun h => h.2, fun h => ⟨trivial, h⟩⟩
theorem v198_0 {z : P0} {st : List Value} {cu : Nat × Nat} {Q : Res → Mem → Prop} {σ : Mem} {x0 x1 x2 x3 : Option Value} : X z 198 0 [x0, x1, x2, x3] (st) cu σ Q = (X z 198 1 [x0, x1, x2, x3] (.int (nI 0) :: st) cu σ Q) := by
  rw [x198_0]
  rfl
theorem v198_1 {z : P0} {st : List Value} {cu : Nat × Nat} {Q : Res → Mem → Prop} {σ : Mem} {x0 x1 x2 x3 : Option Value} {u : Int32} : X z 198 1 [x0, x1, x2, x3] (.int u :: st) cu σ Q = (cat2 x2 = false ∧ X z 198 2 [x0, x1, x2, some (.int u)] (st) cu σ Q) := by
  rw [x198_1]
  obtain ⟨K, I, R, L, sz, ex⟩ := σ
  exact i_istore_n.trans sl_3
theorem v198_2 {z : P0} {st : List Value} {cu : Nat × Nat} {Q : Res → Mem → Prop} {σ : Mem} {x0 x1 x2 : Option Value} {u : Int32} : X z 198 2 [x0, x1, x2, some (.int u)] (st) cu σ Q = (X z 198 3 [x0, x1, x2, some (.int u)] (.int u :: st) cu σ Q) := by
  rw [x198_2]
  rfl
theorem v198_3 {z : P0} {st : List Value} {cu : Nat × Nat} {Q : Res → Mem → Prop} {σ : Mem} {x0 x1 x2 x3 : Option Value} : X z 198 3 [x0, x1, x2, x3] (st) cu σ Q = (X z 198 5 [x0, x1, x2, x3] (.int (nI 10) :: st) cu σ Q) := by
  rw [x198_3]
  rfl
theorem v198_5 {z : P0} {st : List Value} {cu : Nat × Nat} {Q : Res → Mem → Prop} {σ : Mem} {x0 x1 x2 x3 : Option Value} {u v : Int32} : X z 198 5 [x0, x1, x2, x3] (.int v :: .int u :: st) cu σ Q = (if u < v then X z 198 8 [x0, x1, x2, x3] (st) cu σ Q else X z 198 18 [x0, x1, x2, x3] (st) cu σ Q) := by
  rw [x198_5]
  obtain ⟨K, I, R, L, sz, ex⟩ := σ
  exact br_ge
theorem v198_8 {z : P0} {st : List Value} {cu : Nat × Nat} {Q : Res → Mem → Prop} {σ : Mem} {x1 x2 x3 : Option Value} {u : Nat} : X z 198 8 [some (.ref u), x1, x2, x3] (st) cu σ Q = (X z 198 9 [some (.ref u), x1, x2, x3] (.ref u :: st) cu σ Q) := by
  rw [x198_8]
  rfl
theorem v198_9 {z : P0} {st : List Value} {cu : Nat × Nat} {Q : Res → Mem → Prop} {σ : Mem} {x0 x1 x2 : Option Value} {u : Int32} : X z 198 9 [x0, x1, x2, some (.int u)] (st) cu σ Q = (X z 198 10 [x0, x1, x2, some (.int u)] (.int u :: st) cu σ Q) := by
  rw [x198_9]
  rfl
theorem v198_10 {z : P0} {st : List Value} {cu : Nat × Nat} {Q : Res → Mem → Prop} {σ : Mem} {x0 x1 x2 x3 : Option Value} : X z 198 10 [x0, x1, x2, x3] (st) cu σ Q = (X z 198 11 [x0, x1, x2, x3] (.int (nI 0) :: st) cu σ Q) := by
  rw [x198_10]
  rfl
theorem v198_11 {z : P0} {st : List Value} {cu : Nat × Nat} {Q : Res → Mem → Prop} {K : Nat → Nat × Nat} {I : Nat → Nat → Int32} {R : Nat → Nat → Option Nat} {L : Nat → Nat → Int64} {sz : Nat} {ex : Bool} {x0 x1 x2 x3 : Option Value} {u : Nat} {j v : Int32} : X z 198 11 [x0, x1, x2, x3] (.int v :: .int j :: .ref u :: st) cu (K, I, R, L, sz, ex) Q = ((K u).1 = 20 ∧ vp_in j (K u).2 ∧ X z 198 12 [x0, x1, x2, x3] (st) cu (K, up2 I u j.toNatClampNeg v, R, L, sz, ex) Q) := by
  rw [x198_11]
  rfl
theorem v198_12 {z : P0} {st : List Value} {cu : Nat × Nat} {Q : Res → Mem → Prop} {σ : Mem} {x0 x1 x2 : Option Value} {u : Int32} : X z 198 12 [x0, x1, x2, some (.int u)] (st) cu σ Q = (cat2 x2 = false ∧ X z 198 15 [x0, x1, x2, some (.int (u + nI 1))] (st) cu σ Q) := by
  rw [x198_12]
  obtain ⟨K, I, R, L, sz, ex⟩ := σ
  exact i_iinc.trans (gl_3.trans (ldI_i.trans sl_3))
theorem v198_15 {z : P0} {st : List Value} {cu : Nat × Nat} {Q : Res → Mem → Prop} {σ : Mem} {x0 x1 x2 x3 : Option Value} : X z 198 15 [x0, x1, x2, x3] (st) cu σ Q = (X z 198 2 [x0, x1, x2, x3] (st) cu σ Q) := by
  rw [x198_15]
  rfl
theorem v198_18 {z : P0} {st : List Value} {cu : Nat × Nat} {Q : Res → Mem → Prop} {σ : Mem} {x1 x2 x3 : Option Value} {u : Nat} : X z 198 18 [some (.ref u), x1, x2, x3] (st) cu σ Q = (X z 198 19 [some (.ref u), x1, x2, x3] (.ref u :: st) cu σ Q) := by
  rw [x198_18]
  rfl
theorem v198_19 {z : P0} {st : List Value} {cu : Nat × Nat} {Q : Res → Mem → Prop} {σ : Mem} {x0 x1 x2 x3 : Option Value} : X z 198 19 [x0, x1, x2, x3] (st) cu σ Q = (X z 198 20 [x0, x1, x2, x3] (.int (nI 3) :: st) cu σ Q) := by
  rw [x198_19]
  rfl
theorem v198_20 {z : P0} {st : List Value} {cu : Nat × Nat} {Q : Res → Mem → Prop} {σ : Mem} {x0 x1 x2 x3 : Option Value} : X z 198 20 [x0, x1, x2, x3] (st) cu σ Q = (X z 198 21 [x0, x1, x2, x3] (.int (nI 1) :: st) cu σ Q) := by
  rw [x198_20]
  rfl
theorem v198_21 {z : P0} {st : List Value} {cu : Nat × Nat} {Q : Res → Mem → Prop} {K : Nat → Nat × Nat} {I : Nat → Nat → Int32} {R : Nat → Nat → Option Nat} {L : Nat → Nat → Int64} {sz : Nat} {ex : Bool} {x0 x1 x2 x3 : Option Value} {u : Nat} {j v : Int32} : X z 198 21 [x0, x1, x2, x3] (.int v :: .int j :: .ref u :: st) cu (K, I, R, L, sz, ex) Q = ((K u).1 = 20 ∧ vp_in j (K u).2 ∧ X z 198 22 [x0, x1, x2, x3] (st) cu (K, up2 I u j.toNatClampNeg v, R, L, sz, ex) Q) := by
  rw [x198_21]
  rfl
theorem v198_22 {z : P0} {st : List Value} {cu : Nat × Nat} {Q : Res → Mem → Prop} {σ : Mem} {x1 x2 x3 : Option Value} {u : Nat} : X z 198 22 [some (.ref u), x1, x2, x3] (st) cu σ Q = (X z 198 23 [some (.ref u), x1, x2, x3] (.ref u :: st) cu σ Q) := by
  rw [x198_22]
  rfl
theorem v198_23 {z : P0} {st : List Value} {cu : Nat × Nat} {Q : Res → Mem → Prop} {σ : Mem} {x0 x1 x2 x3 : Option Value} : X z 198 23 [x0, x1, x2, x3] (st) cu σ Q = (X z 198 24 [x0, x1, x2, x3] (.int (nI 4) :: st) cu σ Q) := by
  rw [x198_23]
  rfl
theorem v198_24 {z : P0} {st : List Value} {cu : Nat × Nat} {Q : Res → Mem → Prop} {σ : Mem} {x0 x1 x2 x3 : Option Value} : X z 198 24 [x0, x1, x2, x3] (st) cu σ Q = (X z 198 25 [x0, x1, x2, x3] (.int (nI 1) :: st) cu σ Q) := by
  rw [x198_24]
  rfl
theorem v198_25 {z : P0} {st : List Value} {cu : Nat × Nat} {Q : Res → Mem → Prop} {K : Nat → Nat × Nat} {I : Nat → Nat → Int32} {R : Nat → Nat → Option Nat} {L : Nat → Nat → Int64} {sz : Nat} {ex : Bool} {x0 x1 x2 x3 : Option Value} {u : Nat} {j v : Int32} : X z 198 25 [x0, x1, x2, x3] (.int v :: .int j :: .ref u :: st) cu (K, I, R, L, sz, ex) Q = ((K u).1 = 20 ∧ vp_in j (K u).2 ∧ X z 198 26 [x0, x1, x2, x3] (st) cu (K, up2 I u j.toNatClampNeg v, R, L, sz, ex) Q) := by
  rw [x198_25]
  rfl
theorem v198_26 {z : P0} {st : List Value} {cu : Nat × Nat} {Q : Res → Mem → Prop} {σ : Mem} {x1 x2 x3 : Option Value} {u : Nat} : X z 198 26 [some (.ref u), x1, x2, x3] (st) cu σ Q = (X z 198 27 [some (.ref u), x1, x2, x3] (.ref u :: st) cu σ Q) := by
  rw [x198_26]
  rfl
theorem v198_27 {z : P0} {st : List Value} {cu : Nat × Nat} {Q : Res → Mem → Prop} {σ : Mem} {x0 x1 x2 x3 : Option Value} : X z 198 27 [x0, x1, x2, x3] (st) cu σ Q = (X z 198 29 [x0, x1, x2, x3] (.int (nI 7) :: st) cu σ Q) := by
  rw [x198_27]
  rfl
theorem v198_29 {z : P0} {st : List Value} {cu : Nat × Nat} {Q : Res → Mem → Prop} {σ : Mem} {x0 x2 x3 : Option Value} {u : Int32} : X z 198 29 [x0, some (.int u), x2, x3] (st) cu σ Q = (X z 198 30 [x0, some (.int u), x2, x3] (.int u :: st) cu σ Q) := by
  rw [x198_29]
  rfl
theorem v198_30 {z : P0} {st : List Value} {cu : Nat × Nat} {Q : Res → Mem → Prop} {K : Nat → Nat × Nat} {I : Nat → Nat → Int32} {R : Nat → Nat → Option Nat} {L : Nat → Nat → Int64} {sz : Nat} {ex : Bool} {x0 x1 x2 x3 : Option Value} {u : Nat} {j v : Int32} : X z 198 30 [x0, x1, x2, x3] (.int v :: .int j :: .ref u :: st) cu (K, I, R, L, sz, ex) Q = ((K u).1 = 20 ∧ vp_in j (K u).2 ∧ X z 198 31 [x0, x1, x2, x3] (st) cu (K, up2 I u j.toNatClampNeg v, R, L, sz, ex) Q) := by
  rw [x198_30]
  rfl
theorem v198_31 {z : P0} {st : List Value} {cu : Nat × Nat} {Q : Res → Mem → Prop} {σ : Mem} {x1 x2 x3 : Option Value} {u : Nat} : X z 198 31 [some (.ref u), x1, x2, x3] (st) cu σ Q = (X z 198 32 [some (.ref u), x1, x2, x3] (.ref u :: st) cu σ Q) := by
  rw [x198_31]
  rfl
theorem v198_32 {z : P0} {st : List Value} {cu : Nat × Nat} {Q : Res → Mem → Prop} {σ : Mem} {x0 x1 x2 x3 : Option Value} : X z 198 32 [x0, x1, x2, x3] (st) cu σ Q = (X z 198 34 [x0, x1, x2, x3] (.int (nI 8) :: st) cu σ Q) := by
  rw [x198_32]
  rfl
theorem v198_34 {z : P0} {st : List Value} {cu : Nat × Nat} {Q : Res → Mem → Prop} {σ : Mem} {x0 x1 x3 : Option Value} {u : Int32} : X z 198 34 [x0, x1, some (.int u), x3] (st) cu σ Q = (X z 198 35 [x0, x1, some (.int u), x3] (.int u :: st) cu σ Q) := by
  rw [x198_34]
  rfl
theorem v198_35 {z : P0} {st : List Value} {cu : Nat × Nat} {Q : Res → Mem → Prop} {K : Nat → Nat × Nat} {I : Nat → Nat → Int32} {R : Nat → Nat → Option Nat} {L : Nat → Nat → Int64} {sz : Nat} {ex : Bool} {x0 x1 x2 x3 : Option Value} {u : Nat} {j v : Int32} : X z 198 35 [x0, x1, x2, x3] (.int v :: .int j :: .ref u :: st) cu (K, I, R, L, sz, ex) Q = ((K u).1 = 20 ∧ vp_in j (K u).2 ∧ X z 198 36 [x0, x1, x2, x3] (st) cu (K, up2 I u j.toNatClampNeg v, R, L, sz, ex) Q) := by
  rw [x198_35]
  rfl
theorem v198_36 {z : P0} {cu : Nat × Nat} {Q : Res → Mem → Prop} {σ : Mem} {x0 x1 x2 x3 : Option Value} : X z 198 36 [x0, x1, x2, x3] ([]) cu σ Q = (Q (.inl none) σ) := by
  rw [x198_36]
  rfl
theorem v199_0 {z : P0} {st : List Value} {cu : Nat × Nat} {Q : Res → Mem → Prop} {σ : Mem} {x1 : Option Value} {u : Nat} : X z 199 0 [some (.ref u), x1] (st) cu σ Q = (X z 199 1 [some (.ref u), x1] (.ref u :: st) cu σ Q) := by
  rw [x199_0]
  rfl
theorem v199_1 {z : P0} {st : List Value} {cu : Nat × Nat} {Q : Res → Mem → Prop} {σ : Mem} {x0 x1 : Option Value} : X z 199 1 [x0, x1] (st) cu σ Q = (X z 199 2 [x0, x1] (.int (nI 3) :: st) cu σ Q) := by
  rw [x199_1]
  rfl
theorem v199_2 {z : P0} {st : List Value} {cu : Nat × Nat} {Q : Res → Mem → Prop} {K : Nat → Nat × Nat} {I : Nat → Nat → Int32} {R : Nat → Nat → Option Nat} {L : Nat → Nat → Int64} {sz : Nat} {ex : Bool} {x0 x1 : Option Value} {u : Nat} {v : Int32} : X z 199 2 [x0, x1] (.int v :: .ref u :: st) cu (K, I, R, L, sz, ex) Q = (((K u).1 = 20 ∨ (K u).1 = 50) ∧ vp_in v (K u).2 ∧ X z 199 3 [x0, x1] (.int (I u v.toNatClampNeg) :: st) cu (K, I, R, L, sz, ex) Q) := by
  rw [x199_2]
  rfl
theorem v199_3 {z : P0} {st : List Value} {cu : Nat × Nat} {Q : Res → Mem → Prop} {σ : Mem} {x0 x1 : Option Value} {u : Int32} : X z 199 3 [x0, x1] (.int u :: st) cu σ Q = (if u = nI 0 then X z 199 6 [x0, x1] (st) cu σ Q else X z 199 35 [x0, x1] (st) cu σ Q) := by
  rw [x199_3]
  rw [nI_0]
  obtain ⟨K, I, R, L, sz, ex⟩ := σ
  exact br_ne
theorem v199_6 {z : P0} {st : List Value} {cu : Nat × Nat} {Q : Res → Mem → Prop} {σ : Mem} {x1 : Option Value} {u : Nat} : X z 199 6 [some (.ref u), x1] (st) cu σ Q = (X z 199 7 [some (.ref u), x1] (.ref u :: st) cu σ Q) := by
  rw [x199_6]
  rfl
theorem v199_7 {z : P0} {st : List Value} {cu : Nat × Nat} {Q : Res → Mem → Prop} {σ : Mem} {x0 x1 : Option Value} : X z 199 7 [x0, x1] (st) cu σ Q = (X z 199 8 [x0, x1] (.int (nI 2) :: st) cu σ Q) := by
  rw [x199_7]
  rfl
theorem v199_8 {z : P0} {st : List Value} {cu : Nat × Nat} {Q : Res → Mem → Prop} {K : Nat → Nat × Nat} {I : Nat → Nat → Int32} {R : Nat → Nat → Option Nat} {L : Nat → Nat → Int64} {sz : Nat} {ex : Bool} {x0 x1 : Option Value} {u : Nat} {v : Int32} : X z 199 8 [x0, x1] (.int v :: .ref u :: st) cu (K, I, R, L, sz, ex) Q = (((K u).1 = 20 ∨ (K u).1 = 50) ∧ vp_in v (K u).2 ∧ X z 199 9 [x0, x1] (.int (I u v.toNatClampNeg) :: st) cu (K, I, R, L, sz, ex) Q) := by
  rw [x199_8]
  rfl
theorem v199_9 {z : P0} {st : List Value} {cu : Nat × Nat} {Q : Res → Mem → Prop} {σ : Mem} {x0 x1 : Option Value} : X z 199 9 [x0, x1] (st) cu σ Q = (X z 199 10 [x0, x1] (.int (nI 1) :: st) cu σ Q) := by
  rw [x199_9]
  rfl
theorem v199_10 {z : P0} {st : List Value} {cu : Nat × Nat} {Q : Res → Mem → Prop} {σ : Mem} {x0 x1 : Option Value} {u v : Int32} : X z 199 10 [x0, x1] (.int v :: .int u :: st) cu σ Q = (X z 199 11 [x0, x1] (.int (u + v) :: st) cu σ Q) := by
  rw [x199_10]
  rfl
theorem v199_11 {z : P0} {st : List Value} {cu : Nat × Nat} {Q : Res → Mem → Prop} {σ : Mem} {x0 : Option Value} {u : Int32} : X z 199 11 [x0, some (.int u)] (st) cu σ Q = (X z 199 12 [x0, some (.int u)] (.int u :: st) cu σ Q) := by
  rw [x199_11]
  rfl
theorem v199_12 {z : P0} {st : List Value} {cu : Nat × Nat} {Q : Res → Mem → Prop} {σ : Mem} {x0 x1 : Option Value} {u v : Int32} : X z 199 12 [x0, x1] (.int v :: .int u :: st) cu σ Q = (X z 199 13 [x0, x1] (.int (u + v) :: st) cu σ Q) := by
  rw [x199_12]
  rfl
theorem v199_13 {z : P0} {st : List Value} {cu : Nat × Nat} {Q : Res → Mem → Prop} {σ : Mem} {x1 : Option Value} {u : Nat} : X z 199 13 [some (.ref u), x1] (st) cu σ Q = (X z 199 14 [some (.ref u), x1] (.ref u :: st) cu σ Q) := by
  rw [x199_13]
  rfl
theorem v199_14 {z : P0} {st : List Value} {cu : Nat × Nat} {Q : Res → Mem → Prop} {σ : Mem} {x0 x1 : Option Value} : X z 199 14 [x0, x1] (st) cu σ Q = (X z 199 16 [x0, x1] (.int (nI 7) :: st) cu σ Q) := by
  rw [x199_14]
  rfl
theorem v199_16 {z : P0} {st : List Value} {cu : Nat × Nat} {Q : Res → Mem → Prop} {K : Nat → Nat × Nat} {I : Nat → Nat → Int32} {R : Nat → Nat → Option Nat} {L : Nat → Nat → Int64} {sz : Nat} {ex : Bool} {x0 x1 : Option Value} {u : Nat} {v : Int32} : X z 199 16 [x0, x1] (.int v :: .ref u :: st) cu (K, I, R, L, sz, ex) Q = (((K u).1 = 20 ∨ (K u).1 = 50) ∧ vp_in v (K u).2 ∧ X z 199 17 [x0, x1] (.int (I u v.toNatClampNeg) :: st) cu (K, I, R, L, sz, ex) Q) := by
  rw [x199_16]
  rfl
theorem v199_17 {z : P0} {st : List Value} {cu : Nat × Nat} {Q : Res → Mem → Prop} {σ : Mem} {x0 x1 : Option Value} {u v : Int32} : X z 199 17 [x0, x1] (.int v :: .int u :: st) cu σ Q = (if v < u then X z 199 20 [x0, x1] (st) cu σ Q else X z 199 35 [x0, x1] (st) cu σ Q) := by
  rw [x199_17]
  obtain ⟨K, I, R, L, sz, ex⟩ := σ
  exact br_ge
theorem v199_20 {z : P0} {st : List Value} {cu : Nat × Nat} {Q : Res → Mem → Prop} {σ : Mem} {x1 : Option Value} {u : Nat} : X z 199 20 [some (.ref u), x1] (st) cu σ Q = (X z 199 21 [some (.ref u), x1] (.ref u :: st) cu σ Q) := by
  rw [x199_20]
  rfl
theorem v199_21 {z : P0} {st : List Value} {cu : Nat × Nat} {Q : Res → Mem → Prop} {σ : Mem} {x0 x1 : Option Value} : X z 199 21 [x0, x1] (st) cu σ Q = (X z 199 22 [x0, x1] (.int (nI 4) :: st) cu σ Q) := by
  rw [x199_21]
  rfl
theorem v199_22 {z : P0} {st : List Value} {cu : Nat × Nat} {Q : Res → Mem → Prop} {σ : Mem} {x0 x1 : Option Value} {u : Int32} {v : Nat} : X z 199 22 [x0, x1] (.int u :: .ref v :: st) cu σ Q = (X z 199 23 [x0, x1] (.int u :: .ref v :: .int u :: .ref v :: st) cu σ Q) := by
  rw [x199_22]
  rfl
theorem v199_23 {z : P0} {st : List Value} {cu : Nat × Nat} {Q : Res → Mem → Prop} {K : Nat → Nat × Nat} {I : Nat → Nat → Int32} {R : Nat → Nat → Option Nat} {L : Nat → Nat → Int64} {sz : Nat} {ex : Bool} {x0 x1 : Option Value} {u : Nat} {v : Int32} : X z 199 23 [x0, x1] (.int v :: .ref u :: st) cu (K, I, R, L, sz, ex) Q = (((K u).1 = 20 ∨ (K u).1 = 50) ∧ vp_in v (K u).2 ∧ X z 199 24 [x0, x1] (.int (I u v.toNatClampNeg) :: st) cu (K, I, R, L, sz, ex) Q) := by
  rw [x199_23]
  rfl
theorem v199_24 {z : P0} {st : List Value} {cu : Nat × Nat} {Q : Res → Mem → Prop} {σ : Mem} {x0 x1 : Option Value} : X z 199 24 [x0, x1] (st) cu σ Q = (X z 199 25 [x0, x1] (.int (nI 1) :: st) cu σ Q) := by
  rw [x199_24]
  rfl
theorem v199_25 {z : P0} {st : List Value} {cu : Nat × Nat} {Q : Res → Mem → Prop} {σ : Mem} {x0 x1 : Option Value} {u v : Int32} : X z 199 25 [x0, x1] (.int v :: .int u :: st) cu σ Q = (X z 199 26 [x0, x1] (.int (u + v) :: st) cu σ Q) := by
  rw [x199_25]
  rfl
theorem v199_26 {z : P0} {st : List Value} {cu : Nat × Nat} {Q : Res → Mem → Prop} {K : Nat → Nat × Nat} {I : Nat → Nat → Int32} {R : Nat → Nat → Option Nat} {L : Nat → Nat → Int64} {sz : Nat} {ex : Bool} {x0 x1 : Option Value} {u : Nat} {j v : Int32} : X z 199 26 [x0, x1] (.int v :: .int j :: .ref u :: st) cu (K, I, R, L, sz, ex) Q = ((K u).1 = 20 ∧ vp_in j (K u).2 ∧ X z 199 27 [x0, x1] (st) cu (K, up2 I u j.toNatClampNeg v, R, L, sz, ex) Q) := by
  rw [x199_26]
  rfl
theorem v199_27 {z : P0} {st : List Value} {cu : Nat × Nat} {Q : Res → Mem → Prop} {σ : Mem} {x1 : Option Value} {u : Nat} : X z 199 27 [some (.ref u), x1] (st) cu σ Q = (X z 199 28 [some (.ref u), x1] (.ref u :: st) cu σ Q) := by
  rw [x199_27]
  rfl
theorem v199_28 {z : P0} {st : List Value} {cu : Nat × Nat} {Q : Res → Mem → Prop} {σ : Mem} {x0 x1 : Option Value} : X z 199 28 [x0, x1] (st) cu σ Q = (X z 199 29 [x0, x1] (.int (nI 2) :: st) cu σ Q) := by
  rw [x199_28]
  rfl
theorem v199_29 {z : P0} {st : List Value} {cu : Nat × Nat} {Q : Res → Mem → Prop} {σ : Mem} {x0 x1 : Option Value} : X z 199 29 [x0, x1] (st) cu σ Q = (X z 199 30 [x0, x1] (.int (nI 0) :: st) cu σ Q) := by
  rw [x199_29]
  rfl
theorem v199_30 {z : P0} {st : List Value} {cu : Nat × Nat} {Q : Res → Mem → Prop} {K : Nat → Nat × Nat} {I : Nat → Nat → Int32} {R : Nat → Nat → Option Nat} {L : Nat → Nat → Int64} {sz : Nat} {ex : Bool} {x0 x1 : Option Value} {u : Nat} {j v : Int32} : X z 199 30 [x0, x1] (.int v :: .int j :: .ref u :: st) cu (K, I, R, L, sz, ex) Q = ((K u).1 = 20 ∧ vp_in j (K u).2 ∧ X z 199 31 [x0, x1] (st) cu (K, up2 I u j.toNatClampNeg v, R, L, sz, ex) Q) := by
  rw [x199_30]
  rfl
theorem v199_31 {z : P0} {st : List Value} {cu : Nat × Nat} {Q : Res → Mem → Prop} {σ : Mem} {x1 : Option Value} {u : Nat} : X z 199 31 [some (.ref u), x1] (st) cu σ Q = (X z 199 32 [some (.ref u), x1] (.ref u :: st) cu σ Q) := by
  rw [x199_31]
  rfl
theorem v199_32 {z : P0} {st : List Value} {cu : Nat × Nat} {Q : Res → Mem → Prop} {σ : Mem} {x0 x1 : Option Value} : X z 199 32 [x0, x1] (st) cu σ Q = (X z 199 33 [x0, x1] (.int (nI 3) :: st) cu σ Q) := by
  rw [x199_32]
  rfl
theorem v199_33 {z : P0} {st : List Value} {cu : Nat × Nat} {Q : Res → Mem → Prop} {σ : Mem} {x0 x1 : Option Value} : X z 199 33 [x0, x1] (st) cu σ Q = (X z 199 34 [x0, x1] (.int (nI 1) :: st) cu σ Q) := by
  rw [x199_33]
  rfl
theorem v199_34 {z : P0} {st : List Value} {cu : Nat × Nat} {Q : Res → Mem → Prop} {K : Nat → Nat × Nat} {I : Nat → Nat → Int32} {R : Nat → Nat → Option Nat} {L : Nat → Nat → Int64} {sz : Nat} {ex : Bool} {x0 x1 : Option Value} {u : Nat} {j v : Int32} : X z 199 34 [x0, x1] (.int v :: .int j :: .ref u :: st) cu (K, I, R, L, sz, ex) Q = ((K u).1 = 20 ∧ vp_in j (K u).2 ∧ X z 199 35 [x0, x1] (st) cu (K, up2 I u j.toNatClampNeg v, R, L, sz, ex) Q) := by
  rw [x199_34]
  rfl
theorem v199_35 {z : P0} {st : List Value} {cu : Nat × Nat} {Q : Res → Mem → Prop} {σ : Mem} {x1 : Option Value} {u : Nat} : X z 199 35 [some (.ref u), x1] (st) cu σ Q = (X z 199 36 [some (.ref u), x1] (.ref u :: st) cu σ Q) := by
  rw [x199_35]
  rfl
theorem v199_36 {z : P0} {st : List Value} {cu : Nat × Nat} {Q : Res → Mem → Prop} {σ : Mem} {x0 x1 : Option Value} : X z 199 36 [x0, x1] (st) cu σ Q = (X z 199 37 [x0, x1] (.int (nI 2) :: st) cu σ Q) := by
  rw [x199_36]
  rfl
theorem v199_37 {z : P0} {st : List Value} {cu : Nat × Nat} {Q : Res → Mem → Prop} {σ : Mem} {x0 x1 : Option Value} {u : Int32} {v : Nat} : X z 199 37 [x0, x1] (.int u :: .ref v :: st) cu σ Q = (X z 199 38 [x0, x1] (.int u :: .ref v :: .int u :: .ref v :: st) cu σ Q) := by
  rw [x199_37]
  rfl
theorem v199_38 {z : P0} {st : List Value} {cu : Nat × Nat} {Q : Res → Mem → Prop} {K : Nat → Nat × Nat} {I : Nat → Nat → Int32} {R : Nat → Nat → Option Nat} {L : Nat → Nat → Int64} {sz : Nat} {ex : Bool} {x0 x1 : Option Value} {u : Nat} {v : Int32} : X z 199 38 [x0, x1] (.int v :: .ref u :: st) cu (K, I, R, L, sz, ex) Q = (((K u).1 = 20 ∨ (K u).1 = 50) ∧ vp_in v (K u).2 ∧ X z 199 39 [x0, x1] (.int (I u v.toNatClampNeg) :: st) cu (K, I, R, L, sz, ex) Q) := by
  rw [x199_38]
  rfl
theorem v199_39 {z : P0} {st : List Value} {cu : Nat × Nat} {Q : Res → Mem → Prop} {σ : Mem} {x1 : Option Value} {u : Nat} : X z 199 39 [some (.ref u), x1] (st) cu σ Q = (X z 199 40 [some (.ref u), x1] (.ref u :: st) cu σ Q) := by
  rw [x199_39]
  rfl
theorem v199_40 {z : P0} {st : List Value} {cu : Nat × Nat} {Q : Res → Mem → Prop} {σ : Mem} {x0 x1 : Option Value} : X z 199 40 [x0, x1] (st) cu σ Q = (X z 199 41 [x0, x1] (.int (nI 3) :: st) cu σ Q) := by
  rw [x199_40]
  rfl
theorem v199_41 {z : P0} {st : List Value} {cu : Nat × Nat} {Q : Res → Mem → Prop} {K : Nat → Nat × Nat} {I : Nat → Nat → Int32} {R : Nat → Nat → Option Nat} {L : Nat → Nat → Int64} {sz : Nat} {ex : Bool} {x0 x1 : Option Value} {u : Nat} {v : Int32} : X z 199 41 [x0, x1] (.int v :: .ref u :: st) cu (K, I, R, L, sz, ex) Q = (((K u).1 = 20 ∨ (K u).1 = 50) ∧ vp_in v (K u).2 ∧ X z 199 42 [x0, x1] (.int (I u v.toNatClampNeg) :: st) cu (K, I, R, L, sz, ex) Q) := by
  rw [x199_41]
  rfl
theorem v199_42 {z : P0} {st : List Value} {cu : Nat × Nat} {Q : Res → Mem → Prop} {σ : Mem} {x0 x1 : Option Value} : X z 199 42 [x0, x1] (st) cu σ Q = (X z 199 43 [x0, x1] (.int (nI 1) :: st) cu σ Q) := by
  rw [x199_42]
  rfl
theorem v199_43 {z : P0} {st : List Value} {cu : Nat × Nat} {Q : Res → Mem → Prop} {σ : Mem} {x0 x1 : Option Value} {u v : Int32} : X z 199 43 [x0, x1] (.int v :: .int u :: st) cu σ Q = (if u = v then X z 199 46 [x0, x1] (st) cu σ Q else X z 199 50 [x0, x1] (st) cu σ Q) := by
  rw [x199_43]
  obtain ⟨K, I, R, L, sz, ex⟩ := σ
  exact br_ne
theorem v199_46 {z : P0} {st : List Value} {cu : Nat × Nat} {Q : Res → Mem → Prop} {σ : Mem} {x0 : Option Value} {u : Int32} : X z 199 46 [x0, some (.int u)] (st) cu σ Q = (X z 199 47 [x0, some (.int u)] (.int u :: st) cu σ Q) := by
  rw [x199_46]
  rfl
theorem v199_47 {z : P0} {st : List Value} {cu : Nat × Nat} {Q : Res → Mem → Prop} {σ : Mem} {x0 x1 : Option Value} : X z 199 47 [x0, x1] (st) cu σ Q = (X z 199 53 [x0, x1] (st) cu σ Q) := by
  rw [x199_47]
  rfl
theorem v199_50 {z : P0} {st : List Value} {cu : Nat × Nat} {Q : Res → Mem → Prop} {σ : Mem} {x0 x1 : Option Value} : X z 199 50 [x0, x1] (st) cu σ Q = (X z 199 51 [x0, x1] (.int (nI 1) :: st) cu σ Q) := by
  rw [x199_50]
  rfl
theorem v199_51 {z : P0} {st : List Value} {cu : Nat × Nat} {Q : Res → Mem → Prop} {σ : Mem} {x0 : Option Value} {u : Int32} : X z 199 51 [x0, some (.int u)] (st) cu σ Q = (X z 199 52 [x0, some (.int u)] (.int u :: st) cu σ Q) := by
  rw [x199_51]
  rfl
theorem v199_52 {z : P0} {st : List Value} {cu : Nat × Nat} {Q : Res → Mem → Prop} {σ : Mem} {x0 x1 : Option Value} {u v : Int32} : X z 199 52 [x0, x1] (.int v :: .int u :: st) cu σ Q = (X z 199 53 [x0, x1] (.int (u + v) :: st) cu σ Q) := by
  rw [x199_52]
  rfl
theorem v199_53 {z : P0} {st : List Value} {cu : Nat × Nat} {Q : Res → Mem → Prop} {σ : Mem} {x0 x1 : Option Value} {u v : Int32} : X z 199 53 [x0, x1] (.int v :: .int u :: st) cu σ Q = (X z 199 54 [x0, x1] (.int (u + v) :: st) cu σ Q) := by
  rw [x199_53]
  rfl
theorem v199_54 {z : P0} {st : List Value} {cu : Nat × Nat} {Q : Res → Mem → Prop} {K : Nat → Nat × Nat} {I : Nat → Nat → Int32} {R : Nat → Nat → Option Nat} {L : Nat → Nat → Int64} {sz : Nat} {ex : Bool} {x0 x1 : Option Value} {u : Nat} {j v : Int32} : X z 199 54 [x0, x1] (.int v :: .int j :: .ref u :: st) cu (K, I, R, L, sz, ex) Q = ((K u).1 = 20 ∧ vp_in j (K u).2 ∧ X z 199 55 [x0, x1] (st) cu (K, up2 I u j.toNatClampNeg v, R, L, sz, ex) Q) := by
  rw [x199_54]
  rfl
theorem v199_55 {z : P0} {st : List Value} {cu : Nat × Nat} {Q : Res → Mem → Prop} {σ : Mem} {x1 : Option Value} {u : Nat} : X z 199 55 [some (.ref u), x1] (st) cu σ Q = (X z 199 56 [some (.ref u), x1] (.ref u :: st) cu σ Q) := by
  rw [x199_55]
  rfl
theorem v199_56 {z : P0} {st : List Value} {cu : Nat × Nat} {Q : Res → Mem → Prop} {σ : Mem} {x0 x1 : Option Value} : X z 199 56 [x0, x1] (st) cu σ Q = (X z 199 57 [x0, x1] (.int (nI 3) :: st) cu σ Q) := by
  rw [x199_56]
  rfl
theorem v199_57 {z : P0} {st : List Value} {cu : Nat × Nat} {Q : Res → Mem → Prop} {σ : Mem} {x0 x1 : Option Value} : X z 199 57 [x0, x1] (st) cu σ Q = (X z 199 58 [x0, x1] (.int (nI 0) :: st) cu σ Q) := by
  rw [x199_57]
  rfl
theorem v199_58 {z : P0} {st : List Value} {cu : Nat × Nat} {Q : Res → Mem → Prop} {K : Nat → Nat × Nat} {I : Nat → Nat → Int32} {R : Nat → Nat → Option Nat} {L : Nat → Nat → Int64} {sz : Nat} {ex : Bool} {x0 x1 : Option Value} {u : Nat} {j v : Int32} : X z 199 58 [x0, x1] (.int v :: .int j :: .ref u :: st) cu (K, I, R, L, sz, ex) Q = ((K u).1 = 20 ∧ vp_in j (K u).2 ∧ X z 199 59 [x0, x1] (st) cu (K, up2 I u j.toNatClampNeg v, R, L, sz, ex) Q) := by
  rw [x199_58]
  rfl
theorem v199_59 {z : P0} {cu : Nat × Nat} {Q : Res → Mem → Prop} {σ : Mem} {x0 x1 : Option Value} : X z 199 59 [x0, x1] ([]) cu σ Q = (Q (.inl none) σ) := by
  rw [x199_59]
  rfl
theorem v200_0 {z : P0} {st : List Value} {cu : Nat × Nat} {Q : Res → Mem → Prop} {σ : Mem} {u : Nat} : X z 200 0 [some (.ref u)] (st) cu σ Q = (X z 200 1 [some (.ref u)] (.ref u :: st) cu σ Q) := by
  rw [x200_0]
  rfl
theorem v200_1 {z : P0} {st : List Value} {cu : Nat × Nat} {Q : Res → Mem → Prop} {σ : Mem} {x0 : Option Value} : X z 200 1 [x0] (st) cu σ Q = (X z 200 2 [x0] (.int (nI 1) :: st) cu σ Q) := by
  rw [x200_1]
  rfl
theorem v200_2 {z : P0} {st : List Value} {cu : Nat × Nat} {Q : Res → Mem → Prop} {K : Nat → Nat × Nat} {I : Nat → Nat → Int32} {R : Nat → Nat → Option Nat} {L : Nat → Nat → Int64} {sz : Nat} {ex : Bool} {x0 : Option Value} {u : Nat} {v : Int32} : X z 200 2 [x0] (.int v :: .ref u :: st) cu (K, I, R, L, sz, ex) Q = (((K u).1 = 20 ∨ (K u).1 = 50) ∧ vp_in v (K u).2 ∧ X z 200 3 [x0] (.int (I u v.toNatClampNeg) :: st) cu (K, I, R, L, sz, ex) Q) := by
  rw [x200_2]
  rfl
theorem v200_3 {z : P0} {st : List Value} {cu : Nat × Nat} {Q : Res → Mem → Prop} {σ : Mem} {u : Nat} : X z 200 3 [some (.ref u)] (st) cu σ Q = (X z 200 4 [some (.ref u)] (.ref u :: st) cu σ Q) := by
  rw [x200_3]
  rfl
theorem v200_4 {z : P0} {st : List Value} {cu : Nat × Nat} {Q : Res → Mem → Prop} {σ : Mem} {x0 : Option Value} : X z 200 4 [x0] (st) cu σ Q = (X z 200 6 [x0] (.int (nI 7) :: st) cu σ Q) := by
  rw [x200_4]
  rfl
theorem v200_6 {z : P0} {st : List Value} {cu : Nat × Nat} {Q : Res → Mem → Prop} {K : Nat → Nat × Nat} {I : Nat → Nat → Int32} {R : Nat → Nat → Option Nat} {L : Nat → Nat → Int64} {sz : Nat} {ex : Bool} {x0 : Option Value} {u : Nat} {v : Int32} : X z 200 6 [x0] (.int v :: .ref u :: st) cu (K, I, R, L, sz, ex) Q = (((K u).1 = 20 ∨ (K u).1 = 50) ∧ vp_in v (K u).2 ∧ X z 200 7 [x0] (.int (I u v.toNatClampNeg) :: st) cu (K, I, R, L, sz, ex) Q) := by
  rw [x200_6]
  rfl
theorem v200_7 {z : P0} {st : List Value} {cu : Nat × Nat} {Q : Res → Mem → Prop} {σ : Mem} {x0 : Option Value} {u v : Int32} : X z 200 7 [x0] (.int v :: .int u :: st) cu σ Q = (if v < u then X z 200 10 [x0] (st) cu σ Q else X z 200 31 [x0] (st) cu σ Q) := by
  rw [x200_7]
  obtain ⟨K, I, R, L, sz, ex⟩ := σ
  exact br_ge
theorem v200_10 {z : P0} {st : List Value} {cu : Nat × Nat} {Q : Res → Mem → Prop} {σ : Mem} {u : Nat} : X z 200 10 [some (.ref u)] (st) cu σ Q = (X z 200 11 [some (.ref u)] (.ref u :: st) cu σ Q) := by
  rw [x200_10]
  rfl
theorem v200_11 {z : P0} {st : List Value} {cu : Nat × Nat} {Q : Res → Mem → Prop} {σ : Mem} {u : Nat} : X z 200 11 [some (.ref u)] (st) cu σ Q = (X z 200 12 [some (.ref u)] (.ref u :: st) cu σ Q) := by
  rw [x200_11]
  rfl
theorem v200_12 {z : P0} {st : List Value} {cu : Nat × Nat} {Q : Res → Mem → Prop} {σ : Mem} {x0 : Option Value} : X z 200 12 [x0] (st) cu σ Q = (X z 200 14 [x0] (.int (nI 7) :: st) cu σ Q) := by
  rw [x200_12]
  rfl
theorem v200_14 {z : P0} {st : List Value} {cu : Nat × Nat} {Q : Res → Mem → Prop} {K : Nat → Nat × Nat} {I : Nat → Nat → Int32} {R : Nat → Nat → Option Nat} {L : Nat → Nat → Int64} {sz : Nat} {ex : Bool} {x0 : Option Value} {u : Nat} {v : Int32} : X z 200 14 [x0] (.int v :: .ref u :: st) cu (K, I, R, L, sz, ex) Q = (((K u).1 = 20 ∨ (K u).1 = 50) ∧ vp_in v (K u).2 ∧ X z 200 15 [x0] (.int (I u v.toNatClampNeg) :: st) cu (K, I, R, L, sz, ex) Q) := by
  rw [x200_14]
  rfl
theorem u200_15 {z : P0} {ls : Lcs} {st : List Value} {K : Nat → Nat × Nat} {I : Nat → Nat → Int32} {R : Nat → Nat → Option Nat} {L : Nat → Nat → Int64} {sz : Nat} {ex : Bool} {Q : Res → Mem → Prop} {a0 : Nat} {a1 : Int32} : X z 200 15 ls (.int a1 :: .ref a0 :: st) (0, 0) (K, I, R, L, sz, ex) Q = (wsum st ≤ 8 ∧ X z 199 0 [some (.ref a0), some (.int a1)] [] (0, 0) (K, I, R, L, sz, ex) (aftr (X z) mT 200 15 ls st (0, 0) Q)) := v200_15 (c := 0) (n := 0)
theorem v200_18 {z : P0} {st : List Value} {cu : Nat × Nat} {Q : Res → Mem → Prop} {σ : Mem} {u : Nat} : X z 200 18 [some (.ref u)] (st) cu σ Q = (X z 200 19 [some (.ref u)] (.ref u :: st) cu σ Q) := by
  rw [x200_18]
  rfl
theorem v200_19 {z : P0} {st : List Value} {cu : Nat × Nat} {Q : Res → Mem → Prop} {σ : Mem} {x0 : Option Value} : X z 200 19 [x0] (st) cu σ Q = (X z 200 20 [x0] (.int (nI 1) :: st) cu σ Q) := by
  rw [x200_19]
  rfl
theorem v200_20 {z : P0} {st : List Value} {cu : Nat × Nat} {Q : Res → Mem → Prop} {σ : Mem} {x0 : Option Value} {u : Int32} {v : Nat} : X z 200 20 [x0] (.int u :: .ref v :: st) cu σ Q = (X z 200 21 [x0] (.int u :: .ref v :: .int u :: .ref v :: st) cu σ Q) := by
  rw [x200_20]
  rfl
theorem v200_21 {z : P0} {st : List Value} {cu : Nat × Nat} {Q : Res → Mem → Prop} {K : Nat → Nat × Nat} {I : Nat → Nat → Int32} {R : Nat → Nat → Option Nat} {L : Nat → Nat → Int64} {sz : Nat} {ex : Bool} {x0 : Option Value} {u : Nat} {v : Int32} : X z 200 21 [x0] (.int v :: .ref u :: st) cu (K, I, R, L, sz, ex) Q = (((K u).1 = 20 ∨ (K u).1 = 50) ∧ vp_in v (K u).2 ∧ X z 200 22 [x0] (.int (I u v.toNatClampNeg) :: st) cu (K, I, R, L, sz, ex) Q) := by
  rw [x200_21]
  rfl
theorem v200_22 {z : P0} {st : List Value} {cu : Nat × Nat} {Q : Res → Mem → Prop} {σ : Mem} {u : Nat} : X z 200 22 [some (.ref u)] (st) cu σ Q = (X z 200 23 [some (.ref u)] (.ref u :: st) cu σ Q) := by
  rw [x200_22]
  rfl
theorem v200_23 {z : P0} {st : List Value} {cu : Nat × Nat} {Q : Res → Mem → Prop} {σ : Mem} {x0 : Option Value} : X z 200 23 [x0] (st) cu σ Q = (X z 200 25 [x0] (.int (nI 7) :: st) cu σ Q) := by
  rw [x200_23]
  rfl
theorem v200_25 {z : P0} {st : List Value} {cu : Nat × Nat} {Q : Res → Mem → Prop} {K : Nat → Nat × Nat} {I : Nat → Nat → Int32} {R : Nat → Nat → Option Nat} {L : Nat → Nat → Int64} {sz : Nat} {ex : Bool} {x0 : Option Value} {u : Nat} {v : Int32} : X z 200 25 [x0] (.int v :: .ref u :: st) cu (K, I, R, L, sz, ex) Q = (((K u).1 = 20 ∨ (K u).1 = 50) ∧ vp_in v (K u).2 ∧ X z 200 26 [x0] (.int (I u v.toNatClampNeg) :: st) cu (K, I, R, L, sz, ex) Q) := by
  rw [x200_25]
  rfl
theorem v200_26 {z : P0} {st : List Value} {cu : Nat × Nat} {Q : Res → Mem → Prop} {σ : Mem} {x0 : Option Value} {u v : Int32} : X z 200 26 [x0] (.int v :: .int u :: st) cu σ Q = (X z 200 27 [x0] (.int (u - v) :: st) cu σ Q) := by
  rw [x200_26]
  rfl
theorem v200_27 {z : P0} {st : List Value} {cu : Nat × Nat} {Q : Res → Mem → Prop} {K : Nat → Nat × Nat} {I : Nat → Nat → Int32} {R : Nat → Nat → Option Nat} {L : Nat → Nat → Int64} {sz : Nat} {ex : Bool} {x0 : Option Value} {u : Nat} {j v : Int32} : X z 200 27 [x0] (.int v :: .int j :: .ref u :: st) cu (K, I, R, L, sz, ex) Q = ((K u).1 = 20 ∧ vp_in j (K u).2 ∧ X z 200 28 [x0] (st) cu (K, up2 I u j.toNatClampNeg v, R, L, sz, ex) Q) := by
  rw [x200_27]
  rfl
theorem v200_28 {z : P0} {st : List Value} {cu : Nat × Nat} {Q : Res → Mem → Prop} {σ : Mem} {x0 : Option Value} : X z 200 28 [x0] (st) cu σ Q = (X z 200 0 [x0] (st) cu σ Q) := by
  rw [x200_28]
  rfl
theorem v200_31 {z : P0} {st : List Value} {cu : Nat × Nat} {Q : Res → Mem → Prop} {σ : Mem} {u : Nat} : X z 200 31 [some (.ref u)] (st) cu σ Q = (X z 200 32 [some (.ref u)] (.ref u :: st) cu σ Q) := by
  rw [x200_31]
  rfl
theorem v200_32 {z : P0} {st : List Value} {cu : Nat × Nat} {Q : Res → Mem → Prop} {σ : Mem} {u : Nat} : X z 200 32 [some (.ref u)] (st) cu σ Q = (X z 200 33 [some (.ref u)] (.ref u :: st) cu σ Q) := by
  rw [x200_32]
  rfl
theorem v200_33 {z : P0} {st : List Value} {cu : Nat × Nat} {Q : Res → Mem → Prop} {σ : Mem} {x0 : Option Value} : X z 200 33 [x0] (st) cu σ Q = (X z 200 34 [x0] (.int (nI 1) :: st) cu σ Q) := by
  rw [x200_33]
  rfl
theorem v200_34 {z : P0} {st : List Value} {cu : Nat × Nat} {Q : Res → Mem → Prop} {K : Nat → Nat × Nat} {I : Nat → Nat → Int32} {R : Nat → Nat → Option Nat} {L : Nat → Nat → Int64} {sz : Nat} {ex : Bool} {x0 : Option Value} {u : Nat} {v : Int32} : X z 200 34 [x0] (.int v :: .ref u :: st) cu (K, I, R, L, sz, ex) Q = (((K u).1 = 20 ∨ (K u).1 = 50) ∧ vp_in v (K u).2 ∧ X z 200 35 [x0] (.int (I u v.toNatClampNeg) :: st) cu (K, I, R, L, sz, ex) Q) := by
  rw [x200_34]
  rfl
theorem u200_35 {z : P0} {ls : Lcs} {st : List Value} {K : Nat → Nat × Nat} {I : Nat → Nat → Int32} {R : Nat → Nat → Option Nat} {L : Nat → Nat → Int64} {sz : Nat} {ex : Bool} {Q : Res → Mem → Prop} {a0 : Nat} {a1 : Int32} : X z 200 35 ls (.int a1 :: .ref a0 :: st) (0, 0) (K, I, R, L, sz, ex) Q = (wsum st ≤ 8 ∧ X z 199 0 [some (.ref a0), some (.int a1)] [] (0, 0) (K, I, R, L, sz, ex) (aftr (X z) mT 200 35 ls st (0, 0) Q)) := v200_35 (c := 0) (n := 0)
theorem v200_38 {z : P0} {st : List Value} {cu : Nat × Nat} {Q : Res → Mem → Prop} {σ : Mem} {u : Nat} : X z 200 38 [some (.ref u)] (st) cu σ Q = (X z 200 39 [some (.ref u)] (.ref u :: st) cu σ Q) := by
  rw [x200_38]
  rfl
theorem v200_39 {z : P0} {st : List Value} {cu : Nat × Nat} {Q : Res → Mem → Prop} {σ : Mem} {x0 : Option Value} : X z 200 39 [x0] (st) cu σ Q = (X z 200 40 [x0] (.int (nI 1) :: st) cu σ Q) := by
  rw [x200_39]
  rfl
theorem v200_40 {z : P0} {st : List Value} {cu : Nat × Nat} {Q : Res → Mem → Prop} {σ : Mem} {x0 : Option Value} : X z 200 40 [x0] (st) cu σ Q = (X z 200 41 [x0] (.int (nI 0) :: st) cu σ Q) := by
  rw [x200_40]
  rfl
theorem v200_41 {z : P0} {st : List Value} {cu : Nat × Nat} {Q : Res → Mem → Prop} {K : Nat → Nat × Nat} {I : Nat → Nat → Int32} {R : Nat → Nat → Option Nat} {L : Nat → Nat → Int64} {sz : Nat} {ex : Bool} {x0 : Option Value} {u : Nat} {j v : Int32} : X z 200 41 [x0] (.int v :: .int j :: .ref u :: st) cu (K, I, R, L, sz, ex) Q = ((K u).1 = 20 ∧ vp_in j (K u).2 ∧ X z 200 42 [x0] (st) cu (K, up2 I u j.toNatClampNeg v, R, L, sz, ex) Q) := by
  rw [x200_41]
  rfl
theorem v200_42 {z : P0} {cu : Nat × Nat} {Q : Res → Mem → Prop} {σ : Mem} {x0 : Option Value} : X z 200 42 [x0] ([]) cu σ Q = (Q (.inl none) σ) := by
  rw [x200_42]
  rfl
theorem v201_0 {z : P0} {st : List Value} {cu : Nat × Nat} {Q : Res → Mem → Prop} {σ : Mem} {x1 : Option Value} {u : Nat} : X z 201 0 [some (.ref u), x1] (st) cu σ Q = (X z 201 1 [some (.ref u), x1] (.ref u :: st) cu σ Q) := by
  rw [x201_0]
  rfl
theorem v201_1 {z : P0} {st : List Value} {cu : Nat × Nat} {Q : Res → Mem → Prop} {σ : Mem} {x0 x1 : Option Value} : X z 201 1 [x0, x1] (st) cu σ Q = (X z 201 2 [x0, x1] (.int (nI 4) :: st) cu σ Q) := by
  rw [x201_1]
  rfl
theorem v201_2 {z : P0} {st : List Value} {cu : Nat × Nat} {Q : Res → Mem → Prop} {K : Nat → Nat × Nat} {I : Nat → Nat → Int32} {R : Nat → Nat → Option Nat} {L : Nat → Nat → Int64} {sz : Nat} {ex : Bool} {x0 x1 : Option Value} {u : Nat} {v : Int32} : X z 201 2 [x0, x1] (.int v :: .ref u :: st) cu (K, I, R, L, sz, ex) Q = (((K u).1 = 20 ∨ (K u).1 = 50) ∧ vp_in v (K u).2 ∧ X z 201 3 [x0, x1] (.int (I u v.toNatClampNeg) :: st) cu (K, I, R, L, sz, ex) Q) := by
  rw [x201_2]
  rfl
theorem v201_3 {z : P0} {st : List Value} {cu : Nat × Nat} {Q : Res → Mem → Prop} {σ : Mem} {x1 : Option Value} {u : Nat} : X z 201 3 [some (.ref u), x1] (st) cu σ Q = (X z 201 4 [some (.ref u), x1] (.ref u :: st) cu σ Q) := by
  rw [x201_3]
  rfl
theorem v201_4 {z : P0} {st : List Value} {cu : Nat × Nat} {Q : Res → Mem → Prop} {σ : Mem} {x0 x1 : Option Value} : X z 201 4 [x0, x1] (st) cu σ Q = (X z 201 5 [x0, x1] (.int (nI 5) :: st) cu σ Q) := by
  rw [x201_4]
  rfl
theorem v201_5 {z : P0} {st : List Value} {cu : Nat × Nat} {Q : Res → Mem → Prop} {K : Nat → Nat × Nat} {I : Nat → Nat → Int32} {R : Nat → Nat → Option Nat} {L : Nat → Nat → Int64} {sz : Nat} {ex : Bool} {x0 x1 : Option Value} {u : Nat} {v : Int32} : X z 201 5 [x0, x1] (.int v :: .ref u :: st) cu (K, I, R, L, sz, ex) Q = (((K u).1 = 20 ∨ (K u).1 = 50) ∧ vp_in v (K u).2 ∧ X z 201 6 [x0, x1] (.int (I u v.toNatClampNeg) :: st) cu (K, I, R, L, sz, ex) Q) := by
  rw [x201_5]
  rfl
theorem v201_6 {z : P0} {st : List Value} {cu : Nat × Nat} {Q : Res → Mem → Prop} {σ : Mem} {x0 x1 : Option Value} {u v : Int32} : X z 201 6 [x0, x1] (.int v :: .int u :: st) cu σ Q = (X z 201 7 [x0, x1] (.int (u - v) :: st) cu σ Q) := by
  rw [x201_6]
  rfl
theorem v201_7 {z : P0} {st : List Value} {cu : Nat × Nat} {Q : Res → Mem → Prop} {σ : Mem} {x0 x1 : Option Value} {u : Int32} : X z 201 7 [x0, x1] (.int u :: st) cu σ Q = (cat2 x0 = false ∧ X z 201 8 [x0, some (.int u)] (st) cu σ Q) := by
  rw [x201_7]
  obtain ⟨K, I, R, L, sz, ex⟩ := σ
  exact i_istore_n.trans sl_1
theorem v201_8 {z : P0} {st : List Value} {cu : Nat × Nat} {Q : Res → Mem → Prop} {σ : Mem} {x1 : Option Value} {u : Nat} : X z 201 8 [some (.ref u), x1] (st) cu σ Q = (X z 201 9 [some (.ref u), x1] (.ref u :: st) cu σ Q) := by
  rw [x201_8]
  rfl
theorem v201_9 {z : P0} {st : List Value} {cu : Nat × Nat} {Q : Res → Mem → Prop} {σ : Mem} {x0 x1 : Option Value} : X z 201 9 [x0, x1] (st) cu σ Q = (X z 201 11 [x0, x1] (.int (nI 6) :: st) cu σ Q) := by
  rw [x201_9]
  rfl
theorem v201_11 {z : P0} {st : List Value} {cu : Nat × Nat} {Q : Res → Mem → Prop} {σ : Mem} {x0 x1 : Option Value} {u : Int32} {v : Nat} : X z 201 11 [x0, x1] (.int u :: .ref v :: st) cu σ Q = (X z 201 12 [x0, x1] (.int u :: .ref v :: .int u :: .ref v :: st) cu σ Q) := by
  rw [x201_11]
  rfl
theorem v201_12 {z : P0} {st : List Value} {cu : Nat × Nat} {Q : Res → Mem → Prop} {K : Nat → Nat × Nat} {I : Nat → Nat → Int32} {R : Nat → Nat → Option Nat} {L : Nat → Nat → Int64} {sz : Nat} {ex : Bool} {x0 x1 : Option Value} {u : Nat} {v : Int32} : X z 201 12 [x0, x1] (.int v :: .ref u :: st) cu (K, I, R, L, sz, ex) Q = (((K u).1 = 20 ∨ (K u).1 = 50) ∧ vp_in v (K u).2 ∧ X z 201 13 [x0, x1] (.int (I u v.toNatClampNeg) :: st) cu (K, I, R, L, sz, ex) Q) := by
  rw [x201_12]
  rfl
theorem v201_13 {z : P0} {st : List Value} {cu : Nat × Nat} {Q : Res → Mem → Prop} {σ : Mem} {x0 : Option Value} {u : Int32} : X z 201 13 [x0, some (.int u)] (st) cu σ Q = (X z 201 14 [x0, some (.int u)] (.int u :: st) cu σ Q) := by
  rw [x201_13]
  rfl
theorem v201_14 {z : P0} {st : List Value} {cu : Nat × Nat} {Q : Res → Mem → Prop} {σ : Mem} {x1 : Option Value} {u : Nat} : X z 201 14 [some (.ref u), x1] (st) cu σ Q = (X z 201 15 [some (.ref u), x1] (.ref u :: st) cu σ Q) := by
  rw [x201_14]
  rfl
theorem v201_15 {z : P0} {st : List Value} {cu : Nat × Nat} {Q : Res → Mem → Prop} {σ : Mem} {x0 x1 : Option Value} : X z 201 15 [x0, x1] (st) cu σ Q = (X z 201 17 [x0, x1] (.int (nI 8) :: st) cu σ Q) := by
  rw [x201_15]
  rfl
theorem v201_17 {z : P0} {st : List Value} {cu : Nat × Nat} {Q : Res → Mem → Prop} {K : Nat → Nat × Nat} {I : Nat → Nat → Int32} {R : Nat → Nat → Option Nat} {L : Nat → Nat → Int64} {sz : Nat} {ex : Bool} {x0 x1 : Option Value} {u : Nat} {v : Int32} : X z 201 17 [x0, x1] (.int v :: .ref u :: st) cu (K, I, R, L, sz, ex) Q = (((K u).1 = 20 ∨ (K u).1 = 50) ∧ vp_in v (K u).2 ∧ X z 201 18 [x0, x1] (.int (I u v.toNatClampNeg) :: st) cu (K, I, R, L, sz, ex) Q) := by
  rw [x201_17]
  rfl
theorem v201_18 {z : P0} {st : List Value} {cu : Nat × Nat} {Q : Res → Mem → Prop} {σ : Mem} {x0 x1 : Option Value} {u v : Int32} : X z 201 18 [x0, x1] (.int v :: .int u :: st) cu σ Q = (¬ v = 0 ∧ X z 201 19 [x0, x1] (.int (u / v) :: st) cu σ Q) := by
  rw [x201_18]
  rfl
theorem v201_19 {z : P0} {st : List Value} {cu : Nat × Nat} {Q : Res → Mem → Prop} {σ : Mem} {x0 : Option Value} {u : Int32} : X z 201 19 [x0, some (.int u)] (st) cu σ Q = (X z 201 20 [x0, some (.int u)] (.int u :: st) cu σ Q) := by
  rw [x201_19]
  rfl
theorem v201_20 {z : P0} {st : List Value} {cu : Nat × Nat} {Q : Res → Mem → Prop} {σ : Mem} {x1 : Option Value} {u : Nat} : X z 201 20 [some (.ref u), x1] (st) cu σ Q = (X z 201 21 [some (.ref u), x1] (.ref u :: st) cu σ Q) := by
  rw [x201_20]
  rfl
theorem v201_21 {z : P0} {st : List Value} {cu : Nat × Nat} {Q : Res → Mem → Prop} {σ : Mem} {x0 x1 : Option Value} : X z 201 21 [x0, x1] (st) cu σ Q = (X z 201 23 [x0, x1] (.int (nI 8) :: st) cu σ Q) := by
  rw [x201_21]
  rfl
theorem v201_23 {z : P0} {st : List Value} {cu : Nat × Nat} {Q : Res → Mem → Prop} {K : Nat → Nat × Nat} {I : Nat → Nat → Int32} {R : Nat → Nat → Option Nat} {L : Nat → Nat → Int64} {sz : Nat} {ex : Bool} {x0 x1 : Option Value} {u : Nat} {v : Int32} : X z 201 23 [x0, x1] (.int v :: .ref u :: st) cu (K, I, R, L, sz, ex) Q = (((K u).1 = 20 ∨ (K u).1 = 50) ∧ vp_in v (K u).2 ∧ X z 201 24 [x0, x1] (.int (I u v.toNatClampNeg) :: st) cu (K, I, R, L, sz, ex) Q) := by
  rw [x201_23]
  rfl
theorem v201_24 {z : P0} {st : List Value} {cu : Nat × Nat} {Q : Res → Mem → Prop} {σ : Mem} {x0 x1 : Option Value} {u v : Int32} : X z 201 24 [x0, x1] (.int v :: .int u :: st) cu σ Q = (¬ v = 0 ∧ X z 201 25 [x0, x1] (.int (u - u / v * v) :: st) cu σ Q) := by
  rw [x201_24]
  rfl
theorem v201_25 {z : P0} {st : List Value} {cu : Nat × Nat} {Q : Res → Mem → Prop} {σ : Mem} {x0 x1 : Option Value} {u : Int32} : X z 201 25 [x0, x1] (.int u :: st) cu σ Q = (if u = nI 0 then X z 201 28 [x0, x1] (st) cu σ Q else X z 201 32 [x0, x1] (st) cu σ Q) := by
  rw [x201_25]
  rw [nI_0]
  obtain ⟨K, I, R, L, sz, ex⟩ := σ
  exact br_ne
theorem v201_28 {z : P0} {st : List Value} {cu : Nat × Nat} {Q : Res → Mem → Prop} {σ : Mem} {x0 x1 : Option Value} : X z 201 28 [x0, x1] (st) cu σ Q = (X z 201 29 [x0, x1] (.int (nI 0) :: st) cu σ Q) := by
  rw [x201_28]
  rfl
theorem v201_29 {z : P0} {st : List Value} {cu : Nat × Nat} {Q : Res → Mem → Prop} {σ : Mem} {x0 x1 : Option Value} : X z 201 29 [x0, x1] (st) cu σ Q = (X z 201 33 [x0, x1] (st) cu σ Q) := by
  rw [x201_29]
  rfl
theorem v201_32 {z : P0} {st : List Value} {cu : Nat × Nat} {Q : Res → Mem → Prop} {σ : Mem} {x0 x1 : Option Value} : X z 201 32 [x0, x1] (st) cu σ Q = (X z 201 33 [x0, x1] (.int (nI 1) :: st) cu σ Q) := by
  rw [x201_32]
  rfl
theorem v201_33 {z : P0} {st : List Value} {cu : Nat × Nat} {Q : Res → Mem → Prop} {σ : Mem} {x0 x1 : Option Value} {u v : Int32} : X z 201 33 [x0, x1] (.int v :: .int u :: st) cu σ Q = (X z 201 34 [x0, x1] (.int (u + v) :: st) cu σ Q) := by
  rw [x201_33]
  rfl
theorem v201_34 {z : P0} {st : List Value} {cu : Nat × Nat} {Q : Res → Mem → Prop} {σ : Mem} {x0 x1 : Option Value} {u v : Int32} : X z 201 34 [x0, x1] (.int v :: .int u :: st) cu σ Q = (X z 201 35 [x0, x1] (.int (u + v) :: st) cu σ Q) := by
  rw [x201_34]
  rfl
theorem v201_35 {z : P0} {st : List Value} {cu : Nat × Nat} {Q : Res → Mem → Prop} {K : Nat → Nat × Nat} {I : Nat → Nat → Int32} {R : Nat → Nat → Option Nat} {L : Nat → Nat → Int64} {sz : Nat} {ex : Bool} {x0 x1 : Option Value} {u : Nat} {j v : Int32} : X z 201 35 [x0, x1] (.int v :: .int j :: .ref u :: st) cu (K, I, R, L, sz, ex) Q = ((K u).1 = 20 ∧ vp_in j (K u).2 ∧ X z 201 36 [x0, x1] (st) cu (K, up2 I u j.toNatClampNeg v, R, L, sz, ex) Q) := by
  rw [x201_35]
  rfl
theorem v201_36 {z : P0} {st : List Value} {cu : Nat × Nat} {Q : Res → Mem → Prop} {σ : Mem} {x1 : Option Value} {u : Nat} : X z 201 36 [some (.ref u), x1] (st) cu σ Q = (X z 201 37 [some (.ref u), x1] (.ref u :: st) cu σ Q) := by
  rw [x201_36]
  rfl
theorem v201_37 {z : P0} {st : List Value} {cu : Nat × Nat} {Q : Res → Mem → Prop} {σ : Mem} {x0 x1 : Option Value} : X z 201 37 [x0, x1] (st) cu σ Q = (X z 201 38 [x0, x1] (.int (nI 5) :: st) cu σ Q) := by
  rw [x201_37]
  rfl
theorem v201_38 {z : P0} {st : List Value} {cu : Nat × Nat} {Q : Res → Mem → Prop} {σ : Mem} {x1 : Option Value} {u : Nat} : X z 201 38 [some (.ref u), x1] (st) cu σ Q = (X z 201 39 [some (.ref u), x1] (.ref u :: st) cu σ Q) := by
  rw [x201_38]
  rfl
theorem v201_39 {z : P0} {st : List Value} {cu : Nat × Nat} {Q : Res → Mem → Prop} {σ : Mem} {x0 x1 : Option Value} : X z 201 39 [x0, x1] (st) cu σ Q = (X z 201 40 [x0, x1] (.int (nI 4) :: st) cu σ Q) := by
  rw [x201_39]
  rfl
theorem v201_40 {z : P0} {st : List Value} {cu : Nat × Nat} {Q : Res → Mem → Prop} {K : Nat → Nat × Nat} {I : Nat → Nat → Int32} {R : Nat → Nat → Option Nat} {L : Nat → Nat → Int64} {sz : Nat} {ex : Bool} {x0 x1 : Option Value} {u : Nat} {v : Int32} : X z 201 40 [x0, x1] (.int v :: .ref u :: st) cu (K, I, R, L, sz, ex) Q = (((K u).1 = 20 ∨ (K u).1 = 50) ∧ vp_in v (K u).2 ∧ X z 201 41 [x0, x1] (.int (I u v.toNatClampNeg) :: st) cu (K, I, R, L, sz, ex) Q) := by
  rw [x201_40]
  rfl
theorem v201_41 {z : P0} {st : List Value} {cu : Nat × Nat} {Q : Res → Mem → Prop} {K : Nat → Nat × Nat} {I : Nat → Nat → Int32} {R : Nat → Nat → Option Nat} {L : Nat → Nat → Int64} {sz : Nat} {ex : Bool} {x0 x1 : Option Value} {u : Nat} {j v : Int32} : X z 201 41 [x0, x1] (.int v :: .int j :: .ref u :: st) cu (K, I, R, L, sz, ex) Q = ((K u).1 = 20 ∧ vp_in j (K u).2 ∧ X z 201 42 [x0, x1] (st) cu (K, up2 I u j.toNatClampNeg v, R, L, sz, ex) Q) := by
  rw [x201_41]
  rfl
theorem v201_42 {z : P0} {cu : Nat × Nat} {Q : Res → Mem → Prop} {σ : Mem} {x0 x1 : Option Value} : X z 201 42 [x0, x1] ([]) cu σ Q = (Q (.inl none) σ) := by
  rw [x201_42]
  rfl
theorem v202_0 {z : P0} {st : List Value} {cu : Nat × Nat} {Q : Res → Mem → Prop} {σ : Mem} {x1 : Option Value} {u : Nat} : X z 202 0 [some (.ref u), x1] (st) cu σ Q = (X z 202 1 [some (.ref u), x1] (.ref u :: st) cu σ Q) := by
  rw [x202_0]
  rfl
theorem v202_1 {z : P0} {st : List Value} {cu : Nat × Nat} {Q : Res → Mem → Prop} {σ : Mem} {x0 x1 : Option Value} : X z 202 1 [x0, x1] (st) cu σ Q = (X z 202 2 [x0, x1] (.int (nI 0) :: st) cu σ Q) := by
  rw [x202_1]
  rfl
theorem v202_2 {z : P0} {st : List Value} {cu : Nat × Nat} {Q : Res → Mem → Prop} {σ : Mem} {x0 x1 : Option Value} {u : Int32} {v : Nat} : X z 202 2 [x0, x1] (.int u :: .ref v :: st) cu σ Q = (X z 202 3 [x0, x1] (.int u :: .ref v :: .int u :: .ref v :: st) cu σ Q) := by
  rw [x202_2]
  rfl
theorem v202_3 {z : P0} {st : List Value} {cu : Nat × Nat} {Q : Res → Mem → Prop} {K : Nat → Nat × Nat} {I : Nat → Nat → Int32} {R : Nat → Nat → Option Nat} {L : Nat → Nat → Int64} {sz : Nat} {ex : Bool} {x0 x1 : Option Value} {u : Nat} {v : Int32} : X z 202 3 [x0, x1] (.int v :: .ref u :: st) cu (K, I, R, L, sz, ex) Q = (((K u).1 = 20 ∨ (K u).1 = 50) ∧ vp_in v (K u).2 ∧ X z 202 4 [x0, x1] (.int (I u v.toNatClampNeg) :: st) cu (K, I, R, L, sz, ex) Q) := by
  rw [x202_3]
  rfl
theorem v202_4 {z : P0} {st : List Value} {cu : Nat × Nat} {Q : Res → Mem → Prop} {σ : Mem} {x0 x1 : Option Value} : X z 202 4 [x0, x1] (st) cu σ Q = (X z 202 5 [x0, x1] (.int (nI 1) :: st) cu σ Q) := by
  rw [x202_4]
  rfl
theorem v202_5 {z : P0} {st : List Value} {cu : Nat × Nat} {Q : Res → Mem → Prop} {σ : Mem} {x0 x1 : Option Value} {u v : Int32} : X z 202 5 [x0, x1] (.int v :: .int u :: st) cu σ Q = (X z 202 6 [x0, x1] (.int (u + v) :: st) cu σ Q) := by
  rw [x202_5]
  rfl
theorem v202_6 {z : P0} {st : List Value} {cu : Nat × Nat} {Q : Res → Mem → Prop} {K : Nat → Nat × Nat} {I : Nat → Nat → Int32} {R : Nat → Nat → Option Nat} {L : Nat → Nat → Int64} {sz : Nat} {ex : Bool} {x0 x1 : Option Value} {u : Nat} {j v : Int32} : X z 202 6 [x0, x1] (.int v :: .int j :: .ref u :: st) cu (K, I, R, L, sz, ex) Q = ((K u).1 = 20 ∧ vp_in j (K u).2 ∧ X z 202 7 [x0, x1] (st) cu (K, up2 I u j.toNatClampNeg v, R, L, sz, ex) Q) := by
  rw [x202_6]
  rfl
theorem v202_7 {z : P0} {st : List Value} {cu : Nat × Nat} {Q : Res → Mem → Prop} {σ : Mem} {x1 : Option Value} {u : Nat} : X z 202 7 [some (.ref u), x1] (st) cu σ Q = (X z 202 8 [some (.ref u), x1] (.ref u :: st) cu σ Q) := by
  rw [x202_7]
  rfl
theorem v202_8 {z : P0} {st : List Value} {cu : Nat × Nat} {Q : Res → Mem → Prop} {σ : Mem} {x0 x1 : Option Value} : X z 202 8 [x0, x1] (st) cu σ Q = (X z 202 10 [x0, x1] (.int (nI 9) :: st) cu σ Q) := by
  rw [x202_8]
  rfl
theorem v202_10 {z : P0} {st : List Value} {cu : Nat × Nat} {Q : Res → Mem → Prop} {σ : Mem} {x0 x1 : Option Value} : X z 202 10 [x0, x1] (st) cu σ Q = (X z 202 12 [x0, x1] (.int (nI 31) :: st) cu σ Q) := by
  rw [x202_10]
  rfl
theorem v202_12 {z : P0} {st : List Value} {cu : Nat × Nat} {Q : Res → Mem → Prop} {σ : Mem} {x1 : Option Value} {u : Nat} : X z 202 12 [some (.ref u), x1] (st) cu σ Q = (X z 202 13 [some (.ref u), x1] (.ref u :: st) cu σ Q) := by
  rw [x202_12]
  rfl
theorem v202_13 {z : P0} {st : List Value} {cu : Nat × Nat} {Q : Res → Mem → Prop} {σ : Mem} {x0 x1 : Option Value} : X z 202 13 [x0, x1] (st) cu σ Q = (X z 202 15 [x0, x1] (.int (nI 9) :: st) cu σ Q) := by
  rw [x202_13]
  rfl
theorem v202_15 {z : P0} {st : List Value} {cu : Nat × Nat} {Q : Res → Mem → Prop} {K : Nat → Nat × Nat} {I : Nat → Nat → Int32} {R : Nat → Nat → Option Nat} {L : Nat → Nat → Int64} {sz : Nat} {ex : Bool} {x0 x1 : Option Value} {u : Nat} {v : Int32} : X z 202 15 [x0, x1] (.int v :: .ref u :: st) cu (K, I, R, L, sz, ex) Q = (((K u).1 = 20 ∨ (K u).1 = 50) ∧ vp_in v (K u).2 ∧ X z 202 16 [x0, x1] (.int (I u v.toNatClampNeg) :: st) cu (K, I, R, L, sz, ex) Q) := by
  rw [x202_15]
  rfl
theorem v202_16 {z : P0} {st : List Value} {cu : Nat × Nat} {Q : Res → Mem → Prop} {σ : Mem} {x0 x1 : Option Value} {u v : Int32} : X z 202 16 [x0, x1] (.int v :: .int u :: st) cu σ Q = (X z 202 17 [x0, x1] (.int (u * v) :: st) cu σ Q) := by
  rw [x202_16]
  rfl
theorem v202_17 {z : P0} {st : List Value} {cu : Nat × Nat} {Q : Res → Mem → Prop} {σ : Mem} {x0 : Option Value} {u : Int32} : X z 202 17 [x0, some (.int u)] (st) cu σ Q = (X z 202 18 [x0, some (.int u)] (.int u :: st) cu σ Q) := by
  rw [x202_17]
  rfl
theorem v202_18 {z : P0} {st : List Value} {cu : Nat × Nat} {Q : Res → Mem → Prop} {σ : Mem} {x0 x1 : Option Value} {u v : Int32} : X z 202 18 [x0, x1] (.int v :: .int u :: st) cu σ Q = (X z 202 19 [x0, x1] (.int (u + v) :: st) cu σ Q) := by
  rw [x202_18]
  rfl
theorem v202_19 {z : P0} {st : List Value} {cu : Nat × Nat} {Q : Res → Mem → Prop} {K : Nat → Nat × Nat} {I : Nat → Nat → Int32} {R : Nat → Nat → Option Nat} {L : Nat → Nat → Int64} {sz : Nat} {ex : Bool} {x0 x1 : Option Value} {u : Nat} {j v : Int32} : X z 202 19 [x0, x1] (.int v :: .int j :: .ref u :: st) cu (K, I, R, L, sz, ex) Q = ((K u).1 = 20 ∧ vp_in j (K u).2 ∧ X z 202 20 [x0, x1] (st) cu (K, up2 I u j.toNatClampNeg v, R, L, sz, ex) Q) := by
  rw [x202_19]
  rfl
theorem v202_20 {z : P0} {st : List Value} {cu : Nat × Nat} {Q : Res → Mem → Prop} {σ : Mem} {x0 : Option Value} {u : Int32} : X z 202 20 [x0, some (.int u)] (st) cu σ Q = (X z 202 21 [x0, some (.int u)] (.int u :: st) cu σ Q) := by
  rw [x202_20]
  rfl
theorem v202_21 {z : P0} {st : List Value} {cu : Nat × Nat} {Q : Res → Mem → Prop} {σ : Mem} {x0 x1 : Option Value} : X z 202 21 [x0, x1] (st) cu σ Q = (X z 202 23 [x0, x1] (.int (nI 95) :: st) cu σ Q) := by
  rw [x202_21]
  rfl
theorem v202_23 {z : P0} {st : List Value} {cu : Nat × Nat} {Q : Res → Mem → Prop} {σ : Mem} {x0 x1 : Option Value} {u v : Int32} : X z 202 23 [x0, x1] (.int v :: .int u :: st) cu σ Q = (if u = v then X z 202 46 [x0, x1] (st) cu σ Q else X z 202 26 [x0, x1] (st) cu σ Q) := by
  rw [x202_23]
  obtain ⟨K, I, R, L, sz, ex⟩ := σ
  exact br_ite
theorem v202_26 {z : P0} {st : List Value} {cu : Nat × Nat} {Q : Res → Mem → Prop} {σ : Mem} {x0 : Option Value} {u : Int32} : X z 202 26 [x0, some (.int u)] (st) cu σ Q = (X z 202 27 [x0, some (.int u)] (.int u :: st) cu σ Q) := by
  rw [x202_26]
  rfl
theorem v202_27 {z : P0} {st : List Value} {cu : Nat × Nat} {Q : Res → Mem → Prop} {σ : Mem} {x0 x1 : Option Value} : X z 202 27 [x0, x1] (st) cu σ Q = (X z 202 29 [x0, x1] (.int (nI 47) :: st) cu σ Q) := by
  rw [x202_27]
  rfl
theorem v202_29 {z : P0} {st : List Value} {cu : Nat × Nat} {Q : Res → Mem → Prop} {σ : Mem} {x0 x1 : Option Value} {u v : Int32} : X z 202 29 [x0, x1] (.int v :: .int u :: st) cu σ Q = (if u = v then X z 202 46 [x0, x1] (st) cu σ Q else X z 202 32 [x0, x1] (st) cu σ Q) := by
  rw [x202_29]
  obtain ⟨K, I, R, L, sz, ex⟩ := σ
  exact br_ite
theorem v202_32 {z : P0} {st : List Value} {cu : Nat × Nat} {Q : Res → Mem → Prop} {σ : Mem} {x0 : Option Value} {u : Int32} : X z 202 32 [x0, some (.int u)] (st) cu σ Q = (X z 202 33 [x0, some (.int u)] (.int u :: st) cu σ Q) := by
  rw [x202_32]
  rfl
theorem v202_33 {z : P0} {st : List Value} {cu : Nat × Nat} {Q : Res → Mem → Prop} {σ : Mem} {x0 x1 : Option Value} : X z 202 33 [x0, x1] (st) cu σ Q = (X z 202 35 [x0, x1] (.int (nI 124) :: st) cu σ Q) := by
  rw [x202_33]
  rfl
theorem v202_35 {z : P0} {st : List Value} {cu : Nat × Nat} {Q : Res → Mem → Prop} {σ : Mem} {x0 x1 : Option Value} {u v : Int32} : X z 202 35 [x0, x1] (.int v :: .int u :: st) cu σ Q = (if u = v then X z 202 46 [x0, x1] (st) cu σ Q else X z 202 38 [x0, x1] (st) cu σ Q) := by
  rw [x202_35]
  obtain ⟨K, I, R, L, sz, ex⟩ := σ
  exact br_ite
theorem v202_38 {z : P0} {st : List Value} {cu : Nat × Nat} {Q : Res → Mem → Prop} {σ : Mem} {x1 : Option Value} {u : Nat} : X z 202 38 [some (.ref u), x1] (st) cu σ Q = (X z 202 39 [some (.ref u), x1] (.ref u :: st) cu σ Q) := by
  rw [x202_38]
  rfl
theorem v202_39 {z : P0} {st : List Value} {cu : Nat × Nat} {Q : Res → Mem → Prop} {σ : Mem} {x0 x1 : Option Value} : X z 202 39 [x0, x1] (st) cu σ Q = (X z 202 40 [x0, x1] (.int (nI 1) :: st) cu σ Q) := by
  rw [x202_39]
  rfl
theorem v202_40 {z : P0} {st : List Value} {cu : Nat × Nat} {Q : Res → Mem → Prop} {σ : Mem} {x0 x1 : Option Value} {u : Int32} {v : Nat} : X z 202 40 [x0, x1] (.int u :: .ref v :: st) cu σ Q = (X z 202 41 [x0, x1] (.int u :: .ref v :: .int u :: .ref v :: st) cu σ Q) := by
  rw [x202_40]
  rfl
theorem v202_41 {z : P0} {st : List Value} {cu : Nat × Nat} {Q : Res → Mem → Prop} {K : Nat → Nat × Nat} {I : Nat → Nat → Int32} {R : Nat → Nat → Option Nat} {L : Nat → Nat → Int64} {sz : Nat} {ex : Bool} {x0 x1 : Option Value} {u : Nat} {v : Int32} : X z 202 41 [x0, x1] (.int v :: .ref u :: st) cu (K, I, R, L, sz, ex) Q = (((K u).1 = 20 ∨ (K u).1 = 50) ∧ vp_in v (K u).2 ∧ X z 202 42 [x0, x1] (.int (I u v.toNatClampNeg) :: st) cu (K, I, R, L, sz, ex) Q) := by
  rw [x202_41]
  rfl
theorem v202_42 {z : P0} {st : List Value} {cu : Nat × Nat} {Q : Res → Mem → Prop} {σ : Mem} {x0 x1 : Option Value} : X z 202 42 [x0, x1] (st) cu σ Q = (X z 202 43 [x0, x1] (.int (nI 1) :: st) cu σ Q) := by
  rw [x202_42]
  rfl
theorem v202_43 {z : P0} {st : List Value} {cu : Nat × Nat} {Q : Res → Mem → Prop} {σ : Mem} {x0 x1 : Option Value} {u v : Int32} : X z 202 43 [x0, x1] (.int v :: .int u :: st) cu σ Q = (X z 202 44 [x0, x1] (.int (u + v) :: st) cu σ Q) := by
  rw [x202_43]
  rfl
theorem v202_44 {z : P0} {st : List Value} {cu : Nat × Nat} {Q : Res → Mem → Prop} {K : Nat → Nat × Nat} {I : Nat → Nat → Int32} {R : Nat → Nat → Option Nat} {L : Nat → Nat → Int64} {sz : Nat} {ex : Bool} {x0 x1 : Option Value} {u : Nat} {j v : Int32} : X z 202 44 [x0, x1] (.int v :: .int j :: .ref u :: st) cu (K, I, R, L, sz, ex) Q = ((K u).1 = 20 ∧ vp_in j (K u).2 ∧ X z 202 45 [x0, x1] (st) cu (K, up2 I u j.toNatClampNeg v, R, L, sz, ex) Q) := by
  rw [x202_44]
  rfl
theorem v202_45 {z : P0} {cu : Nat × Nat} {Q : Res → Mem → Prop} {σ : Mem} {x0 x1 : Option Value} : X z 202 45 [x0, x1] ([]) cu σ Q = (Q (.inl none) σ) := by
  rw [x202_45]
  rfl
theorem v202_46 {z : P0} {st : List Value} {cu : Nat × Nat} {Q : Res → Mem → Prop} {σ : Mem} {x1 : Option Value} {u : Nat} : X z 202 46 [some (.ref u), x1] (st) cu σ Q = (X z 202 47 [some (.ref u), x1] (.ref u :: st) cu σ Q) := by
  rw [x202_46]
  rfl
theorem u202_47 {z : P0} {ls : Lcs} {st : List Value} {K : Nat → Nat × Nat} {I : Nat → Nat → Int32} {R : Nat → Nat → Option Nat} {L : Nat → Nat → Int64} {sz : Nat} {ex : Bool} {Q : Res → Mem → Prop} {a0 : Nat} : X z 202 47 ls (.ref a0 :: st) (0, 0) (K, I, R, L, sz, ex) Q = (wsum st ≤ 8 ∧ X z 200 0 [some (.ref a0)] [] (0, 0) (K, I, R, L, sz, ex) (aftr (X z) mT 202 47 ls st (0, 0) Q)) := v202_47 (c := 0) (n := 0)
theorem v202_50 {z : P0} {st : List Value} {cu : Nat × Nat} {Q : Res → Mem → Prop} {σ : Mem} {x0 : Option Value} {u : Int32} : X z 202 50 [x0, some (.int u)] (st) cu σ Q = (X z 202 51 [x0, some (.int u)] (.int u :: st) cu σ Q) := by
  rw [x202_50]
  rfl
theorem v202_51 {z : P0} {st : List Value} {cu : Nat × Nat} {Q : Res → Mem → Prop} {σ : Mem} {x0 x1 : Option Value} : X z 202 51 [x0, x1] (st) cu σ Q = (X z 202 53 [x0, x1] (.int (nI 124) :: st) cu σ Q) := by
  rw [x202_51]
  rfl
theorem v202_53 {z : P0} {st : List Value} {cu : Nat × Nat} {Q : Res → Mem → Prop} {σ : Mem} {x0 x1 : Option Value} {u v : Int32} : X z 202 53 [x0, x1] (.int v :: .int u :: st) cu σ Q = (if u = v then X z 202 56 [x0, x1] (st) cu σ Q else X z 202 60 [x0, x1] (st) cu σ Q) := by
  rw [x202_53]
  obtain ⟨K, I, R, L, sz, ex⟩ := σ
  exact br_ne
theorem v202_56 {z : P0} {st : List Value} {cu : Nat × Nat} {Q : Res → Mem → Prop} {σ : Mem} {x1 : Option Value} {u : Nat} : X z 202 56 [some (.ref u), x1] (st) cu σ Q = (X z 202 57 [some (.ref u), x1] (.ref u :: st) cu σ Q) := by
  rw [x202_56]
  rfl
theorem u202_57 {z : P0} {ls : Lcs} {st : List Value} {K : Nat → Nat × Nat} {I : Nat → Nat → Int32} {R : Nat → Nat → Option Nat} {L : Nat → Nat → Int64} {sz : Nat} {ex : Bool} {Q : Res → Mem → Prop} {a0 : Nat} : X z 202 57 ls (.ref a0 :: st) (0, 0) (K, I, R, L, sz, ex) Q = (wsum st ≤ 8 ∧ X z 201 0 [some (.ref a0), none] [] (0, 0) (K, I, R, L, sz, ex) (aftr (X z) mT 202 57 ls st (0, 0) Q)) := v202_57 (c := 0) (n := 0)
theorem v202_60 {z : P0} {st : List Value} {cu : Nat × Nat} {Q : Res → Mem → Prop} {σ : Mem} {x0 : Option Value} {u : Int32} : X z 202 60 [x0, some (.int u)] (st) cu σ Q = (X z 202 61 [x0, some (.int u)] (.int u :: st) cu σ Q) := by
  rw [x202_60]
  rfl
theorem v202_61 {z : P0} {st : List Value} {cu : Nat × Nat} {Q : Res → Mem → Prop} {σ : Mem} {x0 x1 : Option Value} : X z 202 61 [x0, x1] (st) cu σ Q = (X z 202 63 [x0, x1] (.int (nI 95) :: st) cu σ Q) := by
  rw [x202_61]
  rfl
theorem v202_63 {z : P0} {st : List Value} {cu : Nat × Nat} {Q : Res → Mem → Prop} {σ : Mem} {x0 x1 : Option Value} {u v : Int32} : X z 202 63 [x0, x1] (.int v :: .int u :: st) cu σ Q = (if u = v then X z 202 81 [x0, x1] (st) cu σ Q else X z 202 66 [x0, x1] (st) cu σ Q) := by
  rw [x202_63]
  obtain ⟨K, I, R, L, sz, ex⟩ := σ
  exact br_ite
theorem v202_66 {z : P0} {st : List Value} {cu : Nat × Nat} {Q : Res → Mem → Prop} {σ : Mem} {x1 : Option Value} {u : Nat} : X z 202 66 [some (.ref u), x1] (st) cu σ Q = (X z 202 67 [some (.ref u), x1] (.ref u :: st) cu σ Q) := by
  rw [x202_66]
  rfl
theorem v202_67 {z : P0} {st : List Value} {cu : Nat × Nat} {Q : Res → Mem → Prop} {σ : Mem} {x0 x1 : Option Value} : X z 202 67 [x0, x1] (st) cu σ Q = (X z 202 68 [x0, x1] (.int (nI 4) :: st) cu σ Q) := by
  rw [x202_67]
  rfl
theorem v202_68 {z : P0} {st : List Value} {cu : Nat × Nat} {Q : Res → Mem → Prop} {σ : Mem} {x0 x1 : Option Value} {u : Int32} {v : Nat} : X z 202 68 [x0, x1] (.int u :: .ref v :: st) cu σ Q = (X z 202 69 [x0, x1] (.int u :: .ref v :: .int u :: .ref v :: st) cu σ Q) := by
  rw [x202_68]
  rfl
theorem v202_69 {z : P0} {st : List Value} {cu : Nat × Nat} {Q : Res → Mem → Prop} {K : Nat → Nat × Nat} {I : Nat → Nat → Int32} {R : Nat → Nat → Option Nat} {L : Nat → Nat → Int64} {sz : Nat} {ex : Bool} {x0 x1 : Option Value} {u : Nat} {v : Int32} : X z 202 69 [x0, x1] (.int v :: .ref u :: st) cu (K, I, R, L, sz, ex) Q = (((K u).1 = 20 ∨ (K u).1 = 50) ∧ vp_in v (K u).2 ∧ X z 202 70 [x0, x1] (.int (I u v.toNatClampNeg) :: st) cu (K, I, R, L, sz, ex) Q) := by
  rw [x202_69]
  rfl
theorem v202_70 {z : P0} {st : List Value} {cu : Nat × Nat} {Q : Res → Mem → Prop} {σ : Mem} {x0 x1 : Option Value} : X z 202 70 [x0, x1] (st) cu σ Q = (X z 202 71 [x0, x1] (.int (nI 1) :: st) cu σ Q) := by
  rw [x202_70]
  rfl
theorem v202_71 {z : P0} {st : List Value} {cu : Nat × Nat} {Q : Res → Mem → Prop} {σ : Mem} {x0 x1 : Option Value} {u v : Int32} : X z 202 71 [x0, x1] (.int v :: .int u :: st) cu σ Q = (X z 202 72 [x0, x1] (.int (u + v) :: st) cu σ Q) := by
  rw [x202_71]
  rfl
theorem v202_72 {z : P0} {st : List Value} {cu : Nat × Nat} {Q : Res → Mem → Prop} {K : Nat → Nat × Nat} {I : Nat → Nat → Int32} {R : Nat → Nat → Option Nat} {L : Nat → Nat → Int64} {sz : Nat} {ex : Bool} {x0 x1 : Option Value} {u : Nat} {j v : Int32} : X z 202 72 [x0, x1] (.int v :: .int j :: .ref u :: st) cu (K, I, R, L, sz, ex) Q = ((K u).1 = 20 ∧ vp_in j (K u).2 ∧ X z 202 73 [x0, x1] (st) cu (K, up2 I u j.toNatClampNeg v, R, L, sz, ex) Q) := by
  rw [x202_72]
  rfl
theorem v202_73 {z : P0} {st : List Value} {cu : Nat × Nat} {Q : Res → Mem → Prop} {σ : Mem} {x1 : Option Value} {u : Nat} : X z 202 73 [some (.ref u), x1] (st) cu σ Q = (X z 202 74 [some (.ref u), x1] (.ref u :: st) cu σ Q) := by
  rw [x202_73]
  rfl
theorem v202_74 {z : P0} {st : List Value} {cu : Nat × Nat} {Q : Res → Mem → Prop} {σ : Mem} {x0 x1 : Option Value} : X z 202 74 [x0, x1] (st) cu σ Q = (X z 202 75 [x0, x1] (.int (nI 2) :: st) cu σ Q) := by
  rw [x202_74]
  rfl
theorem v202_75 {z : P0} {st : List Value} {cu : Nat × Nat} {Q : Res → Mem → Prop} {σ : Mem} {x0 x1 : Option Value} : X z 202 75 [x0, x1] (st) cu σ Q = (X z 202 76 [x0, x1] (.int (nI 0) :: st) cu σ Q) := by
  rw [x202_75]
  rfl
theorem v202_76 {z : P0} {st : List Value} {cu : Nat × Nat} {Q : Res → Mem → Prop} {K : Nat → Nat × Nat} {I : Nat → Nat → Int32} {R : Nat → Nat → Option Nat} {L : Nat → Nat → Int64} {sz : Nat} {ex : Bool} {x0 x1 : Option Value} {u : Nat} {j v : Int32} : X z 202 76 [x0, x1] (.int v :: .int j :: .ref u :: st) cu (K, I, R, L, sz, ex) Q = ((K u).1 = 20 ∧ vp_in j (K u).2 ∧ X z 202 77 [x0, x1] (st) cu (K, up2 I u j.toNatClampNeg v, R, L, sz, ex) Q) := by
  rw [x202_76]
  rfl
theorem v202_77 {z : P0} {st : List Value} {cu : Nat × Nat} {Q : Res → Mem → Prop} {σ : Mem} {x1 : Option Value} {u : Nat} : X z 202 77 [some (.ref u), x1] (st) cu σ Q = (X z 202 78 [some (.ref u), x1] (.ref u :: st) cu σ Q) := by
  rw [x202_77]
  rfl
theorem v202_78 {z : P0} {st : List Value} {cu : Nat × Nat} {Q : Res → Mem → Prop} {σ : Mem} {x0 x1 : Option Value} : X z 202 78 [x0, x1] (st) cu σ Q = (X z 202 79 [x0, x1] (.int (nI 3) :: st) cu σ Q) := by
  rw [x202_78]
  rfl
theorem v202_79 {z : P0} {st : List Value} {cu : Nat × Nat} {Q : Res → Mem → Prop} {σ : Mem} {x0 x1 : Option Value} : X z 202 79 [x0, x1] (st) cu σ Q = (X z 202 80 [x0, x1] (.int (nI 1) :: st) cu σ Q) := by
  rw [x202_79]
  rfl
theorem v202_80 {z : P0} {st : List Value} {cu : Nat × Nat} {Q : Res → Mem → Prop} {K : Nat → Nat × Nat} {I : Nat → Nat → Int32} {R : Nat → Nat → Option Nat} {L : Nat → Nat → Int64} {sz : Nat} {ex : Bool} {x0 x1 : Option Value} {u : Nat} {j v : Int32} : X z 202 80 [x0, x1] (.int v :: .int j :: .ref u :: st) cu (K, I, R, L, sz, ex) Q = ((K u).1 = 20 ∧ vp_in j (K u).2 ∧ X z 202 81 [x0, x1] (st) cu (K, up2 I u j.toNatClampNeg v, R, L, sz, ex) Q) := by
  rw [x202_80]
  rfl
theorem v202_81 {z : P0} {cu : Nat × Nat} {Q : Res → Mem → Prop} {σ : Mem} {x0 x1 : Option Value} : X z 202 81 [x0, x1] ([]) cu σ Q = (Q (.inl none) σ) := by
  rw [x202_81]
  rfl
theorem v203_0 {z : P0} {st : List Value} {cu : Nat × Nat} {Q : Res → Mem → Prop} {σ : Mem} {u : Nat} : X z 203 0 [some (.ref u)] (st) cu σ Q = (X z 203 1 [some (.ref u)] (.ref u :: st) cu σ Q) := by
  rw [x203_0]
  rfl
theorem u203_1 {z : P0} {ls : Lcs} {st : List Value} {K : Nat → Nat × Nat} {I : Nat → Nat → Int32} {R : Nat → Nat → Option Nat} {L : Nat → Nat → Int64} {sz : Nat} {ex : Bool} {Q : Res → Mem → Prop} {a0 : Nat} : X z 203 1 ls (.ref a0 :: st) (0, 0) (K, I, R, L, sz, ex) Q = (wsum st ≤ 8 ∧ X z 200 0 [some (.ref a0)] [] (0, 0) (K, I, R, L, sz, ex) (aftr (X z) mT 203 1 ls st (0, 0) Q)) := v203_1 (c := 0) (n := 0)
theorem v203_4 {z : P0} {st : List Value} {cu : Nat × Nat} {Q : Res → Mem → Prop} {σ : Mem} {u : Nat} : X z 203 4 [some (.ref u)] (st) cu σ Q = (X z 203 5 [some (.ref u)] (.ref u :: st) cu σ Q) := by
  rw [x203_4]
  rfl
theorem u203_5 {z : P0} {ls : Lcs} {st : List Value} {K : Nat → Nat × Nat} {I : Nat → Nat → Int32} {R : Nat → Nat → Option Nat} {L : Nat → Nat → Int64} {sz : Nat} {ex : Bool} {Q : Res → Mem → Prop} {a0 : Nat} : X z 203 5 ls (.ref a0 :: st) (0, 0) (K, I, R, L, sz, ex) Q = (wsum st ≤ 8 ∧ X z 201 0 [some (.ref a0), none] [] (0, 0) (K, I, R, L, sz, ex) (aftr (X z) mT 203 5 ls st (0, 0) Q)) := v203_5 (c := 0) (n := 0)
theorem v203_8 {z : P0} {cu : Nat × Nat} {Q : Res → Mem → Prop} {σ : Mem} {x0 : Option Value} : X z 203 8 [x0] ([]) cu σ Q = (Q (.inl none) σ) := by
  rw [x203_8]
  rfl
theorem v204_0 {z : P0} {st : List Value} {cu : Nat × Nat} {Q : Res → Mem → Prop} {σ : Mem} {x0 x1 x2 x3 : Option Value} : X z 204 0 [x0, x1, x2, x3] (st) cu σ Q = (X z 204 1 [x0, x1, x2, x3] (.int (nI 0) :: st) cu σ Q) := by
  rw [x204_0]
  rfl
theorem v204_1 {z : P0} {st : List Value} {cu : Nat × Nat} {Q : Res → Mem → Prop} {σ : Mem} {x0 x1 x2 x3 : Option Value} {u : Int32} : X z 204 1 [x0, x1, x2, x3] (.int u :: st) cu σ Q = (cat2 x2 = false ∧ X z 204 2 [x0, x1, x2, some (.int u)] (st) cu σ Q) := by
  rw [x204_1]
  obtain ⟨K, I, R, L, sz, ex⟩ := σ
  exact i_istore_n.trans sl_3
theorem v204_2 {z : P0} {st : List Value} {cu : Nat × Nat} {Q : Res → Mem → Prop} {σ : Mem} {x0 x1 x2 : Option Value} {u : Int32} : X z 204 2 [x0, x1, x2, some (.int u)] (st) cu σ Q = (X z 204 3 [x0, x1, x2, some (.int u)] (.int u :: st) cu σ Q) := by
  rw [x204_2]
  rfl
theorem v204_3 {z : P0} {st : List Value} {cu : Nat × Nat} {Q : Res → Mem → Prop} {σ : Mem} {x1 x2 x3 : Option Value} {u : Nat} : X z 204 3 [some (.ref u), x1, x2, x3] (st) cu σ Q = (X z 204 4 [some (.ref u), x1, x2, x3] (.ref u :: st) cu σ Q) := by
  rw [x204_3]
  rfl
theorem v204_4 {z : P0} {st : List Value} {cu : Nat × Nat} {Q : Res → Mem → Prop} {σ : Mem} {x0 x1 x2 x3 : Option Value} : X z 204 4 [x0, x1, x2, x3] (st) cu σ Q = (X z 204 5 [x0, x1, x2, x3] (.int (nI 2) :: st) cu σ Q) := by
  rw [x204_4]
  rfl
theorem v204_5 {z : P0} {st : List Value} {cu : Nat × Nat} {Q : Res → Mem → Prop} {K : Nat → Nat × Nat} {I : Nat → Nat → Int32} {R : Nat → Nat → Option Nat} {L : Nat → Nat → Int64} {sz : Nat} {ex : Bool} {x0 x1 x2 x3 : Option Value} {u : Nat} {v : Int32} : X z 204 5 [x0, x1, x2, x3] (.int v :: .ref u :: st) cu (K, I, R, L, sz, ex) Q = (((K u).1 = 20 ∨ (K u).1 = 50) ∧ vp_in v (K u).2 ∧ X z 204 6 [x0, x1, x2, x3] (.int (I u v.toNatClampNeg) :: st) cu (K, I, R, L, sz, ex) Q) := by
  rw [x204_5]
  rfl
theorem v204_6 {z : P0} {st : List Value} {cu : Nat × Nat} {Q : Res → Mem → Prop} {σ : Mem} {x0 x1 x2 x3 : Option Value} {u v : Int32} : X z 204 6 [x0, x1, x2, x3] (.int v :: .int u :: st) cu σ Q = (if u < v then X z 204 9 [x0, x1, x2, x3] (st) cu σ Q else X z 204 28 [x0, x1, x2, x3] (st) cu σ Q) := by
  rw [x204_6]
  obtain ⟨K, I, R, L, sz, ex⟩ := σ
  exact br_ge
theorem v204_9 {z : P0} {st : List Value} {cu : Nat × Nat} {Q : Res → Mem → Prop} {σ : Mem} {x0 x2 x3 : Option Value} {u : Nat} : X z 204 9 [x0, some (.ref u), x2, x3] (st) cu σ Q = (X z 204 10 [x0, some (.ref u), x2, x3] (.ref u :: st) cu σ Q) := by
  rw [x204_9]
  rfl
theorem v204_10 {z : P0} {st : List Value} {cu : Nat × Nat} {Q : Res → Mem → Prop} {σ : Mem} {x0 x1 x2 : Option Value} {u : Int32} : X z 204 10 [x0, x1, x2, some (.int u)] (st) cu σ Q = (X z 204 11 [x0, x1, x2, some (.int u)] (.int u :: st) cu σ Q) := by
  rw [x204_10]
  rfl
theorem v204_11 {z : P0} {st : List Value} {cu : Nat × Nat} {Q : Res → Mem → Prop} {K : Nat → Nat × Nat} {I : Nat → Nat → Int32} {R : Nat → Nat → Option Nat} {L : Nat → Nat → Int64} {sz : Nat} {ex : Bool} {x0 x1 x2 x3 : Option Value} {u : Nat} {v : Int32} : X z 204 11 [x0, x1, x2, x3] (.int v :: .ref u :: st) cu (K, I, R, L, sz, ex) Q = (((K u).1 = 20 ∨ (K u).1 = 50) ∧ vp_in v (K u).2 ∧ X z 204 12 [x0, x1, x2, x3] (.int (I u v.toNatClampNeg) :: st) cu (K, I, R, L, sz, ex) Q) := by
  rw [x204_11]
  rfl
theorem v204_12 {z : P0} {st : List Value} {cu : Nat × Nat} {Q : Res → Mem → Prop} {σ : Mem} {x0 x1 x2 x3 : Option Value} : X z 204 12 [x0, x1, x2, x3] (st) cu σ Q = (X z 204 15 [x0, x1, x2, x3] (.int (nI 256) :: st) cu σ Q) := by
  rw [x204_12]
  rfl
theorem v204_15 {z : P0} {st : List Value} {cu : Nat × Nat} {Q : Res → Mem → Prop} {σ : Mem} {x0 x1 x3 : Option Value} {u : Int32} : X z 204 15 [x0, x1, some (.int u), x3] (st) cu σ Q = (X z 204 16 [x0, x1, some (.int u), x3] (.int u :: st) cu σ Q) := by
  rw [x204_15]
  rfl
theorem v204_16 {z : P0} {st : List Value} {cu : Nat × Nat} {Q : Res → Mem → Prop} {σ : Mem} {x0 x1 x2 x3 : Option Value} {u v : Int32} : X z 204 16 [x0, x1, x2, x3] (.int v :: .int u :: st) cu σ Q = (X z 204 17 [x0, x1, x2, x3] (.int (u + v) :: st) cu σ Q) := by
  rw [x204_16]
  rfl
theorem v204_17 {z : P0} {st : List Value} {cu : Nat × Nat} {Q : Res → Mem → Prop} {σ : Mem} {x0 x1 x2 x3 : Option Value} {u v : Int32} : X z 204 17 [x0, x1, x2, x3] (.int v :: .int u :: st) cu σ Q = (if u = v then X z 204 20 [x0, x1, x2, x3] (st) cu σ Q else X z 204 22 [x0, x1, x2, x3] (st) cu σ Q) := by
  rw [x204_17]
  obtain ⟨K, I, R, L, sz, ex⟩ := σ
  exact br_ne
theorem v204_20 {z : P0} {st : List Value} {cu : Nat × Nat} {Q : Res → Mem → Prop} {σ : Mem} {x0 x1 x2 x3 : Option Value} : X z 204 20 [x0, x1, x2, x3] (st) cu σ Q = (X z 204 21 [x0, x1, x2, x3] (.int (nI 1) :: st) cu σ Q) := by
  rw [x204_20]
  rfl
theorem v204_21 {z : P0} {cu : Nat × Nat} {Q : Res → Mem → Prop} {σ : Mem} {x0 x1 x2 x3 : Option Value} {v : Int32} : X z 204 21 [x0, x1, x2, x3] ([.int v]) cu σ Q = ((v = nI 0 ∨ v = nI 1) ∧ Q (.inl (some (.int v))) σ) := by
  rw [x204_21]
  rw [nI_0, one1]
  rfl
theorem v204_22 {z : P0} {st : List Value} {cu : Nat × Nat} {Q : Res → Mem → Prop} {σ : Mem} {x0 x1 x2 : Option Value} {u : Int32} : X z 204 22 [x0, x1, x2, some (.int u)] (st) cu σ Q = (cat2 x2 = false ∧ X z 204 25 [x0, x1, x2, some (.int (u + nI 1))] (st) cu σ Q) := by
  rw [x204_22]
  obtain ⟨K, I, R, L, sz, ex⟩ := σ
  exact i_iinc.trans (gl_3.trans (ldI_i.trans sl_3))
theorem v204_25 {z : P0} {st : List Value} {cu : Nat × Nat} {Q : Res → Mem → Prop} {σ : Mem} {x0 x1 x2 x3 : Option Value} : X z 204 25 [x0, x1, x2, x3] (st) cu σ Q = (X z 204 2 [x0, x1, x2, x3] (st) cu σ Q) := by
  rw [x204_25]
  rfl
theorem v204_28 {z : P0} {st : List Value} {cu : Nat × Nat} {Q : Res → Mem → Prop} {σ : Mem} {x0 x1 x2 x3 : Option Value} : X z 204 28 [x0, x1, x2, x3] (st) cu σ Q = (X z 204 29 [x0, x1, x2, x3] (.int (nI 0) :: st) cu σ Q) := by
  rw [x204_28]
  rfl
theorem v204_29 {z : P0} {cu : Nat × Nat} {Q : Res → Mem → Prop} {σ : Mem} {x0 x1 x2 x3 : Option Value} {v : Int32} : X z 204 29 [x0, x1, x2, x3] ([.int v]) cu σ Q = ((v = nI 0 ∨ v = nI 1) ∧ Q (.inl (some (.int v))) σ) := by
  rw [x204_29]
  rw [nI_0, one1]
  rfl
theorem v205_0 {z : P0} {st : List Value} {cu : Nat × Nat} {Q : Res → Mem → Prop} {σ : Mem} {x0 x1 x3 x4 x5 : Option Value} {u : Nat} : X z 205 0 [x0, x1, some (.ref u), x3, x4, x5] (st) cu σ Q = (X z 205 1 [x0, x1, some (.ref u), x3, x4, x5] (.ref u :: st) cu σ Q) := by
  rw [x205_0]
  rfl
theorem v205_1 {z : P0} {st : List Value} {cu : Nat × Nat} {Q : Res → Mem → Prop} {σ : Mem} {x0 x1 x2 x3 x4 : Option Value} {u : Int32} : X z 205 1 [x0, x1, x2, x3, x4, some (.int u)] (st) cu σ Q = (X z 205 3 [x0, x1, x2, x3, x4, some (.int u)] (.int u :: st) cu σ Q) := by
  rw [x205_1]
  rfl
theorem v205_3 {z : P0} {st : List Value} {cu : Nat × Nat} {Q : Res → Mem → Prop} {K : Nat → Nat × Nat} {I : Nat → Nat → Int32} {R : Nat → Nat → Option Nat} {L : Nat → Nat → Int64} {sz : Nat} {ex : Bool} {x0 x1 x2 x3 x4 x5 : Option Value} {u : Nat} {v : Int32} : X z 205 3 [x0, x1, x2, x3, x4, x5] (.int v :: .ref u :: st) cu (K, I, R, L, sz, ex) Q = (((K u).1 = 20 ∨ (K u).1 = 50) ∧ vp_in v (K u).2 ∧ X z 205 4 [x0, x1, x2, x3, x4, x5] (.int (I u v.toNatClampNeg) :: st) cu (K, I, R, L, sz, ex) Q) := by
  rw [x205_3]
  rfl
theorem v205_4 {z : P0} {st : List Value} {cu : Nat × Nat} {Q : Res → Mem → Prop} {σ : Mem} {x0 x1 x2 x3 x4 x5 : Option Value} : X z 205 4 [x0, x1, x2, x3, x4, x5] (st) cu σ Q = (X z 205 5 [x0, x1, x2, x3, x4, x5] (.int (nI 1) :: st) cu σ Q) := by
  rw [x205_4]
  rfl
theorem v205_5 {z : P0} {st : List Value} {cu : Nat × Nat} {Q : Res → Mem → Prop} {σ : Mem} {x0 x1 x2 x3 x4 x5 : Option Value} {u v : Int32} : X z 205 5 [x0, x1, x2, x3, x4, x5] (.int v :: .int u :: st) cu σ Q = (if u = v then X z 205 8 [x0, x1, x2, x3, x4, x5] (st) cu σ Q else X z 205 10 [x0, x1, x2, x3, x4, x5] (st) cu σ Q) := by
  rw [x205_5]
  obtain ⟨K, I, R, L, sz, ex⟩ := σ
  exact br_ne
theorem v205_8 {z : P0} {st : List Value} {cu : Nat × Nat} {Q : Res → Mem → Prop} {σ : Mem} {x0 x1 x2 x3 x4 x5 : Option Value} : X z 205 8 [x0, x1, x2, x3, x4, x5] (st) cu σ Q = (X z 205 9 [x0, x1, x2, x3, x4, x5] (.int (nI 1) :: st) cu σ Q) := by
  rw [x205_8]
  rfl
theorem v205_9 {z : P0} {cu : Nat × Nat} {Q : Res → Mem → Prop} {σ : Mem} {x0 x1 x2 x3 x4 x5 : Option Value} {v : Int32} : X z 205 9 [x0, x1, x2, x3, x4, x5] ([.int v]) cu σ Q = (Q (.inl (some (.int v))) σ) := by
  rw [x205_9]
  exact propext ⟨fun h => h.2, fun h => ⟨trivial, h⟩⟩
theorem v205_10 {z : P0} {st : List Value} {cu : Nat × Nat} {Q : Res → Mem → Prop} {σ : Mem} {x0 x1 x2 x4 x5 : Option Value} {u : Nat} : X z 205 10 [x0, x1, x2, some (.ref u), x4, x5] (st) cu σ Q = (X z 205 11 [x0, x1, x2, some (.ref u), x4, x5] (.ref u :: st) cu σ Q) := by
  rw [x205_10]
  rfl
theorem v205_11 {z : P0} {st : List Value} {cu : Nat × Nat} {Q : Res → Mem → Prop} {σ : Mem} {x0 x1 x2 x3 x4 : Option Value} {u : Int32} : X z 205 11 [x0, x1, x2, x3, x4, some (.int u)] (st) cu σ Q = (X z 205 13 [x0, x1, x2, x3, x4, some (.int u)] (.int u :: st) cu σ Q) := by
  rw [x205_11]
  rfl
theorem v205_13 {z : P0} {st : List Value} {cu : Nat × Nat} {Q : Res → Mem → Prop} {K : Nat → Nat × Nat} {I : Nat → Nat → Int32} {R : Nat → Nat → Option Nat} {L : Nat → Nat → Int64} {sz : Nat} {ex : Bool} {x0 x1 x2 x3 x4 x5 : Option Value} {u : Nat} {v : Int32} : X z 205 13 [x0, x1, x2, x3, x4, x5] (.int v :: .ref u :: st) cu (K, I, R, L, sz, ex) Q = (((K u).1 = 20 ∨ (K u).1 = 50) ∧ vp_in v (K u).2 ∧ X z 205 14 [x0, x1, x2, x3, x4, x5] (.int (I u v.toNatClampNeg) :: st) cu (K, I, R, L, sz, ex) Q) := by
  rw [x205_13]
  rfl
theorem v205_14 {z : P0} {st : List Value} {cu : Nat × Nat} {Q : Res → Mem → Prop} {σ : Mem} {x0 x1 x2 x3 x4 x5 : Option Value} {u : Int32} : X z 205 14 [x0, x1, x2, x3, x4, x5] (.int u :: st) cu σ Q = (if u < nI 0 then X z 205 34 [x0, x1, x2, x3, x4, x5] (st) cu σ Q else X z 205 17 [x0, x1, x2, x3, x4, x5] (st) cu σ Q) := by
  rw [x205_14]
  rw [nI_0]
  obtain ⟨K, I, R, L, sz, ex⟩ := σ
  exact br_ite
theorem v205_17 {z : P0} {st : List Value} {cu : Nat × Nat} {Q : Res → Mem → Prop} {σ : Mem} {x0 x1 x2 x4 x5 : Option Value} {u : Nat} : X z 205 17 [x0, x1, x2, some (.ref u), x4, x5] (st) cu σ Q = (X z 205 18 [x0, x1, x2, some (.ref u), x4, x5] (.ref u :: st) cu σ Q) := by
  rw [x205_17]
  rfl
theorem v205_18 {z : P0} {st : List Value} {cu : Nat × Nat} {Q : Res → Mem → Prop} {σ : Mem} {x0 x1 x2 x3 x4 : Option Value} {u : Int32} : X z 205 18 [x0, x1, x2, x3, x4, some (.int u)] (st) cu σ Q = (X z 205 20 [x0, x1, x2, x3, x4, some (.int u)] (.int u :: st) cu σ Q) := by
  rw [x205_18]
  rfl
theorem v205_20 {z : P0} {st : List Value} {cu : Nat × Nat} {Q : Res → Mem → Prop} {K : Nat → Nat × Nat} {I : Nat → Nat → Int32} {R : Nat → Nat → Option Nat} {L : Nat → Nat → Int64} {sz : Nat} {ex : Bool} {x0 x1 x2 x3 x4 x5 : Option Value} {u : Nat} {v : Int32} : X z 205 20 [x0, x1, x2, x3, x4, x5] (.int v :: .ref u :: st) cu (K, I, R, L, sz, ex) Q = (((K u).1 = 20 ∨ (K u).1 = 50) ∧ vp_in v (K u).2 ∧ X z 205 21 [x0, x1, x2, x3, x4, x5] (.int (I u v.toNatClampNeg) :: st) cu (K, I, R, L, sz, ex) Q) := by
  rw [x205_20]
  rfl
theorem v205_21 {z : P0} {st : List Value} {cu : Nat × Nat} {Q : Res → Mem → Prop} {σ : Mem} {x1 x2 x3 x4 x5 : Option Value} {u : Nat} : X z 205 21 [some (.ref u), x1, x2, x3, x4, x5] (st) cu σ Q = (X z 205 22 [some (.ref u), x1, x2, x3, x4, x5] (.ref u :: st) cu σ Q) := by
  rw [x205_21]
  rfl
theorem v205_22 {z : P0} {st : List Value} {cu : Nat × Nat} {Q : Res → Mem → Prop} {σ : Mem} {x0 x1 x2 x3 x4 x5 : Option Value} : X z 205 22 [x0, x1, x2, x3, x4, x5] (st) cu σ Q = (X z 205 24 [x0, x1, x2, x3, x4, x5] (.int (nI 11) :: st) cu σ Q) := by
  rw [x205_22]
  rfl
theorem v205_24 {z : P0} {st : List Value} {cu : Nat × Nat} {Q : Res → Mem → Prop} {K : Nat → Nat × Nat} {I : Nat → Nat → Int32} {R : Nat → Nat → Option Nat} {L : Nat → Nat → Int64} {sz : Nat} {ex : Bool} {x0 x1 x2 x3 x4 x5 : Option Value} {u : Nat} {v : Int32} : X z 205 24 [x0, x1, x2, x3, x4, x5] (.int v :: .ref u :: st) cu (K, I, R, L, sz, ex) Q = (((K u).1 = 20 ∨ (K u).1 = 50) ∧ vp_in v (K u).2 ∧ X z 205 25 [x0, x1, x2, x3, x4, x5] (.int (I u v.toNatClampNeg) :: st) cu (K, I, R, L, sz, ex) Q) := by
  rw [x205_24]
  rfl
theorem v205_25 {z : P0} {st : List Value} {cu : Nat × Nat} {Q : Res → Mem → Prop} {σ : Mem} {x0 x1 x2 x3 x4 x5 : Option Value} {u v : Int32} : X z 205 25 [x0, x1, x2, x3, x4, x5] (.int v :: .int u :: st) cu σ Q = (X z 205 26 [x0, x1, x2, x3, x4, x5] (.int (u + v) :: st) cu σ Q) := by
  rw [x205_25]
  rfl
theorem v205_26 {z : P0} {st : List Value} {cu : Nat × Nat} {Q : Res → Mem → Prop} {σ : Mem} {x1 x2 x3 x4 x5 : Option Value} {u : Nat} : X z 205 26 [some (.ref u), x1, x2, x3, x4, x5] (st) cu σ Q = (X z 205 27 [some (.ref u), x1, x2, x3, x4, x5] (.ref u :: st) cu σ Q) := by
  rw [x205_26]
  rfl
theorem v205_27 {z : P0} {st : List Value} {cu : Nat × Nat} {Q : Res → Mem → Prop} {σ : Mem} {x0 x1 x2 x3 x4 x5 : Option Value} : X z 205 27 [x0, x1, x2, x3, x4, x5] (st) cu σ Q = (X z 205 28 [x0, x1, x2, x3, x4, x5] (.int (nI 3) :: st) cu σ Q) := by
  rw [x205_27]
  rfl
theorem v205_28 {z : P0} {st : List Value} {cu : Nat × Nat} {Q : Res → Mem → Prop} {K : Nat → Nat × Nat} {I : Nat → Nat → Int32} {R : Nat → Nat → Option Nat} {L : Nat → Nat → Int64} {sz : Nat} {ex : Bool} {x0 x1 x2 x3 x4 x5 : Option Value} {u : Nat} {v : Int32} : X z 205 28 [x0, x1, x2, x3, x4, x5] (.int v :: .ref u :: st) cu (K, I, R, L, sz, ex) Q = (((K u).1 = 20 ∨ (K u).1 = 50) ∧ vp_in v (K u).2 ∧ X z 205 29 [x0, x1, x2, x3, x4, x5] (.int (I u v.toNatClampNeg) :: st) cu (K, I, R, L, sz, ex) Q) := by
  rw [x205_28]
  rfl
theorem v205_29 {z : P0} {st : List Value} {cu : Nat × Nat} {Q : Res → Mem → Prop} {σ : Mem} {x0 x1 x2 x3 x4 x5 : Option Value} {u v : Int32} : X z 205 29 [x0, x1, x2, x3, x4, x5] (.int v :: .int u :: st) cu σ Q = (if v < u then X z 205 32 [x0, x1, x2, x3, x4, x5] (st) cu σ Q else X z 205 34 [x0, x1, x2, x3, x4, x5] (st) cu σ Q) := by
  rw [x205_29]
  obtain ⟨K, I, R, L, sz, ex⟩ := σ
  exact br_ge
theorem v205_32 {z : P0} {st : List Value} {cu : Nat × Nat} {Q : Res → Mem → Prop} {σ : Mem} {x0 x1 x2 x3 x4 x5 : Option Value} : X z 205 32 [x0, x1, x2, x3, x4, x5] (st) cu σ Q = (X z 205 33 [x0, x1, x2, x3, x4, x5] (.int (nI 2) :: st) cu σ Q) := by
  rw [x205_32]
  rfl
theorem v205_33 {z : P0} {cu : Nat × Nat} {Q : Res → Mem → Prop} {σ : Mem} {x0 x1 x2 x3 x4 x5 : Option Value} {v : Int32} : X z 205 33 [x0, x1, x2, x3, x4, x5] ([.int v]) cu σ Q = (Q (.inl (some (.int v))) σ) := by
  rw [x205_33]
  exact propext ⟨fun h => h.2, fun h => ⟨trivial, h⟩⟩
theorem v205_34 {z : P0} {st : List Value} {cu : Nat × Nat} {Q : Res → Mem → Prop} {σ : Mem} {x0 x2 x3 x4 x5 : Option Value} {u : Nat} : X z 205 34 [x0, some (.ref u), x2, x3, x4, x5] (st) cu σ Q = (X z 205 35 [x0, some (.ref u), x2, x3, x4, x5] (.ref u :: st) cu σ Q) := by
  rw [x205_34]
  rfl
theorem v205_35 {z : P0} {st : List Value} {cu : Nat × Nat} {Q : Res → Mem → Prop} {σ : Mem} {x0 x1 x2 x3 x4 : Option Value} {u : Int32} : X z 205 35 [x0, x1, x2, x3, x4, some (.int u)] (st) cu σ Q = (X z 205 37 [x0, x1, x2, x3, x4, some (.int u)] (.int u :: st) cu σ Q) := by
  rw [x205_35]
  rfl
theorem v205_37 {z : P0} {st : List Value} {cu : Nat × Nat} {Q : Res → Mem → Prop} {K : Nat → Nat × Nat} {I : Nat → Nat → Int32} {R : Nat → Nat → Option Nat} {L : Nat → Nat → Int64} {sz : Nat} {ex : Bool} {x0 x1 x2 x3 x4 x5 : Option Value} {u : Nat} {v : Int32} : X z 205 37 [x0, x1, x2, x3, x4, x5] (.int v :: .ref u :: st) cu (K, I, R, L, sz, ex) Q = (((K u).1 = 20 ∨ (K u).1 = 50) ∧ vp_in v (K u).2 ∧ X z 205 38 [x0, x1, x2, x3, x4, x5] (.int (I u v.toNatClampNeg) :: st) cu (K, I, R, L, sz, ex) Q) := by
  rw [x205_37]
  rfl
theorem v205_38 {z : P0} {st : List Value} {cu : Nat × Nat} {Q : Res → Mem → Prop} {σ : Mem} {x0 x1 x2 x3 x4 x5 : Option Value} {u : Int32} : X z 205 38 [x0, x1, x2, x3, x4, x5] (.int u :: st) cu σ Q = (if u < nI 0 then X z 205 41 [x0, x1, x2, x3, x4, x5] (st) cu σ Q else X z 205 56 [x0, x1, x2, x3, x4, x5] (st) cu σ Q) := by
  rw [x205_38]
  rw [nI_0]
  obtain ⟨K, I, R, L, sz, ex⟩ := σ
  exact br_ge
theorem v205_41 {z : P0} {st : List Value} {cu : Nat × Nat} {Q : Res → Mem → Prop} {σ : Mem} {x1 x2 x3 x4 x5 : Option Value} {u : Nat} : X z 205 41 [some (.ref u), x1, x2, x3, x4, x5] (st) cu σ Q = (X z 205 42 [some (.ref u), x1, x2, x3, x4, x5] (.ref u :: st) cu σ Q) := by
  rw [x205_41]
  rfl
theorem v205_42 {z : P0} {st : List Value} {cu : Nat × Nat} {Q : Res → Mem → Prop} {σ : Mem} {x0 x1 x2 x3 x5 : Option Value} {u : Nat} : X z 205 42 [x0, x1, x2, x3, some (.ref u), x5] (st) cu σ Q = (X z 205 44 [x0, x1, x2, x3, some (.ref u), x5] (.ref u :: st) cu σ Q) := by
  rw [x205_42]
  rfl
theorem v205_44 {z : P0} {st : List Value} {cu : Nat × Nat} {Q : Res → Mem → Prop} {σ : Mem} {x0 x1 x2 x3 x4 x5 : Option Value} : X z 205 44 [x0, x1, x2, x3, x4, x5] (st) cu σ Q = (X z 205 46 [x0, x1, x2, x3, x4, x5] (.int (nI 119) :: st) cu σ Q) := by
  rw [x205_44]
  rfl
theorem u205_46 {z : P0} {ls : Lcs} {st : List Value} {K : Nat → Nat × Nat} {I : Nat → Nat → Int32} {R : Nat → Nat → Option Nat} {L : Nat → Nat → Int64} {sz : Nat} {ex : Bool} {Q : Res → Mem → Prop} {a0 : Nat} {a1 : Nat} {a2 : Int32} : X z 205 46 ls (.int a2 :: .ref a1 :: .ref a0 :: st) (0, 0) (K, I, R, L, sz, ex) Q = (wsum st ≤ 8 ∧ X z 204 0 [some (.ref a0), some (.ref a1), some (.int a2), none] [] (0, 0) (K, I, R, L, sz, ex) (aftr (X z) mT 205 46 ls st (0, 0) Q)) := v205_46 (c := 0) (n := 0)
theorem v205_49 {z : P0} {st : List Value} {cu : Nat × Nat} {Q : Res → Mem → Prop} {σ : Mem} {x0 x1 x2 x3 x4 x5 : Option Value} {u : Int32} : X z 205 49 [x0, x1, x2, x3, x4, x5] (.int u :: st) cu σ Q = (if u = nI 0 then X z 205 56 [x0, x1, x2, x3, x4, x5] (st) cu σ Q else X z 205 52 [x0, x1, x2, x3, x4, x5] (st) cu σ Q) := by
  rw [x205_49]
  rw [nI_0]
  obtain ⟨K, I, R, L, sz, ex⟩ := σ
  exact br_ite
theorem v205_52 {z : P0} {st : List Value} {cu : Nat × Nat} {Q : Res → Mem → Prop} {σ : Mem} {x0 x1 x2 x3 x4 x5 : Option Value} : X z 205 52 [x0, x1, x2, x3, x4, x5] (st) cu σ Q = (X z 205 53 [x0, x1, x2, x3, x4, x5] (.int (nI 3) :: st) cu σ Q) := by
  rw [x205_52]
  rfl
theorem v205_53 {z : P0} {st : List Value} {cu : Nat × Nat} {Q : Res → Mem → Prop} {σ : Mem} {x0 x1 x2 x3 x4 x5 : Option Value} : X z 205 53 [x0, x1, x2, x3, x4, x5] (st) cu σ Q = (X z 205 57 [x0, x1, x2, x3, x4, x5] (st) cu σ Q) := by
  rw [x205_53]
  rfl
theorem v205_56 {z : P0} {st : List Value} {cu : Nat × Nat} {Q : Res → Mem → Prop} {σ : Mem} {x0 x1 x2 x3 x4 x5 : Option Value} : X z 205 56 [x0, x1, x2, x3, x4, x5] (st) cu σ Q = (X z 205 57 [x0, x1, x2, x3, x4, x5] (.int (nI 0) :: st) cu σ Q) := by
  rw [x205_56]
  rfl
theorem v205_57 {z : P0} {cu : Nat × Nat} {Q : Res → Mem → Prop} {σ : Mem} {x0 x1 x2 x3 x4 x5 : Option Value} {v : Int32} : X z 205 57 [x0, x1, x2, x3, x4, x5] ([.int v]) cu σ Q = (Q (.inl (some (.int v))) σ) := by
  rw [x205_57]
  exact propext ⟨fun h => h.2, fun h => ⟨trivial, h⟩⟩
theorem v206_0 {z : P0} {st : List Value} {cu : Nat × Nat} {Q : Res → Mem → Prop} {σ : Mem} {x0 x1 x2 : Option Value} : X z 206 0 [x0, x1, x2] (st) cu σ Q = (X z 206 1 [x0, x1, x2] (.int (nI 0) :: st) cu σ Q) := by
  rw [x206_0]
  rfl
theorem v206_1 {z : P0} {st : List Value} {cu : Nat × Nat} {Q : Res → Mem → Prop} {σ : Mem} {x0 x1 x2 : Option Value} {u : Int32} : X z 206 1 [x0, x1, x2] (.int u :: st) cu σ Q = (cat2 x0 = false ∧ X z 206 2 [x0, some (.int u), x2] (st) cu σ Q) := by
  rw [x206_1]
  obtain ⟨K, I, R, L, sz, ex⟩ := σ
  exact i_istore_n.trans sl_1
theorem v206_2 {z : P0} {st : List Value} {cu : Nat × Nat} {Q : Res → Mem → Prop} {σ : Mem} {x0 x1 x2 : Option Value} : X z 206 2 [x0, x1, x2] (st) cu σ Q = (X z 206 3 [x0, x1, x2] (.int (nI 0) :: st) cu σ Q) := by
  rw [x206_2]
  rfl
theorem v206_3 {z : P0} {st : List Value} {cu : Nat × Nat} {Q : Res → Mem → Prop} {σ : Mem} {x0 x1 x2 : Option Value} {u : Int32} : X z 206 3 [x0, x1, x2] (.int u :: st) cu σ Q = (cat2 x1 = false ∧ X z 206 4 [x0, x1, some (.int u)] (st) cu σ Q) := by
  rw [x206_3]
  obtain ⟨K, I, R, L, sz, ex⟩ := σ
  exact i_istore_n.trans sl_2
theorem v206_4 {z : P0} {st : List Value} {cu : Nat × Nat} {Q : Res → Mem → Prop} {σ : Mem} {x0 x1 : Option Value} {u : Int32} : X z 206 4 [x0, x1, some (.int u)] (st) cu σ Q = (X z 206 5 [x0, x1, some (.int u)] (.int u :: st) cu σ Q) := by
  rw [x206_4]
  rfl
theorem v206_5 {z : P0} {st : List Value} {cu : Nat × Nat} {Q : Res → Mem → Prop} {σ : Mem} {x0 x1 x2 : Option Value} : X z 206 5 [x0, x1, x2] (st) cu σ Q = (X z 206 7 [x0, x1, x2] (.int (nI 20) :: st) cu σ Q) := by
  rw [x206_5]
  rfl
theorem v206_7 {z : P0} {st : List Value} {cu : Nat × Nat} {Q : Res → Mem → Prop} {σ : Mem} {x0 x1 x2 : Option Value} {u v : Int32} : X z 206 7 [x0, x1, x2] (.int v :: .int u :: st) cu σ Q = (if u < v then X z 206 10 [x0, x1, x2] (st) cu σ Q else X z 206 24 [x0, x1, x2] (st) cu σ Q) := by
  rw [x206_7]
  obtain ⟨K, I, R, L, sz, ex⟩ := σ
  exact br_ge
theorem v206_10 {z : P0} {st : List Value} {cu : Nat × Nat} {Q : Res → Mem → Prop} {σ : Mem} {x0 x2 : Option Value} {u : Int32} : X z 206 10 [x0, some (.int u), x2] (st) cu σ Q = (X z 206 11 [x0, some (.int u), x2] (.int u :: st) cu σ Q) := by
  rw [x206_10]
  rfl
theorem v206_11 {z : P0} {st : List Value} {cu : Nat × Nat} {Q : Res → Mem → Prop} {σ : Mem} {x1 x2 : Option Value} {u : Int32} : X z 206 11 [some (.int u), x1, x2] (st) cu σ Q = (X z 206 12 [some (.int u), x1, x2] (.int u :: st) cu σ Q) := by
  rw [x206_11]
  rfl
theorem v206_12 {z : P0} {st : List Value} {cu : Nat × Nat} {Q : Res → Mem → Prop} {σ : Mem} {x0 x1 : Option Value} {u : Int32} : X z 206 12 [x0, x1, some (.int u)] (st) cu σ Q = (X z 206 13 [x0, x1, some (.int u)] (.int u :: st) cu σ Q) := by
  rw [x206_12]
  rfl
theorem v206_13 {z : P0} {st : List Value} {cu : Nat × Nat} {Q : Res → Mem → Prop} {σ : Mem} {x0 x1 x2 : Option Value} {u v : Int32} : X z 206 13 [x0, x1, x2] (.int v :: .int u :: st) cu σ Q = (X z 206 14 [x0, x1, x2] (.int (u >>> (v &&& 31)) :: st) cu σ Q) := by
  rw [x206_13]
  rfl
theorem v206_14 {z : P0} {st : List Value} {cu : Nat × Nat} {Q : Res → Mem → Prop} {σ : Mem} {x0 x1 x2 : Option Value} : X z 206 14 [x0, x1, x2] (st) cu σ Q = (X z 206 15 [x0, x1, x2] (.int (nI 1) :: st) cu σ Q) := by
  rw [x206_14]
  rfl
theorem v206_15 {z : P0} {st : List Value} {cu : Nat × Nat} {Q : Res → Mem → Prop} {σ : Mem} {x0 x1 x2 : Option Value} {u v : Int32} : X z 206 15 [x0, x1, x2] (.int v :: .int u :: st) cu σ Q = (X z 206 16 [x0, x1, x2] (.int (u &&& v) :: st) cu σ Q) := by
  rw [x206_15]
  rfl
theorem v206_16 {z : P0} {st : List Value} {cu : Nat × Nat} {Q : Res → Mem → Prop} {σ : Mem} {x0 x1 x2 : Option Value} {u v : Int32} : X z 206 16 [x0, x1, x2] (.int v :: .int u :: st) cu σ Q = (X z 206 17 [x0, x1, x2] (.int (u + v) :: st) cu σ Q) := by
  rw [x206_16]
  rfl
theorem v206_17 {z : P0} {st : List Value} {cu : Nat × Nat} {Q : Res → Mem → Prop} {σ : Mem} {x0 x1 x2 : Option Value} {u : Int32} : X z 206 17 [x0, x1, x2] (.int u :: st) cu σ Q = (cat2 x0 = false ∧ X z 206 18 [x0, some (.int u), x2] (st) cu σ Q) := by
  rw [x206_17]
  obtain ⟨K, I, R, L, sz, ex⟩ := σ
  exact i_istore_n.trans sl_1
theorem v206_18 {z : P0} {st : List Value} {cu : Nat × Nat} {Q : Res → Mem → Prop} {σ : Mem} {x0 x1 : Option Value} {u : Int32} : X z 206 18 [x0, x1, some (.int u)] (st) cu σ Q = (cat2 x1 = false ∧ X z 206 21 [x0, x1, some (.int (u + nI 1))] (st) cu σ Q) := by
  rw [x206_18]
  obtain ⟨K, I, R, L, sz, ex⟩ := σ
  exact i_iinc.trans (gl_2.trans (ldI_i.trans sl_2))
theorem v206_21 {z : P0} {st : List Value} {cu : Nat × Nat} {Q : Res → Mem → Prop} {σ : Mem} {x0 x1 x2 : Option Value} : X z 206 21 [x0, x1, x2] (st) cu σ Q = (X z 206 4 [x0, x1, x2] (st) cu σ Q) := by
  rw [x206_21]
  rfl
theorem v206_24 {z : P0} {st : List Value} {cu : Nat × Nat} {Q : Res → Mem → Prop} {σ : Mem} {x0 x2 : Option Value} {u : Int32} : X z 206 24 [x0, some (.int u), x2] (st) cu σ Q = (X z 206 25 [x0, some (.int u), x2] (.int u :: st) cu σ Q) := by
  rw [x206_24]
  rfl
theorem v206_25 {z : P0} {cu : Nat × Nat} {Q : Res → Mem → Prop} {σ : Mem} {x0 x1 x2 : Option Value} {v : Int32} : X z 206 25 [x0, x1, x2] ([.int v]) cu σ Q = (Q (.inl (some (.int v))) σ) := by
  rw [x206_25]
  exact propext ⟨fun h => h.2, fun h => ⟨trivial, h⟩⟩
theorem v207_0 {z : P0} {st : List Value} {cu : Nat × Nat} {Q : Res → Mem → Prop} {σ : Mem} {x1 x2 x3 x4 x5 x6 x7 x8 x9 x10 : Option Value} {u : Nat} : X z 207 0 [some (.ref u), x1, x2, x3, x4, x5, x6, x7, x8, x9, x10] (st) cu σ Q = (X z 207 1 [some (.ref u), x1, x2, x3, x4, x5, x6, x7, x8, x9, x10] (.ref u :: st) cu σ Q) := by
  rw [x207_0]
  rfl
theorem v207_1 {z : P0} {st : List Value} {cu : Nat × Nat} {Q : Res → Mem → Prop} {σ : Mem} {x0 x1 x2 x3 x4 x5 x6 x7 x8 x9 x10 : Option Value} : X z 207 1 [x0, x1, x2, x3, x4, x5, x6, x7, x8, x9, x10] (st) cu σ Q = (X z 207 3 [x0, x1, x2, x3, x4, x5, x6, x7, x8, x9, x10] (.int (nI 14) :: st) cu σ Q) := by
  rw [x207_1]
  rfl
theorem v207_3 {z : P0} {st : List Value} {cu : Nat × Nat} {Q : Res → Mem → Prop} {σ : Mem} {x0 x1 x2 x3 x4 x5 x6 x7 x8 x9 x10 : Option Value} : X z 207 3 [x0, x1, x2, x3, x4, x5, x6, x7, x8, x9, x10] (st) cu σ Q = (X z 207 4 [x0, x1, x2, x3, x4, x5, x6, x7, x8, x9, x10] (.int (nI 0) :: st) cu σ Q) := by
  rw [x207_3]
  rfl
theorem v207_4 {z : P0} {st : List Value} {cu : Nat × Nat} {Q : Res → Mem → Prop} {K : Nat → Nat × Nat} {I : Nat → Nat → Int32} {R : Nat → Nat → Option Nat} {L : Nat → Nat → Int64} {sz : Nat} {ex : Bool} {x0 x1 x2 x3 x4 x5 x6 x7 x8 x9 x10 : Option Value} {u : Nat} {j v : Int32} : X z 207 4 [x0, x1, x2, x3, x4, x5, x6, x7, x8, x9, x10] (.int v :: .int j :: .ref u :: st) cu (K, I, R, L, sz, ex) Q = ((K u).1 = 20 ∧ vp_in j (K u).2 ∧ X z 207 5 [x0, x1, x2, x3, x4, x5, x6, x7, x8, x9, x10] (st) cu (K, up2 I u j.toNatClampNeg v, R, L, sz, ex) Q) := by
  rw [x207_4]
  rfl
theorem v207_5 {z : P0} {st : List Value} {cu : Nat × Nat} {Q : Res → Mem → Prop} {σ : Mem} {x0 x1 x2 x3 x4 x5 x6 x7 x8 x9 x10 : Option Value} : X z 207 5 [x0, x1, x2, x3, x4, x5, x6, x7, x8, x9, x10] (st) cu σ Q = (X z 207 6 [x0, x1, x2, x3, x4, x5, x6, x7, x8, x9, x10] (.int (nI 0) :: st) cu σ Q) := by
  rw [x207_5]
  rfl
theorem v207_6 {z : P0} {st : List Value} {cu : Nat × Nat} {Q : Res → Mem → Prop} {σ : Mem} {x0 x1 x2 x3 x4 x5 x6 x7 x8 x9 x10 : Option Value} {u : Int32} : X z 207 6 [x0, x1, x2, x3, x4, x5, x6, x7, x8, x9, x10] (.int u :: st) cu σ Q = (cat2 x6 = false ∧ X z 207 8 [x0, x1, x2, x3, x4, x5, x6, some (.int u), x8, x9, x10] (st) cu σ Q) := by
  rw [x207_6]
  obtain ⟨K, I, R, L, sz, ex⟩ := σ
  exact i_istore.trans sl_7
theorem v207_8 {z : P0} {st : List Value} {cu : Nat × Nat} {Q : Res → Mem → Prop} {σ : Mem} {x0 x1 x2 x3 x4 x5 x6 x8 x9 x10 : Option Value} {u : Int32} : X z 207 8 [x0, x1, x2, x3, x4, x5, x6, some (.int u), x8, x9, x10] (st) cu σ Q = (X z 207 10 [x0, x1, x2, x3, x4, x5, x6, some (.int u), x8, x9, x10] (.int u :: st) cu σ Q) := by
  rw [x207_8]
  rfl
theorem v207_10 {z : P0} {st : List Value} {cu : Nat × Nat} {Q : Res → Mem → Prop} {σ : Mem} {x1 x2 x3 x4 x5 x6 x7 x8 x9 x10 : Option Value} {u : Nat} : X z 207 10 [some (.ref u), x1, x2, x3, x4, x5, x6, x7, x8, x9, x10] (st) cu σ Q = (X z 207 11 [some (.ref u), x1, x2, x3, x4, x5, x6, x7, x8, x9, x10] (.ref u :: st) cu σ Q) := by
  rw [x207_10]
  rfl
theorem v207_11 {z : P0} {st : List Value} {cu : Nat × Nat} {Q : Res → Mem → Prop} {σ : Mem} {x0 x1 x2 x3 x4 x5 x6 x7 x8 x9 x10 : Option Value} : X z 207 11 [x0, x1, x2, x3, x4, x5, x6, x7, x8, x9, x10] (st) cu σ Q = (X z 207 12 [x0, x1, x2, x3, x4, x5, x6, x7, x8, x9, x10] (.int (nI 0) :: st) cu σ Q) := by
  rw [x207_11]
  rfl
theorem v207_12 {z : P0} {st : List Value} {cu : Nat × Nat} {Q : Res → Mem → Prop} {K : Nat → Nat × Nat} {I : Nat → Nat → Int32} {R : Nat → Nat → Option Nat} {L : Nat → Nat → Int64} {sz : Nat} {ex : Bool} {x0 x1 x2 x3 x4 x5 x6 x7 x8 x9 x10 : Option Value} {u : Nat} {v : Int32} : X z 207 12 [x0, x1, x2, x3, x4, x5, x6, x7, x8, x9, x10] (.int v :: .ref u :: st) cu (K, I, R, L, sz, ex) Q = (((K u).1 = 20 ∨ (K u).1 = 50) ∧ vp_in v (K u).2 ∧ X z 207 13 [x0, x1, x2, x3, x4, x5, x6, x7, x8, x9, x10] (.int (I u v.toNatClampNeg) :: st) cu (K, I, R, L, sz, ex) Q) := by
  rw [x207_12]
  rfl
theorem v207_13 {z : P0} {st : List Value} {cu : Nat × Nat} {Q : Res → Mem → Prop} {σ : Mem} {x0 x1 x2 x3 x4 x5 x6 x7 x8 x9 x10 : Option Value} {u v : Int32} : X z 207 13 [x0, x1, x2, x3, x4, x5, x6, x7, x8, x9, x10] (.int v :: .int u :: st) cu σ Q = (if u < v then X z 207 16 [x0, x1, x2, x3, x4, x5, x6, x7, x8, x9, x10] (st) cu σ Q else X z 207 155 [x0, x1, x2, x3, x4, x5, x6, x7, x8, x9, x10] (st) cu σ Q) := by
  rw [x207_13]
  obtain ⟨K, I, R, L, sz, ex⟩ := σ
  exact br_ge
theorem v207_16 {z : P0} {st : List Value} {cu : Nat × Nat} {Q : Res → Mem → Prop} {σ : Mem} {x1 x2 x3 x4 x5 x6 x7 x8 x9 x10 : Option Value} {u : Nat} : X z 207 16 [some (.ref u), x1, x2, x3, x4, x5, x6, x7, x8, x9, x10] (st) cu σ Q = (X z 207 17 [some (.ref u), x1, x2, x3, x4, x5, x6, x7, x8, x9, x10] (.ref u :: st) cu σ Q) := by
  rw [x207_16]
  rfl
theorem v207_17 {z : P0} {st : List Value} {cu : Nat × Nat} {Q : Res → Mem → Prop} {σ : Mem} {x0 x1 x3 x4 x5 x6 x7 x8 x9 x10 : Option Value} {u : Nat} : X z 207 17 [x0, x1, some (.ref u), x3, x4, x5, x6, x7, x8, x9, x10] (st) cu σ Q = (X z 207 18 [x0, x1, some (.ref u), x3, x4, x5, x6, x7, x8, x9, x10] (.ref u :: st) cu σ Q) := by
  rw [x207_17]
  rfl
theorem v207_18 {z : P0} {st : List Value} {cu : Nat × Nat} {Q : Res → Mem → Prop} {σ : Mem} {x0 x1 x2 x4 x5 x6 x7 x8 x9 x10 : Option Value} {u : Nat} : X z 207 18 [x0, x1, x2, some (.ref u), x4, x5, x6, x7, x8, x9, x10] (st) cu σ Q = (X z 207 19 [x0, x1, x2, some (.ref u), x4, x5, x6, x7, x8, x9, x10] (.ref u :: st) cu σ Q) := by
  rw [x207_18]
  rfl
theorem v207_19 {z : P0} {st : List Value} {cu : Nat × Nat} {Q : Res → Mem → Prop} {σ : Mem} {x0 x1 x2 x3 x5 x6 x7 x8 x9 x10 : Option Value} {u : Nat} : X z 207 19 [x0, x1, x2, x3, some (.ref u), x5, x6, x7, x8, x9, x10] (st) cu σ Q = (X z 207 21 [x0, x1, x2, x3, some (.ref u), x5, x6, x7, x8, x9, x10] (.ref u :: st) cu σ Q) := by
  rw [x207_19]
  rfl
theorem v207_21 {z : P0} {st : List Value} {cu : Nat × Nat} {Q : Res → Mem → Prop} {σ : Mem} {x0 x1 x2 x3 x4 x6 x7 x8 x9 x10 : Option Value} {u : Nat} : X z 207 21 [x0, x1, x2, x3, x4, some (.ref u), x6, x7, x8, x9, x10] (st) cu σ Q = (X z 207 23 [x0, x1, x2, x3, x4, some (.ref u), x6, x7, x8, x9, x10] (.ref u :: st) cu σ Q) := by
  rw [x207_21]
  rfl
theorem v207_23 {z : P0} {st : List Value} {cu : Nat × Nat} {Q : Res → Mem → Prop} {σ : Mem} {x0 x1 x2 x3 x4 x5 x6 x8 x9 x10 : Option Value} {u : Int32} : X z 207 23 [x0, x1, x2, x3, x4, x5, x6, some (.int u), x8, x9, x10] (st) cu σ Q = (X z 207 25 [x0, x1, x2, x3, x4, x5, x6, some (.int u), x8, x9, x10] (.int u :: st) cu σ Q) := by
  rw [x207_23]
  rfl
theorem u207_25 {z : P0} {ls : Lcs} {st : List Value} {K : Nat → Nat × Nat} {I : Nat → Nat → Int32} {R : Nat → Nat → Option Nat} {L : Nat → Nat → Int64} {sz : Nat} {ex : Bool} {Q : Res → Mem → Prop} {a0 : Nat} {a1 : Nat} {a2 : Nat} {a3 : Nat} {a4 : Nat} {a5 : Int32} : X z 207 25 ls (.int a5 :: .ref a4 :: .ref a3 :: .ref a2 :: .ref a1 :: .ref a0 :: st) (0, 0) (K, I, R, L, sz, ex) Q = (wsum st ≤ 8 ∧ X z 205 0 [some (.ref a0), some (.ref a1), some (.ref a2), some (.ref a3), some (.ref a4), some (.int a5)] [] (0, 0) (K, I, R, L, sz, ex) (aftr (X z) mT 207 25 ls st (0, 0) Q)) := v207_25 (c := 0) (n := 0)
theorem v207_28 {z : P0} {st : List Value} {cu : Nat × Nat} {Q : Res → Mem → Prop} {σ : Mem} {x0 x1 x2 x3 x4 x5 x6 x7 x8 x9 x10 : Option Value} {u : Int32} : X z 207 28 [x0, x1, x2, x3, x4, x5, x6, x7, x8, x9, x10] (.int u :: st) cu σ Q = (if nI 0 < u then X z 207 31 [x0, x1, x2, x3, x4, x5, x6, x7, x8, x9, x10] (st) cu σ Q else X z 207 34 [x0, x1, x2, x3, x4, x5, x6, x7, x8, x9, x10] (st) cu σ Q) := by
  rw [x207_28]
  rw [nI_0]
  obtain ⟨K, I, R, L, sz, ex⟩ := σ
  exact br_ge
theorem v207_31 {z : P0} {st : List Value} {cu : Nat × Nat} {Q : Res → Mem → Prop} {σ : Mem} {x0 x1 x2 x3 x4 x5 x6 x7 x8 x9 x10 : Option Value} : X z 207 31 [x0, x1, x2, x3, x4, x5, x6, x7, x8, x9, x10] (st) cu σ Q = (X z 207 149 [x0, x1, x2, x3, x4, x5, x6, x7, x8, x9, x10] (st) cu σ Q) := by
  rw [x207_31]
  rfl
theorem v207_34 {z : P0} {st : List Value} {cu : Nat × Nat} {Q : Res → Mem → Prop} {σ : Mem} {x0 x1 x2 x3 x4 x5 x6 x7 x8 x9 x10 : Option Value} : X z 207 34 [x0, x1, x2, x3, x4, x5, x6, x7, x8, x9, x10] (st) cu σ Q = (X z 207 35 [x0, x1, x2, x3, x4, x5, x6, x7, x8, x9, x10] (.int (nI 4294967295) :: st) cu σ Q) := by
  rw [x207_34]
  rw [neg1]
  rfl
theorem v207_35 {z : P0} {st : List Value} {cu : Nat × Nat} {Q : Res → Mem → Prop} {σ : Mem} {x0 x1 x2 x3 x4 x5 x6 x7 x8 x9 x10 : Option Value} {u : Int32} : X z 207 35 [x0, x1, x2, x3, x4, x5, x6, x7, x8, x9, x10] (.int u :: st) cu σ Q = (cat2 x7 = false ∧ X z 207 37 [x0, x1, x2, x3, x4, x5, x6, x7, some (.int u), x9, x10] (st) cu σ Q) := by
  rw [x207_35]
  obtain ⟨K, I, R, L, sz, ex⟩ := σ
  exact i_istore.trans sl_8
theorem v207_37 {z : P0} {st : List Value} {cu : Nat × Nat} {Q : Res → Mem → Prop} {σ : Mem} {x0 x1 x2 x3 x4 x5 x6 x7 x8 x9 x10 : Option Value} : X z 207 37 [x0, x1, x2, x3, x4, x5, x6, x7, x8, x9, x10] (st) cu σ Q = (X z 207 38 [x0, x1, x2, x3, x4, x5, x6, x7, x8, x9, x10] (.int (nI 0) :: st) cu σ Q) := by
  rw [x207_37]
  rfl
theorem v207_38 {z : P0} {st : List Value} {cu : Nat × Nat} {Q : Res → Mem → Prop} {σ : Mem} {x0 x1 x2 x3 x4 x5 x6 x7 x8 x9 x10 : Option Value} {u : Int32} : X z 207 38 [x0, x1, x2, x3, x4, x5, x6, x7, x8, x9, x10] (.int u :: st) cu σ Q = (cat2 x8 = false ∧ X z 207 40 [x0, x1, x2, x3, x4, x5, x6, x7, x8, some (.int u), x10] (st) cu σ Q) := by
  rw [x207_38]
  obtain ⟨K, I, R, L, sz, ex⟩ := σ
  exact i_istore.trans sl_9
theorem v207_40 {z : P0} {st : List Value} {cu : Nat × Nat} {Q : Res → Mem → Prop} {σ : Mem} {x0 x1 x2 x3 x4 x5 x6 x7 x8 x10 : Option Value} {u : Int32} : X z 207 40 [x0, x1, x2, x3, x4, x5, x6, x7, x8, some (.int u), x10] (st) cu σ Q = (X z 207 42 [x0, x1, x2, x3, x4, x5, x6, x7, x8, some (.int u), x10] (.int u :: st) cu σ Q) := by
  rw [x207_40]
  rfl
theorem v207_42 {z : P0} {st : List Value} {cu : Nat × Nat} {Q : Res → Mem → Prop} {σ : Mem} {x0 x1 x2 x3 x4 x5 x6 x8 x9 x10 : Option Value} {u : Int32} : X z 207 42 [x0, x1, x2, x3, x4, x5, x6, some (.int u), x8, x9, x10] (st) cu σ Q = (X z 207 44 [x0, x1, x2, x3, x4, x5, x6, some (.int u), x8, x9, x10] (.int u :: st) cu σ Q) := by
  rw [x207_42]
  rfl
theorem v207_44 {z : P0} {st : List Value} {cu : Nat × Nat} {Q : Res → Mem → Prop} {σ : Mem} {x0 x1 x2 x3 x4 x5 x6 x7 x8 x9 x10 : Option Value} {u v : Int32} : X z 207 44 [x0, x1, x2, x3, x4, x5, x6, x7, x8, x9, x10] (.int v :: .int u :: st) cu σ Q = (if u < v then X z 207 47 [x0, x1, x2, x3, x4, x5, x6, x7, x8, x9, x10] (st) cu σ Q else X z 207 115 [x0, x1, x2, x3, x4, x5, x6, x7, x8, x9, x10] (st) cu σ Q) := by
  rw [x207_44]
  obtain ⟨K, I, R, L, sz, ex⟩ := σ
  exact br_ge
theorem v207_47 {z : P0} {st : List Value} {cu : Nat × Nat} {Q : Res → Mem → Prop} {σ : Mem} {x0 x1 x2 x3 x4 x5 x6 x7 x8 x9 x10 : Option Value} : X z 207 47 [x0, x1, x2, x3, x4, x5, x6, x7, x8, x9, x10] (st) cu σ Q = (X z 207 48 [x0, x1, x2, x3, x4, x5, x6, x7, x8, x9, x10] (.int (nI 0) :: st) cu σ Q) := by
  rw [x207_47]
  rfl
theorem v207_48 {z : P0} {st : List Value} {cu : Nat × Nat} {Q : Res → Mem → Prop} {σ : Mem} {x0 x1 x2 x3 x4 x5 x6 x7 x8 x9 x10 : Option Value} {u : Int32} : X z 207 48 [x0, x1, x2, x3, x4, x5, x6, x7, x8, x9, x10] (.int u :: st) cu σ Q = (cat2 x9 = false ∧ X z 207 50 [x0, x1, x2, x3, x4, x5, x6, x7, x8, x9, some (.int u)] (st) cu σ Q) := by
  rw [x207_48]
  obtain ⟨K, I, R, L, sz, ex⟩ := σ
  exact i_istore.trans sl_10
theorem v207_50 {z : P0} {st : List Value} {cu : Nat × Nat} {Q : Res → Mem → Prop} {σ : Mem} {x0 x1 x2 x3 x4 x5 x6 x7 x8 x9 : Option Value} {u : Int32} : X z 207 50 [x0, x1, x2, x3, x4, x5, x6, x7, x8, x9, some (.int u)] (st) cu σ Q = (X z 207 52 [x0, x1, x2, x3, x4, x5, x6, x7, x8, x9, some (.int u)] (.int u :: st) cu σ Q) := by
  rw [x207_50]
  rfl
theorem v207_52 {z : P0} {st : List Value} {cu : Nat × Nat} {Q : Res → Mem → Prop} {σ : Mem} {x1 x2 x3 x4 x5 x6 x7 x8 x9 x10 : Option Value} {u : Nat} : X z 207 52 [some (.ref u), x1, x2, x3, x4, x5, x6, x7, x8, x9, x10] (st) cu σ Q = (X z 207 53 [some (.ref u), x1, x2, x3, x4, x5, x6, x7, x8, x9, x10] (.ref u :: st) cu σ Q) := by
  rw [x207_52]
  rfl
theorem v207_53 {z : P0} {st : List Value} {cu : Nat × Nat} {Q : Res → Mem → Prop} {σ : Mem} {x0 x1 x2 x3 x4 x5 x6 x7 x8 x9 x10 : Option Value} : X z 207 53 [x0, x1, x2, x3, x4, x5, x6, x7, x8, x9, x10] (st) cu σ Q = (X z 207 55 [x0, x1, x2, x3, x4, x5, x6, x7, x8, x9, x10] (.int (nI 14) :: st) cu σ Q) := by
  rw [x207_53]
  rfl
theorem v207_55 {z : P0} {st : List Value} {cu : Nat × Nat} {Q : Res → Mem → Prop} {K : Nat → Nat × Nat} {I : Nat → Nat → Int32} {R : Nat → Nat → Option Nat} {L : Nat → Nat → Int64} {sz : Nat} {ex : Bool} {x0 x1 x2 x3 x4 x5 x6 x7 x8 x9 x10 : Option Value} {u : Nat} {v : Int32} : X z 207 55 [x0, x1, x2, x3, x4, x5, x6, x7, x8, x9, x10] (.int v :: .ref u :: st) cu (K, I, R, L, sz, ex) Q = (((K u).1 = 20 ∨ (K u).1 = 50) ∧ vp_in v (K u).2 ∧ X z 207 56 [x0, x1, x2, x3, x4, x5, x6, x7, x8, x9, x10] (.int (I u v.toNatClampNeg) :: st) cu (K, I, R, L, sz, ex) Q) := by
  rw [x207_55]
  rfl
theorem v207_56 {z : P0} {st : List Value} {cu : Nat × Nat} {Q : Res → Mem → Prop} {σ : Mem} {x0 x1 x2 x3 x4 x5 x6 x7 x8 x9 x10 : Option Value} {u v : Int32} : X z 207 56 [x0, x1, x2, x3, x4, x5, x6, x7, x8, x9, x10] (.int v :: .int u :: st) cu σ Q = (if u < v then X z 207 59 [x0, x1, x2, x3, x4, x5, x6, x7, x8, x9, x10] (st) cu σ Q else X z 207 109 [x0, x1, x2, x3, x4, x5, x6, x7, x8, x9, x10] (st) cu σ Q) := by
  rw [x207_56]
  obtain ⟨K, I, R, L, sz, ex⟩ := σ
  exact br_ge
theorem v207_59 {z : P0} {st : List Value} {cu : Nat × Nat} {Q : Res → Mem → Prop} {σ : Mem} {x0 x2 x3 x4 x5 x6 x7 x8 x9 x10 : Option Value} {u : Nat} : X z 207 59 [x0, some (.ref u), x2, x3, x4, x5, x6, x7, x8, x9, x10] (st) cu σ Q = (X z 207 60 [x0, some (.ref u), x2, x3, x4, x5, x6, x7, x8, x9, x10] (.ref u :: st) cu σ Q) := by
  rw [x207_59]
  rfl
theorem v207_60 {z : P0} {st : List Value} {cu : Nat × Nat} {Q : Res → Mem → Prop} {σ : Mem} {x0 x1 x2 x3 x4 x5 x6 x7 x8 x10 : Option Value} {u : Int32} : X z 207 60 [x0, x1, x2, x3, x4, x5, x6, x7, x8, some (.int u), x10] (st) cu σ Q = (X z 207 62 [x0, x1, x2, x3, x4, x5, x6, x7, x8, some (.int u), x10] (.int u :: st) cu σ Q) := by
  rw [x207_60]
  rfl
theorem v207_62 {z : P0} {st : List Value} {cu : Nat × Nat} {Q : Res → Mem → Prop} {K : Nat → Nat × Nat} {I : Nat → Nat → Int32} {R : Nat → Nat → Option Nat} {L : Nat → Nat → Int64} {sz : Nat} {ex : Bool} {x0 x1 x2 x3 x4 x5 x6 x7 x8 x9 x10 : Option Value} {u : Nat} {v : Int32} : X z 207 62 [x0, x1, x2, x3, x4, x5, x6, x7, x8, x9, x10] (.int v :: .ref u :: st) cu (K, I, R, L, sz, ex) Q = (((K u).1 = 20 ∨ (K u).1 = 50) ∧ vp_in v (K u).2 ∧ X z 207 63 [x0, x1, x2, x3, x4, x5, x6, x7, x8, x9, x10] (.int (I u v.toNatClampNeg) :: st) cu (K, I, R, L, sz, ex) Q) := by
  rw [x207_62]
  rfl
theorem v207_63 {z : P0} {st : List Value} {cu : Nat × Nat} {Q : Res → Mem → Prop} {σ : Mem} {x0 x2 x3 x4 x5 x6 x7 x8 x9 x10 : Option Value} {u : Nat} : X z 207 63 [x0, some (.ref u), x2, x3, x4, x5, x6, x7, x8, x9, x10] (st) cu σ Q = (X z 207 64 [x0, some (.ref u), x2, x3, x4, x5, x6, x7, x8, x9, x10] (.ref u :: st) cu σ Q) := by
  rw [x207_63]
  rfl
theorem v207_64 {z : P0} {st : List Value} {cu : Nat × Nat} {Q : Res → Mem → Prop} {σ : Mem} {x0 x1 x2 x3 x4 x5 x6 x8 x9 x10 : Option Value} {u : Int32} : X z 207 64 [x0, x1, x2, x3, x4, x5, x6, some (.int u), x8, x9, x10] (st) cu σ Q = (X z 207 66 [x0, x1, x2, x3, x4, x5, x6, some (.int u), x8, x9, x10] (.int u :: st) cu σ Q) := by
  rw [x207_64]
  rfl
theorem v207_66 {z : P0} {st : List Value} {cu : Nat × Nat} {Q : Res → Mem → Prop} {K : Nat → Nat × Nat} {I : Nat → Nat → Int32} {R : Nat → Nat → Option Nat} {L : Nat → Nat → Int64} {sz : Nat} {ex : Bool} {x0 x1 x2 x3 x4 x5 x6 x7 x8 x9 x10 : Option Value} {u : Nat} {v : Int32} : X z 207 66 [x0, x1, x2, x3, x4, x5, x6, x7, x8, x9, x10] (.int v :: .ref u :: st) cu (K, I, R, L, sz, ex) Q = (((K u).1 = 20 ∨ (K u).1 = 50) ∧ vp_in v (K u).2 ∧ X z 207 67 [x0, x1, x2, x3, x4, x5, x6, x7, x8, x9, x10] (.int (I u v.toNatClampNeg) :: st) cu (K, I, R, L, sz, ex) Q) := by
  rw [x207_66]
  rfl
theorem v207_67 {z : P0} {st : List Value} {cu : Nat × Nat} {Q : Res → Mem → Prop} {σ : Mem} {x0 x1 x2 x3 x4 x5 x6 x7 x8 x9 x10 : Option Value} {u v : Int32} : X z 207 67 [x0, x1, x2, x3, x4, x5, x6, x7, x8, x9, x10] (.int v :: .int u :: st) cu σ Q = (if u = v then X z 207 70 [x0, x1, x2, x3, x4, x5, x6, x7, x8, x9, x10] (st) cu σ Q else X z 207 103 [x0, x1, x2, x3, x4, x5, x6, x7, x8, x9, x10] (st) cu σ Q) := by
  rw [x207_67]
  obtain ⟨K, I, R, L, sz, ex⟩ := σ
  exact br_ne
theorem v207_70 {z : P0} {st : List Value} {cu : Nat × Nat} {Q : Res → Mem → Prop} {σ : Mem} {x0 x1 x2 x3 x4 x5 x7 x8 x9 x10 : Option Value} {u : Nat} : X z 207 70 [x0, x1, x2, x3, x4, x5, some (.ref u), x7, x8, x9, x10] (st) cu σ Q = (X z 207 72 [x0, x1, x2, x3, x4, x5, some (.ref u), x7, x8, x9, x10] (.ref u :: st) cu σ Q) := by
  rw [x207_70]
  rfl
theorem v207_72 {z : P0} {st : List Value} {cu : Nat × Nat} {Q : Res → Mem → Prop} {σ : Mem} {x0 x1 x2 x3 x4 x5 x6 x7 x8 x9 : Option Value} {u : Int32} : X z 207 72 [x0, x1, x2, x3, x4, x5, x6, x7, x8, x9, some (.int u)] (st) cu σ Q = (X z 207 74 [x0, x1, x2, x3, x4, x5, x6, x7, x8, x9, some (.int u)] (.int u :: st) cu σ Q) := by
  rw [x207_72]
  rfl
theorem v207_74 {z : P0} {st : List Value} {cu : Nat × Nat} {Q : Res → Mem → Prop} {K : Nat → Nat × Nat} {I : Nat → Nat → Int32} {R : Nat → Nat → Option Nat} {L : Nat → Nat → Int64} {sz : Nat} {ex : Bool} {x0 x1 x2 x3 x4 x5 x6 x7 x8 x9 x10 : Option Value} {u : Nat} {v : Int32} : X z 207 74 [x0, x1, x2, x3, x4, x5, x6, x7, x8, x9, x10] (.int v :: .ref u :: st) cu (K, I, R, L, sz, ex) Q = (((K u).1 = 20 ∨ (K u).1 = 50) ∧ vp_in v (K u).2 ∧ X z 207 75 [x0, x1, x2, x3, x4, x5, x6, x7, x8, x9, x10] (.int (I u v.toNatClampNeg) :: st) cu (K, I, R, L, sz, ex) Q) := by
  rw [x207_74]
  rfl
theorem v207_75 {z : P0} {st : List Value} {cu : Nat × Nat} {Q : Res → Mem → Prop} {σ : Mem} {x0 x1 x2 x3 x4 x5 x6 x7 x8 x10 : Option Value} {u : Int32} : X z 207 75 [x0, x1, x2, x3, x4, x5, x6, x7, x8, some (.int u), x10] (st) cu σ Q = (X z 207 77 [x0, x1, x2, x3, x4, x5, x6, x7, x8, some (.int u), x10] (.int u :: st) cu σ Q) := by
  rw [x207_75]
  rfl
theorem v207_77 {z : P0} {st : List Value} {cu : Nat × Nat} {Q : Res → Mem → Prop} {σ : Mem} {x0 x1 x2 x3 x4 x5 x6 x7 x8 x9 x10 : Option Value} {u v : Int32} : X z 207 77 [x0, x1, x2, x3, x4, x5, x6, x7, x8, x9, x10] (.int v :: .int u :: st) cu σ Q = (X z 207 78 [x0, x1, x2, x3, x4, x5, x6, x7, x8, x9, x10] (.int (u >>> (v &&& 31)) :: st) cu σ Q) := by
  rw [x207_77]
  rfl
theorem v207_78 {z : P0} {st : List Value} {cu : Nat × Nat} {Q : Res → Mem → Prop} {σ : Mem} {x0 x1 x2 x3 x4 x5 x6 x7 x8 x9 x10 : Option Value} : X z 207 78 [x0, x1, x2, x3, x4, x5, x6, x7, x8, x9, x10] (st) cu σ Q = (X z 207 79 [x0, x1, x2, x3, x4, x5, x6, x7, x8, x9, x10] (.int (nI 1) :: st) cu σ Q) := by
  rw [x207_78]
  rfl
theorem v207_79 {z : P0} {st : List Value} {cu : Nat × Nat} {Q : Res → Mem → Prop} {σ : Mem} {x0 x1 x2 x3 x4 x5 x6 x7 x8 x9 x10 : Option Value} {u v : Int32} : X z 207 79 [x0, x1, x2, x3, x4, x5, x6, x7, x8, x9, x10] (.int v :: .int u :: st) cu σ Q = (X z 207 80 [x0, x1, x2, x3, x4, x5, x6, x7, x8, x9, x10] (.int (u &&& v) :: st) cu σ Q) := by
  rw [x207_79]
  rfl
theorem v207_80 {z : P0} {st : List Value} {cu : Nat × Nat} {Q : Res → Mem → Prop} {σ : Mem} {x0 x1 x2 x3 x4 x5 x6 x7 x8 x9 x10 : Option Value} : X z 207 80 [x0, x1, x2, x3, x4, x5, x6, x7, x8, x9, x10] (st) cu σ Q = (X z 207 81 [x0, x1, x2, x3, x4, x5, x6, x7, x8, x9, x10] (.int (nI 1) :: st) cu σ Q) := by
  rw [x207_80]
  rfl
theorem v207_81 {z : P0} {st : List Value} {cu : Nat × Nat} {Q : Res → Mem → Prop} {σ : Mem} {x0 x1 x2 x3 x4 x5 x6 x7 x8 x9 x10 : Option Value} {u v : Int32} : X z 207 81 [x0, x1, x2, x3, x4, x5, x6, x7, x8, x9, x10] (.int v :: .int u :: st) cu σ Q = (if u = v then X z 207 84 [x0, x1, x2, x3, x4, x5, x6, x7, x8, x9, x10] (st) cu σ Q else X z 207 103 [x0, x1, x2, x3, x4, x5, x6, x7, x8, x9, x10] (st) cu σ Q) := by
  rw [x207_81]
  obtain ⟨K, I, R, L, sz, ex⟩ := σ
  exact br_ne
theorem v207_84 {z : P0} {st : List Value} {cu : Nat × Nat} {Q : Res → Mem → Prop} {σ : Mem} {x0 x1 x2 x3 x4 x5 x7 x8 x9 x10 : Option Value} {u : Nat} : X z 207 84 [x0, x1, x2, x3, x4, x5, some (.ref u), x7, x8, x9, x10] (st) cu σ Q = (X z 207 86 [x0, x1, x2, x3, x4, x5, some (.ref u), x7, x8, x9, x10] (.ref u :: st) cu σ Q) := by
  rw [x207_84]
  rfl
theorem v207_86 {z : P0} {st : List Value} {cu : Nat × Nat} {Q : Res → Mem → Prop} {σ : Mem} {x0 x1 x2 x3 x4 x5 x6 x7 x8 x9 : Option Value} {u : Int32} : X z 207 86 [x0, x1, x2, x3, x4, x5, x6, x7, x8, x9, some (.int u)] (st) cu σ Q = (X z 207 88 [x0, x1, x2, x3, x4, x5, x6, x7, x8, x9, some (.int u)] (.int u :: st) cu σ Q) := by
  rw [x207_86]
  rfl
theorem v207_88 {z : P0} {st : List Value} {cu : Nat × Nat} {Q : Res → Mem → Prop} {K : Nat → Nat × Nat} {I : Nat → Nat → Int32} {R : Nat → Nat → Option Nat} {L : Nat → Nat → Int64} {sz : Nat} {ex : Bool} {x0 x1 x2 x3 x4 x5 x6 x7 x8 x9 x10 : Option Value} {u : Nat} {v : Int32} : X z 207 88 [x0, x1, x2, x3, x4, x5, x6, x7, x8, x9, x10] (.int v :: .ref u :: st) cu (K, I, R, L, sz, ex) Q = (((K u).1 = 20 ∨ (K u).1 = 50) ∧ vp_in v (K u).2 ∧ X z 207 89 [x0, x1, x2, x3, x4, x5, x6, x7, x8, x9, x10] (.int (I u v.toNatClampNeg) :: st) cu (K, I, R, L, sz, ex) Q) := by
  rw [x207_88]
  rfl
theorem u207_89 {z : P0} {ls : Lcs} {st : List Value} {K : Nat → Nat × Nat} {I : Nat → Nat → Int32} {R : Nat → Nat → Option Nat} {L : Nat → Nat → Int64} {sz : Nat} {ex : Bool} {Q : Res → Mem → Prop} {a0 : Int32} : X z 207 89 ls (.int a0 :: st) (0, 0) (K, I, R, L, sz, ex) Q = (wsum st ≤ 8 ∧ X z 206 0 [some (.int a0), none, none] [] (0, 0) (K, I, R, L, sz, ex) (aftr (X z) mT 207 89 ls st (0, 0) Q)) := v207_89 (c := 0) (n := 0)
theorem v207_92 {z : P0} {st : List Value} {cu : Nat × Nat} {Q : Res → Mem → Prop} {σ : Mem} {x1 x2 x3 x4 x5 x6 x7 x8 x9 x10 : Option Value} {u : Nat} : X z 207 92 [some (.ref u), x1, x2, x3, x4, x5, x6, x7, x8, x9, x10] (st) cu σ Q = (X z 207 93 [some (.ref u), x1, x2, x3, x4, x5, x6, x7, x8, x9, x10] (.ref u :: st) cu σ Q) := by
  rw [x207_92]
  rfl
theorem v207_93 {z : P0} {st : List Value} {cu : Nat × Nat} {Q : Res → Mem → Prop} {σ : Mem} {x0 x1 x2 x3 x4 x5 x6 x7 x8 x9 x10 : Option Value} : X z 207 93 [x0, x1, x2, x3, x4, x5, x6, x7, x8, x9, x10] (st) cu σ Q = (X z 207 95 [x0, x1, x2, x3, x4, x5, x6, x7, x8, x9, x10] (.int (nI 10) :: st) cu σ Q) := by
  rw [x207_93]
  rfl
theorem v207_95 {z : P0} {st : List Value} {cu : Nat × Nat} {Q : Res → Mem → Prop} {K : Nat → Nat × Nat} {I : Nat → Nat → Int32} {R : Nat → Nat → Option Nat} {L : Nat → Nat → Int64} {sz : Nat} {ex : Bool} {x0 x1 x2 x3 x4 x5 x6 x7 x8 x9 x10 : Option Value} {u : Nat} {v : Int32} : X z 207 95 [x0, x1, x2, x3, x4, x5, x6, x7, x8, x9, x10] (.int v :: .ref u :: st) cu (K, I, R, L, sz, ex) Q = (((K u).1 = 20 ∨ (K u).1 = 50) ∧ vp_in v (K u).2 ∧ X z 207 96 [x0, x1, x2, x3, x4, x5, x6, x7, x8, x9, x10] (.int (I u v.toNatClampNeg) :: st) cu (K, I, R, L, sz, ex) Q) := by
  rw [x207_95]
  rfl
theorem v207_96 {z : P0} {st : List Value} {cu : Nat × Nat} {Q : Res → Mem → Prop} {σ : Mem} {x0 x1 x2 x3 x4 x5 x6 x7 x8 x9 x10 : Option Value} {u v : Int32} : X z 207 96 [x0, x1, x2, x3, x4, x5, x6, x7, x8, x9, x10] (.int v :: .int u :: st) cu σ Q = (if u < v then X z 207 99 [x0, x1, x2, x3, x4, x5, x6, x7, x8, x9, x10] (st) cu σ Q else X z 207 103 [x0, x1, x2, x3, x4, x5, x6, x7, x8, x9, x10] (st) cu σ Q) := by
  rw [x207_96]
  obtain ⟨K, I, R, L, sz, ex⟩ := σ
  exact br_ge
theorem v207_99 {z : P0} {st : List Value} {cu : Nat × Nat} {Q : Res → Mem → Prop} {σ : Mem} {x0 x1 x2 x3 x4 x5 x6 x7 x8 x9 : Option Value} {u : Int32} : X z 207 99 [x0, x1, x2, x3, x4, x5, x6, x7, x8, x9, some (.int u)] (st) cu σ Q = (X z 207 101 [x0, x1, x2, x3, x4, x5, x6, x7, x8, x9, some (.int u)] (.int u :: st) cu σ Q) := by
  rw [x207_99]
  rfl
theorem v207_101 {z : P0} {st : List Value} {cu : Nat × Nat} {Q : Res → Mem → Prop} {σ : Mem} {x0 x1 x2 x3 x4 x5 x6 x7 x8 x9 x10 : Option Value} {u : Int32} : X z 207 101 [x0, x1, x2, x3, x4, x5, x6, x7, x8, x9, x10] (.int u :: st) cu σ Q = (cat2 x7 = false ∧ X z 207 103 [x0, x1, x2, x3, x4, x5, x6, x7, some (.int u), x9, x10] (st) cu σ Q) := by
  rw [x207_101]
  obtain ⟨K, I, R, L, sz, ex⟩ := σ
  exact i_istore.trans sl_8
theorem v207_103 {z : P0} {st : List Value} {cu : Nat × Nat} {Q : Res → Mem → Prop} {σ : Mem} {x0 x1 x2 x3 x4 x5 x6 x7 x8 x9 : Option Value} {u : Int32} : X z 207 103 [x0, x1, x2, x3, x4, x5, x6, x7, x8, x9, some (.int u)] (st) cu σ Q = (cat2 x9 = false ∧ X z 207 106 [x0, x1, x2, x3, x4, x5, x6, x7, x8, x9, some (.int (u + nI 1))] (st) cu σ Q) := by
  rw [x207_103]
  obtain ⟨K, I, R, L, sz, ex⟩ := σ
  exact i_iinc.trans (gl_10.trans (ldI_i.trans sl_10))
theorem v207_106 {z : P0} {st : List Value} {cu : Nat × Nat} {Q : Res → Mem → Prop} {σ : Mem} {x0 x1 x2 x3 x4 x5 x6 x7 x8 x9 x10 : Option Value} : X z 207 106 [x0, x1, x2, x3, x4, x5, x6, x7, x8, x9, x10] (st) cu σ Q = (X z 207 50 [x0, x1, x2, x3, x4, x5, x6, x7, x8, x9, x10] (st) cu σ Q) := by
  rw [x207_106]
  rfl
theorem v207_109 {z : P0} {st : List Value} {cu : Nat × Nat} {Q : Res → Mem → Prop} {σ : Mem} {x0 x1 x2 x3 x4 x5 x6 x7 x8 x10 : Option Value} {u : Int32} : X z 207 109 [x0, x1, x2, x3, x4, x5, x6, x7, x8, some (.int u), x10] (st) cu σ Q = (cat2 x8 = false ∧ X z 207 112 [x0, x1, x2, x3, x4, x5, x6, x7, x8, some (.int (u + nI 1)), x10] (st) cu σ Q) := by
  rw [x207_109]
  obtain ⟨K, I, R, L, sz, ex⟩ := σ
  exact i_iinc.trans (gl_9.trans (ldI_i.trans sl_9))
theorem v207_112 {z : P0} {st : List Value} {cu : Nat × Nat} {Q : Res → Mem → Prop} {σ : Mem} {x0 x1 x2 x3 x4 x5 x6 x7 x8 x9 x10 : Option Value} : X z 207 112 [x0, x1, x2, x3, x4, x5, x6, x7, x8, x9, x10] (st) cu σ Q = (X z 207 40 [x0, x1, x2, x3, x4, x5, x6, x7, x8, x9, x10] (st) cu σ Q) := by
  rw [x207_112]
  rfl
theorem v207_115 {z : P0} {st : List Value} {cu : Nat × Nat} {Q : Res → Mem → Prop} {σ : Mem} {x0 x1 x2 x3 x4 x5 x6 x7 x9 x10 : Option Value} {u : Int32} : X z 207 115 [x0, x1, x2, x3, x4, x5, x6, x7, some (.int u), x9, x10] (st) cu σ Q = (X z 207 117 [x0, x1, x2, x3, x4, x5, x6, x7, some (.int u), x9, x10] (.int u :: st) cu σ Q) := by
  rw [x207_115]
  rfl
theorem v207_117 {z : P0} {st : List Value} {cu : Nat × Nat} {Q : Res → Mem → Prop} {σ : Mem} {x0 x1 x2 x3 x4 x5 x6 x7 x8 x9 x10 : Option Value} {u : Int32} : X z 207 117 [x0, x1, x2, x3, x4, x5, x6, x7, x8, x9, x10] (.int u :: st) cu σ Q = (if u < nI 0 then X z 207 120 [x0, x1, x2, x3, x4, x5, x6, x7, x8, x9, x10] (st) cu σ Q else X z 207 137 [x0, x1, x2, x3, x4, x5, x6, x7, x8, x9, x10] (st) cu σ Q) := by
  rw [x207_117]
  rw [nI_0]
  obtain ⟨K, I, R, L, sz, ex⟩ := σ
  exact br_ge
theorem v207_120 {z : P0} {st : List Value} {cu : Nat × Nat} {Q : Res → Mem → Prop} {σ : Mem} {x1 x2 x3 x4 x5 x6 x7 x8 x9 x10 : Option Value} {u : Nat} : X z 207 120 [some (.ref u), x1, x2, x3, x4, x5, x6, x7, x8, x9, x10] (st) cu σ Q = (X z 207 121 [some (.ref u), x1, x2, x3, x4, x5, x6, x7, x8, x9, x10] (.ref u :: st) cu σ Q) := by
  rw [x207_120]
  rfl
theorem v207_121 {z : P0} {st : List Value} {cu : Nat × Nat} {Q : Res → Mem → Prop} {σ : Mem} {x0 x1 x2 x3 x4 x5 x6 x7 x8 x9 x10 : Option Value} : X z 207 121 [x0, x1, x2, x3, x4, x5, x6, x7, x8, x9, x10] (st) cu σ Q = (X z 207 123 [x0, x1, x2, x3, x4, x5, x6, x7, x8, x9, x10] (.int (nI 14) :: st) cu σ Q) := by
  rw [x207_121]
  rfl
theorem v207_123 {z : P0} {st : List Value} {cu : Nat × Nat} {Q : Res → Mem → Prop} {σ : Mem} {x0 x1 x2 x3 x4 x5 x6 x7 x8 x9 x10 : Option Value} {u : Int32} {v : Nat} : X z 207 123 [x0, x1, x2, x3, x4, x5, x6, x7, x8, x9, x10] (.int u :: .ref v :: st) cu σ Q = (X z 207 124 [x0, x1, x2, x3, x4, x5, x6, x7, x8, x9, x10] (.int u :: .ref v :: .int u :: .ref v :: st) cu σ Q) := by
  rw [x207_123]
  rfl
theorem v207_124 {z : P0} {st : List Value} {cu : Nat × Nat} {Q : Res → Mem → Prop} {K : Nat → Nat × Nat} {I : Nat → Nat → Int32} {R : Nat → Nat → Option Nat} {L : Nat → Nat → Int64} {sz : Nat} {ex : Bool} {x0 x1 x2 x3 x4 x5 x6 x7 x8 x9 x10 : Option Value} {u : Nat} {v : Int32} : X z 207 124 [x0, x1, x2, x3, x4, x5, x6, x7, x8, x9, x10] (.int v :: .ref u :: st) cu (K, I, R, L, sz, ex) Q = (((K u).1 = 20 ∨ (K u).1 = 50) ∧ vp_in v (K u).2 ∧ X z 207 125 [x0, x1, x2, x3, x4, x5, x6, x7, x8, x9, x10] (.int (I u v.toNatClampNeg) :: st) cu (K, I, R, L, sz, ex) Q) := by
  rw [x207_124]
  rfl
theorem v207_125 {z : P0} {st : List Value} {cu : Nat × Nat} {Q : Res → Mem → Prop} {σ : Mem} {x0 x1 x2 x3 x4 x5 x6 x7 x8 x9 x10 : Option Value} {u v : Int32} {j : Nat} : X z 207 125 [x0, x1, x2, x3, x4, x5, x6, x7, x8, x9, x10] (.int v :: .int u :: .ref j :: st) cu σ Q = (X z 207 126 [x0, x1, x2, x3, x4, x5, x6, x7, x8, x9, x10] (.int v :: .int u :: .ref j :: .int v :: st) cu σ Q) := by
  rw [x207_125]
  rfl
theorem v207_126 {z : P0} {st : List Value} {cu : Nat × Nat} {Q : Res → Mem → Prop} {σ : Mem} {x0 x1 x2 x3 x4 x5 x6 x7 x8 x9 x10 : Option Value} : X z 207 126 [x0, x1, x2, x3, x4, x5, x6, x7, x8, x9, x10] (st) cu σ Q = (X z 207 127 [x0, x1, x2, x3, x4, x5, x6, x7, x8, x9, x10] (.int (nI 1) :: st) cu σ Q) := by
  rw [x207_126]
  rfl
theorem v207_127 {z : P0} {st : List Value} {cu : Nat × Nat} {Q : Res → Mem → Prop} {σ : Mem} {x0 x1 x2 x3 x4 x5 x6 x7 x8 x9 x10 : Option Value} {u v : Int32} : X z 207 127 [x0, x1, x2, x3, x4, x5, x6, x7, x8, x9, x10] (.int v :: .int u :: st) cu σ Q = (X z 207 128 [x0, x1, x2, x3, x4, x5, x6, x7, x8, x9, x10] (.int (u + v) :: st) cu σ Q) := by
  rw [x207_127]
  rfl
theorem v207_128 {z : P0} {st : List Value} {cu : Nat × Nat} {Q : Res → Mem → Prop} {K : Nat → Nat × Nat} {I : Nat → Nat → Int32} {R : Nat → Nat → Option Nat} {L : Nat → Nat → Int64} {sz : Nat} {ex : Bool} {x0 x1 x2 x3 x4 x5 x6 x7 x8 x9 x10 : Option Value} {u : Nat} {j v : Int32} : X z 207 128 [x0, x1, x2, x3, x4, x5, x6, x7, x8, x9, x10] (.int v :: .int j :: .ref u :: st) cu (K, I, R, L, sz, ex) Q = ((K u).1 = 20 ∧ vp_in j (K u).2 ∧ X z 207 129 [x0, x1, x2, x3, x4, x5, x6, x7, x8, x9, x10] (st) cu (K, up2 I u j.toNatClampNeg v, R, L, sz, ex) Q) := by
  rw [x207_128]
  rfl
theorem v207_129 {z : P0} {st : List Value} {cu : Nat × Nat} {Q : Res → Mem → Prop} {σ : Mem} {x0 x1 x2 x3 x4 x5 x6 x7 x8 x9 x10 : Option Value} {u : Int32} : X z 207 129 [x0, x1, x2, x3, x4, x5, x6, x7, x8, x9, x10] (.int u :: st) cu σ Q = (cat2 x7 = false ∧ X z 207 131 [x0, x1, x2, x3, x4, x5, x6, x7, some (.int u), x9, x10] (st) cu σ Q) := by
  rw [x207_129]
  obtain ⟨K, I, R, L, sz, ex⟩ := σ
  exact i_istore.trans sl_8
theorem v207_131 {z : P0} {st : List Value} {cu : Nat × Nat} {Q : Res → Mem → Prop} {σ : Mem} {x0 x1 x2 x3 x4 x5 x7 x8 x9 x10 : Option Value} {u : Nat} : X z 207 131 [x0, x1, x2, x3, x4, x5, some (.ref u), x7, x8, x9, x10] (st) cu σ Q = (X z 207 133 [x0, x1, x2, x3, x4, x5, some (.ref u), x7, x8, x9, x10] (.ref u :: st) cu σ Q) := by
  rw [x207_131]
  rfl
theorem v207_133 {z : P0} {st : List Value} {cu : Nat × Nat} {Q : Res → Mem → Prop} {σ : Mem} {x0 x1 x2 x3 x4 x5 x6 x7 x9 x10 : Option Value} {u : Int32} : X z 207 133 [x0, x1, x2, x3, x4, x5, x6, x7, some (.int u), x9, x10] (st) cu σ Q = (X z 207 135 [x0, x1, x2, x3, x4, x5, x6, x7, some (.int u), x9, x10] (.int u :: st) cu σ Q) := by
  rw [x207_133]
  rfl
theorem v207_135 {z : P0} {st : List Value} {cu : Nat × Nat} {Q : Res → Mem → Prop} {σ : Mem} {x0 x1 x2 x3 x4 x5 x6 x7 x8 x9 x10 : Option Value} : X z 207 135 [x0, x1, x2, x3, x4, x5, x6, x7, x8, x9, x10] (st) cu σ Q = (X z 207 136 [x0, x1, x2, x3, x4, x5, x6, x7, x8, x9, x10] (.int (nI 0) :: st) cu σ Q) := by
  rw [x207_135]
  rfl
theorem v207_136 {z : P0} {st : List Value} {cu : Nat × Nat} {Q : Res → Mem → Prop} {K : Nat → Nat × Nat} {I : Nat → Nat → Int32} {R : Nat → Nat → Option Nat} {L : Nat → Nat → Int64} {sz : Nat} {ex : Bool} {x0 x1 x2 x3 x4 x5 x6 x7 x8 x9 x10 : Option Value} {u : Nat} {j v : Int32} : X z 207 136 [x0, x1, x2, x3, x4, x5, x6, x7, x8, x9, x10] (.int v :: .int j :: .ref u :: st) cu (K, I, R, L, sz, ex) Q = ((K u).1 = 20 ∧ vp_in j (K u).2 ∧ X z 207 137 [x0, x1, x2, x3, x4, x5, x6, x7, x8, x9, x10] (st) cu (K, up2 I u j.toNatClampNeg v, R, L, sz, ex) Q) := by
  rw [x207_136]
  rfl
theorem v207_137 {z : P0} {st : List Value} {cu : Nat × Nat} {Q : Res → Mem → Prop} {σ : Mem} {x0 x1 x2 x3 x4 x5 x7 x8 x9 x10 : Option Value} {u : Nat} : X z 207 137 [x0, x1, x2, x3, x4, x5, some (.ref u), x7, x8, x9, x10] (st) cu σ Q = (X z 207 139 [x0, x1, x2, x3, x4, x5, some (.ref u), x7, x8, x9, x10] (.ref u :: st) cu σ Q) := by
  rw [x207_137]
  rfl
theorem v207_139 {z : P0} {st : List Value} {cu : Nat × Nat} {Q : Res → Mem → Prop} {σ : Mem} {x0 x1 x2 x3 x4 x5 x6 x7 x9 x10 : Option Value} {u : Int32} : X z 207 139 [x0, x1, x2, x3, x4, x5, x6, x7, some (.int u), x9, x10] (st) cu σ Q = (X z 207 141 [x0, x1, x2, x3, x4, x5, x6, x7, some (.int u), x9, x10] (.int u :: st) cu σ Q) := by
  rw [x207_139]
  rfl
theorem v207_141 {z : P0} {st : List Value} {cu : Nat × Nat} {Q : Res → Mem → Prop} {σ : Mem} {x0 x1 x2 x3 x4 x5 x6 x7 x8 x9 x10 : Option Value} {u : Int32} {v : Nat} : X z 207 141 [x0, x1, x2, x3, x4, x5, x6, x7, x8, x9, x10] (.int u :: .ref v :: st) cu σ Q = (X z 207 142 [x0, x1, x2, x3, x4, x5, x6, x7, x8, x9, x10] (.int u :: .ref v :: .int u :: .ref v :: st) cu σ Q) := by
  rw [x207_141]
  rfl
theorem v207_142 {z : P0} {st : List Value} {cu : Nat × Nat} {Q : Res → Mem → Prop} {K : Nat → Nat × Nat} {I : Nat → Nat → Int32} {R : Nat → Nat → Option Nat} {L : Nat → Nat → Int64} {sz : Nat} {ex : Bool} {x0 x1 x2 x3 x4 x5 x6 x7 x8 x9 x10 : Option Value} {u : Nat} {v : Int32} : X z 207 142 [x0, x1, x2, x3, x4, x5, x6, x7, x8, x9, x10] (.int v :: .ref u :: st) cu (K, I, R, L, sz, ex) Q = (((K u).1 = 20 ∨ (K u).1 = 50) ∧ vp_in v (K u).2 ∧ X z 207 143 [x0, x1, x2, x3, x4, x5, x6, x7, x8, x9, x10] (.int (I u v.toNatClampNeg) :: st) cu (K, I, R, L, sz, ex) Q) := by
  rw [x207_142]
  rfl
theorem v207_143 {z : P0} {st : List Value} {cu : Nat × Nat} {Q : Res → Mem → Prop} {σ : Mem} {x0 x1 x2 x3 x4 x5 x6 x7 x8 x9 x10 : Option Value} : X z 207 143 [x0, x1, x2, x3, x4, x5, x6, x7, x8, x9, x10] (st) cu σ Q = (X z 207 144 [x0, x1, x2, x3, x4, x5, x6, x7, x8, x9, x10] (.int (nI 1) :: st) cu σ Q) := by
  rw [x207_143]
  rfl
theorem v207_144 {z : P0} {st : List Value} {cu : Nat × Nat} {Q : Res → Mem → Prop} {σ : Mem} {x0 x1 x2 x3 x4 x5 x6 x8 x9 x10 : Option Value} {u : Int32} : X z 207 144 [x0, x1, x2, x3, x4, x5, x6, some (.int u), x8, x9, x10] (st) cu σ Q = (X z 207 146 [x0, x1, x2, x3, x4, x5, x6, some (.int u), x8, x9, x10] (.int u :: st) cu σ Q) := by
  rw [x207_144]
  rfl
theorem v207_146 {z : P0} {st : List Value} {cu : Nat × Nat} {Q : Res → Mem → Prop} {σ : Mem} {x0 x1 x2 x3 x4 x5 x6 x7 x8 x9 x10 : Option Value} {u v : Int32} : X z 207 146 [x0, x1, x2, x3, x4, x5, x6, x7, x8, x9, x10] (.int v :: .int u :: st) cu σ Q = (X z 207 147 [x0, x1, x2, x3, x4, x5, x6, x7, x8, x9, x10] (.int (u <<< (v &&& 31)) :: st) cu σ Q) := by
  rw [x207_146]
  rfl
theorem v207_147 {z : P0} {st : List Value} {cu : Nat × Nat} {Q : Res → Mem → Prop} {σ : Mem} {x0 x1 x2 x3 x4 x5 x6 x7 x8 x9 x10 : Option Value} {u v : Int32} : X z 207 147 [x0, x1, x2, x3, x4, x5, x6, x7, x8, x9, x10] (.int v :: .int u :: st) cu σ Q = (X z 207 148 [x0, x1, x2, x3, x4, x5, x6, x7, x8, x9, x10] (.int (u ||| v) :: st) cu σ Q) := by
  rw [x207_147]
  rfl
theorem v207_148 {z : P0} {st : List Value} {cu : Nat × Nat} {Q : Res → Mem → Prop} {K : Nat → Nat × Nat} {I : Nat → Nat → Int32} {R : Nat → Nat → Option Nat} {L : Nat → Nat → Int64} {sz : Nat} {ex : Bool} {x0 x1 x2 x3 x4 x5 x6 x7 x8 x9 x10 : Option Value} {u : Nat} {j v : Int32} : X z 207 148 [x0, x1, x2, x3, x4, x5, x6, x7, x8, x9, x10] (.int v :: .int j :: .ref u :: st) cu (K, I, R, L, sz, ex) Q = ((K u).1 = 20 ∧ vp_in j (K u).2 ∧ X z 207 149 [x0, x1, x2, x3, x4, x5, x6, x7, x8, x9, x10] (st) cu (K, up2 I u j.toNatClampNeg v, R, L, sz, ex) Q) := by
  rw [x207_148]
  rfl
theorem v207_149 {z : P0} {st : List Value} {cu : Nat × Nat} {Q : Res → Mem → Prop} {σ : Mem} {x0 x1 x2 x3 x4 x5 x6 x8 x9 x10 : Option Value} {u : Int32} : X z 207 149 [x0, x1, x2, x3, x4, x5, x6, some (.int u), x8, x9, x10] (st) cu σ Q = (cat2 x6 = false ∧ X z 207 152 [x0, x1, x2, x3, x4, x5, x6, some (.int (u + nI 1)), x8, x9, x10] (st) cu σ Q) := by
  rw [x207_149]
  obtain ⟨K, I, R, L, sz, ex⟩ := σ
  exact i_iinc.trans (gl_7.trans (ldI_i.trans sl_7))
theorem v207_152 {z : P0} {st : List Value} {cu : Nat × Nat} {Q : Res → Mem → Prop} {σ : Mem} {x0 x1 x2 x3 x4 x5 x6 x7 x8 x9 x10 : Option Value} : X z 207 152 [x0, x1, x2, x3, x4, x5, x6, x7, x8, x9, x10] (st) cu σ Q = (X z 207 8 [x0, x1, x2, x3, x4, x5, x6, x7, x8, x9, x10] (st) cu σ Q) := by
  rw [x207_152]
  rfl
theorem v207_155 {z : P0} {cu : Nat × Nat} {Q : Res → Mem → Prop} {σ : Mem} {x0 x1 x2 x3 x4 x5 x6 x7 x8 x9 x10 : Option Value} : X z 207 155 [x0, x1, x2, x3, x4, x5, x6, x7, x8, x9, x10] ([]) cu σ Q = (Q (.inl none) σ) := by
  rw [x207_155]
  rfl
theorem v208_0 {z : P0} {st : List Value} {cu : Nat × Nat} {Q : Res → Mem → Prop} {σ : Mem} {x0 x2 x3 x4 x5 x6 : Option Value} {u : Nat} : X z 208 0 [x0, some (.ref u), x2, x3, x4, x5, x6] (st) cu σ Q = (X z 208 1 [x0, some (.ref u), x2, x3, x4, x5, x6] (.ref u :: st) cu σ Q) := by
  rw [x208_0]
  rfl
theorem v208_1 {z : P0} {st : List Value} {cu : Nat × Nat} {Q : Res → Mem → Prop} {σ : Mem} {x0 x1 x3 x4 x5 x6 : Option Value} {u : Int32} : X z 208 1 [x0, x1, some (.int u), x3, x4, x5, x6] (st) cu σ Q = (X z 208 2 [x0, x1, some (.int u), x3, x4, x5, x6] (.int u :: st) cu σ Q) := by
  rw [x208_1]
  rfl
theorem v208_2 {z : P0} {st : List Value} {cu : Nat × Nat} {Q : Res → Mem → Prop} {K : Nat → Nat × Nat} {I : Nat → Nat → Int32} {R : Nat → Nat → Option Nat} {L : Nat → Nat → Int64} {sz : Nat} {ex : Bool} {x0 x1 x2 x3 x4 x5 x6 : Option Value} {u : Nat} {v : Int32} : X z 208 2 [x0, x1, x2, x3, x4, x5, x6] (.int v :: .ref u :: st) cu (K, I, R, L, sz, ex) Q = (((K u).1 = 20 ∨ (K u).1 = 50) ∧ vp_in v (K u).2 ∧ X z 208 3 [x0, x1, x2, x3, x4, x5, x6] (.int (I u v.toNatClampNeg) :: st) cu (K, I, R, L, sz, ex) Q) := by
  rw [x208_2]
  rfl
theorem v208_3 {z : P0} {st : List Value} {cu : Nat × Nat} {Q : Res → Mem → Prop} {σ : Mem} {x0 x1 x2 x3 x4 x5 x6 : Option Value} : X z 208 3 [x0, x1, x2, x3, x4, x5, x6] (st) cu σ Q = (X z 208 5 [x0, x1, x2, x3, x4, x5, x6] (.int (nI 16) :: st) cu σ Q) := by
  rw [x208_3]
  rfl
theorem v208_5 {z : P0} {st : List Value} {cu : Nat × Nat} {Q : Res → Mem → Prop} {σ : Mem} {x0 x1 x2 x3 x4 x5 x6 : Option Value} {u v : Int32} : X z 208 5 [x0, x1, x2, x3, x4, x5, x6] (.int v :: .int u :: st) cu σ Q = (¬ v = 0 ∧ X z 208 6 [x0, x1, x2, x3, x4, x5, x6] (.int (u - u / v * v) :: st) cu σ Q) := by
  rw [x208_5]
  rfl
theorem v208_6 {z : P0} {st : List Value} {cu : Nat × Nat} {Q : Res → Mem → Prop} {σ : Mem} {x0 x1 x2 x3 x4 x5 x6 : Option Value} {u : Int32} : X z 208 6 [x0, x1, x2, x3, x4, x5, x6] (.int u :: st) cu σ Q = (cat2 x2 = false ∧ X z 208 7 [x0, x1, x2, some (.int u), x4, x5, x6] (st) cu σ Q) := by
  rw [x208_6]
  obtain ⟨K, I, R, L, sz, ex⟩ := σ
  exact i_istore_n.trans sl_3
theorem v208_7 {z : P0} {st : List Value} {cu : Nat × Nat} {Q : Res → Mem → Prop} {σ : Mem} {x0 x1 x2 x3 x4 x5 x6 : Option Value} : X z 208 7 [x0, x1, x2, x3, x4, x5, x6] (st) cu σ Q = (X z 208 8 [x0, x1, x2, x3, x4, x5, x6] (.int (nI 1) :: st) cu σ Q) := by
  rw [x208_7]
  rfl
theorem v208_8 {z : P0} {st : List Value} {cu : Nat × Nat} {Q : Res → Mem → Prop} {σ : Mem} {x0 x1 x3 x4 x5 x6 : Option Value} {u : Int32} : X z 208 8 [x0, x1, some (.int u), x3, x4, x5, x6] (st) cu σ Q = (X z 208 9 [x0, x1, some (.int u), x3, x4, x5, x6] (.int u :: st) cu σ Q) := by
  rw [x208_8]
  rfl
theorem v208_9 {z : P0} {st : List Value} {cu : Nat × Nat} {Q : Res → Mem → Prop} {σ : Mem} {x0 x1 x2 x4 x5 x6 : Option Value} {u : Int32} : X z 208 9 [x0, x1, x2, some (.int u), x4, x5, x6] (st) cu σ Q = (X z 208 10 [x0, x1, x2, some (.int u), x4, x5, x6] (.int u :: st) cu σ Q) := by
  rw [x208_9]
  rfl
theorem v208_10 {z : P0} {st : List Value} {cu : Nat × Nat} {Q : Res → Mem → Prop} {σ : Mem} {x0 x1 x2 x3 x4 x5 x6 : Option Value} : X z 208 10 [x0, x1, x2, x3, x4, x5, x6] (st) cu σ Q = (X z 208 11 [x0, x1, x2, x3, x4, x5, x6] (.int (nI 0) :: st) cu σ Q) := by
  rw [x208_10]
  rfl
theorem u208_11 {z : P0} {ls : Lcs} {st : List Value} {K : Nat → Nat × Nat} {I : Nat → Nat → Int32} {R : Nat → Nat → Option Nat} {L : Nat → Nat → Int64} {sz : Nat} {ex : Bool} {Q : Res → Mem → Prop} {a0 : Int32} {a1 : Int32} {a2 : Int32} {a3 : Int32} : X z 208 11 ls (.int a3 :: .int a2 :: .int a1 :: .int a0 :: st) (0, 0) (K, I, R, L, sz, ex) Q = (wsum st ≤ 8 ∧ X z 194 0 [some (.int a0), some (.int a1), some (.int a2), some (.int a3)] [] (0, 0) (K, I, R, L, sz, ex) (aftr (X z) mT 208 11 ls st (0, 0) Q)) := v208_11 (c := 0) (n := 0)
theorem v208_14 {z : P0} {st : List Value} {cu : Nat × Nat} {Q : Res → Mem → Prop} {σ : Mem} {x0 x1 x2 x3 x4 x5 x6 : Option Value} {u : Int32} : X z 208 14 [x0, x1, x2, x3, x4, x5, x6] (.int u :: st) cu σ Q = (cat2 x3 = false ∧ X z 208 16 [x0, x1, x2, x3, some (.int u), x5, x6] (st) cu σ Q) := by
  rw [x208_14]
  obtain ⟨K, I, R, L, sz, ex⟩ := σ
  exact i_istore.trans sl_4
theorem v208_16 {z : P0} {st : List Value} {cu : Nat × Nat} {Q : Res → Mem → Prop} {σ : Mem} {x0 x1 x2 x3 x5 x6 : Option Value} {u : Int32} : X z 208 16 [x0, x1, x2, x3, some (.int u), x5, x6] (st) cu σ Q = (X z 208 18 [x0, x1, x2, x3, some (.int u), x5, x6] (.int u :: st) cu σ Q) := by
  rw [x208_16]
  rfl
theorem v208_18 {z : P0} {st : List Value} {cu : Nat × Nat} {Q : Res → Mem → Prop} {σ : Mem} {x0 x1 x2 x3 x4 x5 x6 : Option Value} : X z 208 18 [x0, x1, x2, x3, x4, x5, x6] (st) cu σ Q = (X z 208 20 [x0, x1, x2, x3, x4, x5, x6] (.int (nI 97) :: st) cu σ Q) := by
  rw [x208_18]
  rfl
theorem v208_20 {z : P0} {st : List Value} {cu : Nat × Nat} {Q : Res → Mem → Prop} {σ : Mem} {x0 x1 x2 x3 x4 x5 x6 : Option Value} {u v : Int32} : X z 208 20 [x0, x1, x2, x3, x4, x5, x6] (.int v :: .int u :: st) cu σ Q = (if u = v then X z 208 51 [x0, x1, x2, x3, x4, x5, x6] (st) cu σ Q else X z 208 23 [x0, x1, x2, x3, x4, x5, x6] (st) cu σ Q) := by
  rw [x208_20]
  obtain ⟨K, I, R, L, sz, ex⟩ := σ
  exact br_ite
theorem v208_23 {z : P0} {st : List Value} {cu : Nat × Nat} {Q : Res → Mem → Prop} {σ : Mem} {x0 x1 x2 x3 x5 x6 : Option Value} {u : Int32} : X z 208 23 [x0, x1, x2, x3, some (.int u), x5, x6] (st) cu σ Q = (X z 208 25 [x0, x1, x2, x3, some (.int u), x5, x6] (.int u :: st) cu σ Q) := by
  rw [x208_23]
  rfl
theorem v208_25 {z : P0} {st : List Value} {cu : Nat × Nat} {Q : Res → Mem → Prop} {σ : Mem} {x0 x1 x2 x3 x4 x5 x6 : Option Value} : X z 208 25 [x0, x1, x2, x3, x4, x5, x6] (st) cu σ Q = (X z 208 27 [x0, x1, x2, x3, x4, x5, x6] (.int (nI 101) :: st) cu σ Q) := by
  rw [x208_25]
  rfl
theorem v208_27 {z : P0} {st : List Value} {cu : Nat × Nat} {Q : Res → Mem → Prop} {σ : Mem} {x0 x1 x2 x3 x4 x5 x6 : Option Value} {u v : Int32} : X z 208 27 [x0, x1, x2, x3, x4, x5, x6] (.int v :: .int u :: st) cu σ Q = (if u = v then X z 208 51 [x0, x1, x2, x3, x4, x5, x6] (st) cu σ Q else X z 208 30 [x0, x1, x2, x3, x4, x5, x6] (st) cu σ Q) := by
  rw [x208_27]
  obtain ⟨K, I, R, L, sz, ex⟩ := σ
  exact br_ite
theorem v208_30 {z : P0} {st : List Value} {cu : Nat × Nat} {Q : Res → Mem → Prop} {σ : Mem} {x0 x1 x2 x3 x5 x6 : Option Value} {u : Int32} : X z 208 30 [x0, x1, x2, x3, some (.int u), x5, x6] (st) cu σ Q = (X z 208 32 [x0, x1, x2, x3, some (.int u), x5, x6] (.int u :: st) cu σ Q) := by
  rw [x208_30]
  rfl
theorem v208_32 {z : P0} {st : List Value} {cu : Nat × Nat} {Q : Res → Mem → Prop} {σ : Mem} {x0 x1 x2 x3 x4 x5 x6 : Option Value} : X z 208 32 [x0, x1, x2, x3, x4, x5, x6] (st) cu σ Q = (X z 208 34 [x0, x1, x2, x3, x4, x5, x6] (.int (nI 105) :: st) cu σ Q) := by
  rw [x208_32]
  rfl
theorem v208_34 {z : P0} {st : List Value} {cu : Nat × Nat} {Q : Res → Mem → Prop} {σ : Mem} {x0 x1 x2 x3 x4 x5 x6 : Option Value} {u v : Int32} : X z 208 34 [x0, x1, x2, x3, x4, x5, x6] (.int v :: .int u :: st) cu σ Q = (if u = v then X z 208 51 [x0, x1, x2, x3, x4, x5, x6] (st) cu σ Q else X z 208 37 [x0, x1, x2, x3, x4, x5, x6] (st) cu σ Q) := by
  rw [x208_34]
  obtain ⟨K, I, R, L, sz, ex⟩ := σ
  exact br_ite
theorem v208_37 {z : P0} {st : List Value} {cu : Nat × Nat} {Q : Res → Mem → Prop} {σ : Mem} {x0 x1 x2 x3 x5 x6 : Option Value} {u : Int32} : X z 208 37 [x0, x1, x2, x3, some (.int u), x5, x6] (st) cu σ Q = (X z 208 39 [x0, x1, x2, x3, some (.int u), x5, x6] (.int u :: st) cu σ Q) := by
  rw [x208_37]
  rfl
theorem v208_39 {z : P0} {st : List Value} {cu : Nat × Nat} {Q : Res → Mem → Prop} {σ : Mem} {x0 x1 x2 x3 x4 x5 x6 : Option Value} : X z 208 39 [x0, x1, x2, x3, x4, x5, x6] (st) cu σ Q = (X z 208 41 [x0, x1, x2, x3, x4, x5, x6] (.int (nI 111) :: st) cu σ Q) := by
  rw [x208_39]
  rfl
theorem v208_41 {z : P0} {st : List Value} {cu : Nat × Nat} {Q : Res → Mem → Prop} {σ : Mem} {x0 x1 x2 x3 x4 x5 x6 : Option Value} {u v : Int32} : X z 208 41 [x0, x1, x2, x3, x4, x5, x6] (.int v :: .int u :: st) cu σ Q = (if u = v then X z 208 51 [x0, x1, x2, x3, x4, x5, x6] (st) cu σ Q else X z 208 44 [x0, x1, x2, x3, x4, x5, x6] (st) cu σ Q) := by
  rw [x208_41]
  obtain ⟨K, I, R, L, sz, ex⟩ := σ
  exact br_ite
theorem v208_44 {z : P0} {st : List Value} {cu : Nat × Nat} {Q : Res → Mem → Prop} {σ : Mem} {x0 x1 x2 x3 x5 x6 : Option Value} {u : Int32} : X z 208 44 [x0, x1, x2, x3, some (.int u), x5, x6] (st) cu σ Q = (X z 208 46 [x0, x1, x2, x3, some (.int u), x5, x6] (.int u :: st) cu σ Q) := by
  rw [x208_44]
  rfl
theorem v208_46 {z : P0} {st : List Value} {cu : Nat × Nat} {Q : Res → Mem → Prop} {σ : Mem} {x0 x1 x2 x3 x4 x5 x6 : Option Value} : X z 208 46 [x0, x1, x2, x3, x4, x5, x6] (st) cu σ Q = (X z 208 48 [x0, x1, x2, x3, x4, x5, x6] (.int (nI 117) :: st) cu σ Q) := by
  rw [x208_46]
  rfl
theorem v208_48 {z : P0} {st : List Value} {cu : Nat × Nat} {Q : Res → Mem → Prop} {σ : Mem} {x0 x1 x2 x3 x4 x5 x6 : Option Value} {u v : Int32} : X z 208 48 [x0, x1, x2, x3, x4, x5, x6] (.int v :: .int u :: st) cu σ Q = (if u = v then X z 208 51 [x0, x1, x2, x3, x4, x5, x6] (st) cu σ Q else X z 208 55 [x0, x1, x2, x3, x4, x5, x6] (st) cu σ Q) := by
  rw [x208_48]
  obtain ⟨K, I, R, L, sz, ex⟩ := σ
  exact br_ne
theorem v208_51 {z : P0} {st : List Value} {cu : Nat × Nat} {Q : Res → Mem → Prop} {σ : Mem} {x0 x1 x2 x3 x4 x5 x6 : Option Value} : X z 208 51 [x0, x1, x2, x3, x4, x5, x6] (st) cu σ Q = (X z 208 52 [x0, x1, x2, x3, x4, x5, x6] (.int (nI 1) :: st) cu σ Q) := by
  rw [x208_51]
  rfl
theorem v208_52 {z : P0} {st : List Value} {cu : Nat × Nat} {Q : Res → Mem → Prop} {σ : Mem} {x0 x1 x2 x3 x4 x5 x6 : Option Value} : X z 208 52 [x0, x1, x2, x3, x4, x5, x6] (st) cu σ Q = (X z 208 56 [x0, x1, x2, x3, x4, x5, x6] (st) cu σ Q) := by
  rw [x208_52]
  rfl
theorem v208_55 {z : P0} {st : List Value} {cu : Nat × Nat} {Q : Res → Mem → Prop} {σ : Mem} {x0 x1 x2 x3 x4 x5 x6 : Option Value} : X z 208 55 [x0, x1, x2, x3, x4, x5, x6] (st) cu σ Q = (X z 208 56 [x0, x1, x2, x3, x4, x5, x6] (.int (nI 0) :: st) cu σ Q) := by
  rw [x208_55]
  rfl
theorem v208_56 {z : P0} {st : List Value} {cu : Nat × Nat} {Q : Res → Mem → Prop} {σ : Mem} {x0 x1 x2 x3 x4 x5 x6 : Option Value} {u : Int32} : X z 208 56 [x0, x1, x2, x3, x4, x5, x6] (.int u :: st) cu σ Q = (cat2 x4 = false ∧ X z 208 58 [x0, x1, x2, x3, x4, some (.int u), x6] (st) cu σ Q) := by
  rw [x208_56]
  obtain ⟨K, I, R, L, sz, ex⟩ := σ
  exact i_istore.trans sl_5
theorem v208_58 {z : P0} {st : List Value} {cu : Nat × Nat} {Q : Res → Mem → Prop} {σ : Mem} {x0 x2 x3 x4 x5 x6 : Option Value} {u : Nat} : X z 208 58 [x0, some (.ref u), x2, x3, x4, x5, x6] (st) cu σ Q = (X z 208 59 [x0, some (.ref u), x2, x3, x4, x5, x6] (.ref u :: st) cu σ Q) := by
  rw [x208_58]
  rfl
theorem v208_59 {z : P0} {st : List Value} {cu : Nat × Nat} {Q : Res → Mem → Prop} {σ : Mem} {x0 x1 x3 x4 x5 x6 : Option Value} {u : Int32} : X z 208 59 [x0, x1, some (.int u), x3, x4, x5, x6] (st) cu σ Q = (X z 208 60 [x0, x1, some (.int u), x3, x4, x5, x6] (.int u :: st) cu σ Q) := by
  rw [x208_59]
  rfl
theorem v208_60 {z : P0} {st : List Value} {cu : Nat × Nat} {Q : Res → Mem → Prop} {K : Nat → Nat × Nat} {I : Nat → Nat → Int32} {R : Nat → Nat → Option Nat} {L : Nat → Nat → Int64} {sz : Nat} {ex : Bool} {x0 x1 x2 x3 x4 x5 x6 : Option Value} {u : Nat} {v : Int32} : X z 208 60 [x0, x1, x2, x3, x4, x5, x6] (.int v :: .ref u :: st) cu (K, I, R, L, sz, ex) Q = (((K u).1 = 20 ∨ (K u).1 = 50) ∧ vp_in v (K u).2 ∧ X z 208 61 [x0, x1, x2, x3, x4, x5, x6] (.int (I u v.toNatClampNeg) :: st) cu (K, I, R, L, sz, ex) Q) := by
  rw [x208_60]
  rfl
theorem v208_61 {z : P0} {st : List Value} {cu : Nat × Nat} {Q : Res → Mem → Prop} {σ : Mem} {x0 x1 x2 x3 x4 x5 x6 : Option Value} : X z 208 61 [x0, x1, x2, x3, x4, x5, x6] (st) cu σ Q = (X z 208 63 [x0, x1, x2, x3, x4, x5, x6] (.int (nI 15) :: st) cu σ Q) := by
  rw [x208_61]
  rfl
theorem v208_63 {z : P0} {st : List Value} {cu : Nat × Nat} {Q : Res → Mem → Prop} {σ : Mem} {x0 x1 x2 x3 x4 x5 x6 : Option Value} {u v : Int32} : X z 208 63 [x0, x1, x2, x3, x4, x5, x6] (.int v :: .int u :: st) cu σ Q = (if v < u then X z 208 66 [x0, x1, x2, x3, x4, x5, x6] (st) cu σ Q else X z 208 93 [x0, x1, x2, x3, x4, x5, x6] (st) cu σ Q) := by
  rw [x208_63]
  obtain ⟨K, I, R, L, sz, ex⟩ := σ
  exact br_ge
theorem v208_66 {z : P0} {st : List Value} {cu : Nat × Nat} {Q : Res → Mem → Prop} {σ : Mem} {x1 x2 x3 x4 x5 x6 : Option Value} {u : Nat} : X z 208 66 [some (.ref u), x1, x2, x3, x4, x5, x6] (st) cu σ Q = (X z 208 67 [some (.ref u), x1, x2, x3, x4, x5, x6] (.ref u :: st) cu σ Q) := by
  rw [x208_66]
  rfl
theorem v208_67 {z : P0} {st : List Value} {cu : Nat × Nat} {Q : Res → Mem → Prop} {σ : Mem} {x0 x1 x2 x3 x4 x5 x6 : Option Value} : X z 208 67 [x0, x1, x2, x3, x4, x5, x6] (st) cu σ Q = (X z 208 69 [x0, x1, x2, x3, x4, x5, x6] (.int (nI 115) :: st) cu σ Q) := by
  rw [x208_67]
  rfl
theorem u208_69 {z : P0} {ls : Lcs} {st : List Value} {K : Nat → Nat × Nat} {I : Nat → Nat → Int32} {R : Nat → Nat → Option Nat} {L : Nat → Nat → Int64} {sz : Nat} {ex : Bool} {Q : Res → Mem → Prop} {a0 : Nat} {a1 : Int32} : X z 208 69 ls (.int a1 :: .ref a0 :: st) (0, 0) (K, I, R, L, sz, ex) Q = (wsum st ≤ 8 ∧ X z 202 0 [some (.ref a0), some (.int a1)] [] (0, 0) (K, I, R, L, sz, ex) (aftr (X z) mT 208 69 ls st (0, 0) Q)) := v208_69 (c := 0) (n := 0)
theorem v208_72 {z : P0} {st : List Value} {cu : Nat × Nat} {Q : Res → Mem → Prop} {σ : Mem} {x1 x2 x3 x4 x5 x6 : Option Value} {u : Nat} : X z 208 72 [some (.ref u), x1, x2, x3, x4, x5, x6] (st) cu σ Q = (X z 208 73 [some (.ref u), x1, x2, x3, x4, x5, x6] (.ref u :: st) cu σ Q) := by
  rw [x208_72]
  rfl
theorem v208_73 {z : P0} {st : List Value} {cu : Nat × Nat} {Q : Res → Mem → Prop} {σ : Mem} {x0 x1 x2 x3 x4 x5 x6 : Option Value} : X z 208 73 [x0, x1, x2, x3, x4, x5, x6] (st) cu σ Q = (X z 208 75 [x0, x1, x2, x3, x4, x5, x6] (.int (nI 111) :: st) cu σ Q) := by
  rw [x208_73]
  rfl
theorem u208_75 {z : P0} {ls : Lcs} {st : List Value} {K : Nat → Nat × Nat} {I : Nat → Nat → Int32} {R : Nat → Nat → Option Nat} {L : Nat → Nat → Int64} {sz : Nat} {ex : Bool} {Q : Res → Mem → Prop} {a0 : Nat} {a1 : Int32} : X z 208 75 ls (.int a1 :: .ref a0 :: st) (0, 0) (K, I, R, L, sz, ex) Q = (wsum st ≤ 8 ∧ X z 202 0 [some (.ref a0), some (.int a1)] [] (0, 0) (K, I, R, L, sz, ex) (aftr (X z) mT 208 75 ls st (0, 0) Q)) := v208_75 (c := 0) (n := 0)
theorem v208_78 {z : P0} {st : List Value} {cu : Nat × Nat} {Q : Res → Mem → Prop} {σ : Mem} {x1 x2 x3 x4 x5 x6 : Option Value} {u : Nat} : X z 208 78 [some (.ref u), x1, x2, x3, x4, x5, x6] (st) cu σ Q = (X z 208 79 [some (.ref u), x1, x2, x3, x4, x5, x6] (.ref u :: st) cu σ Q) := by
  rw [x208_78]
  rfl
theorem v208_79 {z : P0} {st : List Value} {cu : Nat × Nat} {Q : Res → Mem → Prop} {σ : Mem} {x0 x1 x2 x3 x4 x5 x6 : Option Value} : X z 208 79 [x0, x1, x2, x3, x4, x5, x6] (st) cu σ Q = (X z 208 81 [x0, x1, x2, x3, x4, x5, x6] (.int (nI 109) :: st) cu σ Q) := by
  rw [x208_79]
  rfl
theorem u208_81 {z : P0} {ls : Lcs} {st : List Value} {K : Nat → Nat × Nat} {I : Nat → Nat → Int32} {R : Nat → Nat → Option Nat} {L : Nat → Nat → Int64} {sz : Nat} {ex : Bool} {Q : Res → Mem → Prop} {a0 : Nat} {a1 : Int32} : X z 208 81 ls (.int a1 :: .ref a0 :: st) (0, 0) (K, I, R, L, sz, ex) Q = (wsum st ≤ 8 ∧ X z 202 0 [some (.ref a0), some (.int a1)] [] (0, 0) (K, I, R, L, sz, ex) (aftr (X z) mT 208 81 ls st (0, 0) Q)) := v208_81 (c := 0) (n := 0)
theorem v208_84 {z : P0} {st : List Value} {cu : Nat × Nat} {Q : Res → Mem → Prop} {σ : Mem} {x1 x2 x3 x4 x5 x6 : Option Value} {u : Nat} : X z 208 84 [some (.ref u), x1, x2, x3, x4, x5, x6] (st) cu σ Q = (X z 208 85 [some (.ref u), x1, x2, x3, x4, x5, x6] (.ref u :: st) cu σ Q) := by
  rw [x208_84]
  rfl
theorem v208_85 {z : P0} {st : List Value} {cu : Nat × Nat} {Q : Res → Mem → Prop} {σ : Mem} {x0 x1 x2 x3 x4 x5 x6 : Option Value} : X z 208 85 [x0, x1, x2, x3, x4, x5, x6] (st) cu σ Q = (X z 208 87 [x0, x1, x2, x3, x4, x5, x6] (.int (nI 101) :: st) cu σ Q) := by
  rw [x208_85]
  rfl
theorem u208_87 {z : P0} {ls : Lcs} {st : List Value} {K : Nat → Nat × Nat} {I : Nat → Nat → Int32} {R : Nat → Nat → Option Nat} {L : Nat → Nat → Int64} {sz : Nat} {ex : Bool} {Q : Res → Mem → Prop} {a0 : Nat} {a1 : Int32} : X z 208 87 ls (.int a1 :: .ref a0 :: st) (0, 0) (K, I, R, L, sz, ex) Q = (wsum st ≤ 8 ∧ X z 202 0 [some (.ref a0), some (.int a1)] [] (0, 0) (K, I, R, L, sz, ex) (aftr (X z) mT 208 87 ls st (0, 0) Q)) := v208_87 (c := 0) (n := 0)
theorem v208_90 {z : P0} {st : List Value} {cu : Nat × Nat} {Q : Res → Mem → Prop} {σ : Mem} {x0 x1 x2 x3 x4 x5 x6 : Option Value} : X z 208 90 [x0, x1, x2, x3, x4, x5, x6] (st) cu σ Q = (X z 208 110 [x0, x1, x2, x3, x4, x5, x6] (st) cu σ Q) := by
  rw [x208_90]
  rfl
theorem v208_93 {z : P0} {st : List Value} {cu : Nat × Nat} {Q : Res → Mem → Prop} {σ : Mem} {x1 x2 x3 x4 x5 x6 : Option Value} {u : Nat} : X z 208 93 [some (.ref u), x1, x2, x3, x4, x5, x6] (st) cu σ Q = (X z 208 94 [some (.ref u), x1, x2, x3, x4, x5, x6] (.ref u :: st) cu σ Q) := by
  rw [x208_93]
  rfl
theorem v208_94 {z : P0} {st : List Value} {cu : Nat × Nat} {Q : Res → Mem → Prop} {σ : Mem} {x0 x1 x2 x3 x4 x5 x6 : Option Value} : X z 208 94 [x0, x1, x2, x3, x4, x5, x6] (st) cu σ Q = (X z 208 96 [x0, x1, x2, x3, x4, x5, x6] (.int (nI 97) :: st) cu σ Q) := by
  rw [x208_94]
  rfl
theorem u208_96 {z : P0} {ls : Lcs} {st : List Value} {K : Nat → Nat × Nat} {I : Nat → Nat → Int32} {R : Nat → Nat → Option Nat} {L : Nat → Nat → Int64} {sz : Nat} {ex : Bool} {Q : Res → Mem → Prop} {a0 : Nat} {a1 : Int32} : X z 208 96 ls (.int a1 :: .ref a0 :: st) (0, 0) (K, I, R, L, sz, ex) Q = (wsum st ≤ 8 ∧ X z 202 0 [some (.ref a0), some (.int a1)] [] (0, 0) (K, I, R, L, sz, ex) (aftr (X z) mT 208 96 ls st (0, 0) Q)) := v208_96 (c := 0) (n := 0)
theorem v208_99 {z : P0} {st : List Value} {cu : Nat × Nat} {Q : Res → Mem → Prop} {σ : Mem} {x0 x1 x2 x3 x4 x6 : Option Value} {u : Int32} : X z 208 99 [x0, x1, x2, x3, x4, some (.int u), x6] (st) cu σ Q = (X z 208 101 [x0, x1, x2, x3, x4, some (.int u), x6] (.int u :: st) cu σ Q) := by
  rw [x208_99]
  rfl
theorem v208_101 {z : P0} {st : List Value} {cu : Nat × Nat} {Q : Res → Mem → Prop} {σ : Mem} {x0 x1 x2 x3 x4 x5 x6 : Option Value} {u : Int32} : X z 208 101 [x0, x1, x2, x3, x4, x5, x6] (.int u :: st) cu σ Q = (if u = nI 0 then X z 208 110 [x0, x1, x2, x3, x4, x5, x6] (st) cu σ Q else X z 208 104 [x0, x1, x2, x3, x4, x5, x6] (st) cu σ Q) := by
  rw [x208_101]
  rw [nI_0]
  obtain ⟨K, I, R, L, sz, ex⟩ := σ
  exact br_ite
theorem v208_104 {z : P0} {st : List Value} {cu : Nat × Nat} {Q : Res → Mem → Prop} {σ : Mem} {x1 x2 x3 x4 x5 x6 : Option Value} {u : Nat} : X z 208 104 [some (.ref u), x1, x2, x3, x4, x5, x6] (st) cu σ Q = (X z 208 105 [some (.ref u), x1, x2, x3, x4, x5, x6] (.ref u :: st) cu σ Q) := by
  rw [x208_104]
  rfl
theorem v208_105 {z : P0} {st : List Value} {cu : Nat × Nat} {Q : Res → Mem → Prop} {σ : Mem} {x0 x1 x2 x3 x4 x5 x6 : Option Value} : X z 208 105 [x0, x1, x2, x3, x4, x5, x6] (st) cu σ Q = (X z 208 107 [x0, x1, x2, x3, x4, x5, x6] (.int (nI 110) :: st) cu σ Q) := by
  rw [x208_105]
  rfl
theorem u208_107 {z : P0} {ls : Lcs} {st : List Value} {K : Nat → Nat × Nat} {I : Nat → Nat → Int32} {R : Nat → Nat → Option Nat} {L : Nat → Nat → Int64} {sz : Nat} {ex : Bool} {Q : Res → Mem → Prop} {a0 : Nat} {a1 : Int32} : X z 208 107 ls (.int a1 :: .ref a0 :: st) (0, 0) (K, I, R, L, sz, ex) Q = (wsum st ≤ 8 ∧ X z 202 0 [some (.ref a0), some (.int a1)] [] (0, 0) (K, I, R, L, sz, ex) (aftr (X z) mT 208 107 ls st (0, 0) Q)) := v208_107 (c := 0) (n := 0)
theorem v208_110 {z : P0} {st : List Value} {cu : Nat × Nat} {Q : Res → Mem → Prop} {σ : Mem} {x1 x2 x3 x4 x5 x6 : Option Value} {u : Nat} : X z 208 110 [some (.ref u), x1, x2, x3, x4, x5, x6] (st) cu σ Q = (X z 208 111 [some (.ref u), x1, x2, x3, x4, x5, x6] (.ref u :: st) cu σ Q) := by
  rw [x208_110]
  rfl
theorem v208_111 {z : P0} {st : List Value} {cu : Nat × Nat} {Q : Res → Mem → Prop} {σ : Mem} {x0 x1 x2 x3 x4 x5 x6 : Option Value} : X z 208 111 [x0, x1, x2, x3, x4, x5, x6] (st) cu σ Q = (X z 208 113 [x0, x1, x2, x3, x4, x5, x6] (.int (nI 95) :: st) cu σ Q) := by
  rw [x208_111]
  rfl
theorem u208_113 {z : P0} {ls : Lcs} {st : List Value} {K : Nat → Nat × Nat} {I : Nat → Nat → Int32} {R : Nat → Nat → Option Nat} {L : Nat → Nat → Int64} {sz : Nat} {ex : Bool} {Q : Res → Mem → Prop} {a0 : Nat} {a1 : Int32} : X z 208 113 ls (.int a1 :: .ref a0 :: st) (0, 0) (K, I, R, L, sz, ex) Q = (wsum st ≤ 8 ∧ X z 202 0 [some (.ref a0), some (.int a1)] [] (0, 0) (K, I, R, L, sz, ex) (aftr (X z) mT 208 113 ls st (0, 0) Q)) := v208_113 (c := 0) (n := 0)
theorem v208_116 {z : P0} {st : List Value} {cu : Nat × Nat} {Q : Res → Mem → Prop} {σ : Mem} {x0 x1 x2 x3 x4 x5 x6 : Option Value} : X z 208 116 [x0, x1, x2, x3, x4, x5, x6] (st) cu σ Q = (X z 208 117 [x0, x1, x2, x3, x4, x5, x6] (.int (nI 0) :: st) cu σ Q) := by
  rw [x208_116]
  rfl
theorem v208_117 {z : P0} {st : List Value} {cu : Nat × Nat} {Q : Res → Mem → Prop} {σ : Mem} {x0 x1 x2 x3 x4 x5 x6 : Option Value} {u : Int32} : X z 208 117 [x0, x1, x2, x3, x4, x5, x6] (.int u :: st) cu σ Q = (cat2 x5 = false ∧ X z 208 119 [x0, x1, x2, x3, x4, x5, some (.int u)] (st) cu σ Q) := by
  rw [x208_117]
  obtain ⟨K, I, R, L, sz, ex⟩ := σ
  exact i_istore.trans sl_6
theorem v208_119 {z : P0} {st : List Value} {cu : Nat × Nat} {Q : Res → Mem → Prop} {σ : Mem} {x0 x1 x2 x3 x4 x5 : Option Value} {u : Int32} : X z 208 119 [x0, x1, x2, x3, x4, x5, some (.int u)] (st) cu σ Q = (X z 208 121 [x0, x1, x2, x3, x4, x5, some (.int u)] (.int u :: st) cu σ Q) := by
  rw [x208_119]
  rfl
theorem v208_121 {z : P0} {st : List Value} {cu : Nat × Nat} {Q : Res → Mem → Prop} {σ : Mem} {x0 x1 x2 x4 x5 x6 : Option Value} {u : Int32} : X z 208 121 [x0, x1, x2, some (.int u), x4, x5, x6] (st) cu σ Q = (X z 208 122 [x0, x1, x2, some (.int u), x4, x5, x6] (.int u :: st) cu σ Q) := by
  rw [x208_121]
  rfl
theorem v208_122 {z : P0} {st : List Value} {cu : Nat × Nat} {Q : Res → Mem → Prop} {σ : Mem} {x0 x1 x2 x3 x4 x5 x6 : Option Value} {u v : Int32} : X z 208 122 [x0, x1, x2, x3, x4, x5, x6] (.int v :: .int u :: st) cu σ Q = (if u < v then X z 208 125 [x0, x1, x2, x3, x4, x5, x6] (st) cu σ Q else X z 208 143 [x0, x1, x2, x3, x4, x5, x6] (st) cu σ Q) := by
  rw [x208_122]
  obtain ⟨K, I, R, L, sz, ex⟩ := σ
  exact br_ge
theorem v208_125 {z : P0} {st : List Value} {cu : Nat × Nat} {Q : Res → Mem → Prop} {σ : Mem} {x1 x2 x3 x4 x5 x6 : Option Value} {u : Nat} : X z 208 125 [some (.ref u), x1, x2, x3, x4, x5, x6] (st) cu σ Q = (X z 208 126 [some (.ref u), x1, x2, x3, x4, x5, x6] (.ref u :: st) cu σ Q) := by
  rw [x208_125]
  rfl
theorem v208_126 {z : P0} {st : List Value} {cu : Nat × Nat} {Q : Res → Mem → Prop} {σ : Mem} {x0 x1 x2 x3 x4 x5 x6 : Option Value} : X z 208 126 [x0, x1, x2, x3, x4, x5, x6] (st) cu σ Q = (X z 208 127 [x0, x1, x2, x3, x4, x5, x6] (.int (nI 1) :: st) cu σ Q) := by
  rw [x208_126]
  rfl
theorem v208_127 {z : P0} {st : List Value} {cu : Nat × Nat} {Q : Res → Mem → Prop} {σ : Mem} {x0 x1 x3 x4 x5 x6 : Option Value} {u : Int32} : X z 208 127 [x0, x1, some (.int u), x3, x4, x5, x6] (st) cu σ Q = (X z 208 128 [x0, x1, some (.int u), x3, x4, x5, x6] (.int u :: st) cu σ Q) := by
  rw [x208_127]
  rfl
theorem v208_128 {z : P0} {st : List Value} {cu : Nat × Nat} {Q : Res → Mem → Prop} {σ : Mem} {x0 x1 x2 x4 x5 x6 : Option Value} {u : Int32} : X z 208 128 [x0, x1, x2, some (.int u), x4, x5, x6] (st) cu σ Q = (X z 208 129 [x0, x1, x2, some (.int u), x4, x5, x6] (.int u :: st) cu σ Q) := by
  rw [x208_128]
  rfl
theorem v208_129 {z : P0} {st : List Value} {cu : Nat × Nat} {Q : Res → Mem → Prop} {σ : Mem} {x0 x1 x2 x3 x4 x5 : Option Value} {u : Int32} : X z 208 129 [x0, x1, x2, x3, x4, x5, some (.int u)] (st) cu σ Q = (X z 208 131 [x0, x1, x2, x3, x4, x5, some (.int u)] (.int u :: st) cu σ Q) := by
  rw [x208_129]
  rfl
theorem u208_131 {z : P0} {ls : Lcs} {st : List Value} {K : Nat → Nat × Nat} {I : Nat → Nat → Int32} {R : Nat → Nat → Option Nat} {L : Nat → Nat → Int64} {sz : Nat} {ex : Bool} {Q : Res → Mem → Prop} {a0 : Int32} {a1 : Int32} {a2 : Int32} {a3 : Int32} : X z 208 131 ls (.int a3 :: .int a2 :: .int a1 :: .int a0 :: st) (0, 0) (K, I, R, L, sz, ex) Q = (wsum st ≤ 8 ∧ X z 194 0 [some (.int a0), some (.int a1), some (.int a2), some (.int a3)] [] (0, 0) (K, I, R, L, sz, ex) (aftr (X z) mT 208 131 ls st (0, 0) Q)) := v208_131 (c := 0) (n := 0)
theorem u208_134 {z : P0} {ls : Lcs} {st : List Value} {K : Nat → Nat × Nat} {I : Nat → Nat → Int32} {R : Nat → Nat → Option Nat} {L : Nat → Nat → Int64} {sz : Nat} {ex : Bool} {Q : Res → Mem → Prop} {a0 : Nat} {a1 : Int32} : X z 208 134 ls (.int a1 :: .ref a0 :: st) (0, 0) (K, I, R, L, sz, ex) Q = (wsum st ≤ 8 ∧ X z 202 0 [some (.ref a0), some (.int a1)] [] (0, 0) (K, I, R, L, sz, ex) (aftr (X z) mT 208 134 ls st (0, 0) Q)) := v208_134 (c := 0) (n := 0)
theorem v208_137 {z : P0} {st : List Value} {cu : Nat × Nat} {Q : Res → Mem → Prop} {σ : Mem} {x0 x1 x2 x3 x4 x5 : Option Value} {u : Int32} : X z 208 137 [x0, x1, x2, x3, x4, x5, some (.int u)] (st) cu σ Q = (cat2 x5 = false ∧ X z 208 140 [x0, x1, x2, x3, x4, x5, some (.int (u + nI 1))] (st) cu σ Q) := by
  rw [x208_137]
  obtain ⟨K, I, R, L, sz, ex⟩ := σ
  exact i_iinc.trans (gl_6.trans (ldI_i.trans sl_6))
theorem v208_140 {z : P0} {st : List Value} {cu : Nat × Nat} {Q : Res → Mem → Prop} {σ : Mem} {x0 x1 x2 x3 x4 x5 x6 : Option Value} : X z 208 140 [x0, x1, x2, x3, x4, x5, x6] (st) cu σ Q = (X z 208 119 [x0, x1, x2, x3, x4, x5, x6] (st) cu σ Q) := by
  rw [x208_140]
  rfl
theorem v208_143 {z : P0} {cu : Nat × Nat} {Q : Res → Mem → Prop} {σ : Mem} {x0 x1 x2 x3 x4 x5 x6 : Option Value} : X z 208 143 [x0, x1, x2, x3, x4, x5, x6] ([]) cu σ Q = (Q (.inl none) σ) := by
  rw [x208_143]
  rfl
theorem v209_0 {z : P0} {st : List Value} {cu : Nat × Nat} {Q : Res → Mem → Prop} {σ : Mem} {x0 x1 x2 x3 x4 x5 x6 x7 x8 x9 x10 : Option Value} : X z 209 0 [x0, x1, x2, x3, x4, x5, x6, x7, x8, x9, x10] (st) cu σ Q = (X z 209 1 [x0, x1, x2, x3, x4, x5, x6, x7, x8, x9, x10] (.int (nI 0) :: st) cu σ Q) := by
  rw [x209_0]
  rfl
theorem v209_1 {z : P0} {st : List Value} {cu : Nat × Nat} {Q : Res → Mem → Prop} {σ : Mem} {x0 x1 x2 x3 x4 x5 x6 x7 x8 x9 x10 : Option Value} {u : Int32} : X z 209 1 [x0, x1, x2, x3, x4, x5, x6, x7, x8, x9, x10] (.int u :: st) cu σ Q = (cat2 x5 = false ∧ X z 209 3 [x0, x1, x2, x3, x4, x5, some (.int u), x7, x8, x9, x10] (st) cu σ Q) := by
  rw [x209_1]
  obtain ⟨K, I, R, L, sz, ex⟩ := σ
  exact i_istore.trans sl_6
theorem v209_3 {z : P0} {st : List Value} {cu : Nat × Nat} {Q : Res → Mem → Prop} {σ : Mem} {x0 x1 x2 x3 x4 x5 x6 x7 x8 x9 x10 : Option Value} : X z 209 3 [x0, x1, x2, x3, x4, x5, x6, x7, x8, x9, x10] (st) cu σ Q = (X z 209 4 [x0, x1, x2, x3, x4, x5, x6, x7, x8, x9, x10] (.int (nI 0) :: st) cu σ Q) := by
  rw [x209_3]
  rfl
theorem v209_4 {z : P0} {st : List Value} {cu : Nat × Nat} {Q : Res → Mem → Prop} {σ : Mem} {x0 x1 x2 x3 x4 x5 x6 x7 x8 x9 x10 : Option Value} {u : Int32} : X z 209 4 [x0, x1, x2, x3, x4, x5, x6, x7, x8, x9, x10] (.int u :: st) cu σ Q = (cat2 x6 = false ∧ X z 209 6 [x0, x1, x2, x3, x4, x5, x6, some (.int u), x8, x9, x10] (st) cu σ Q) := by
  rw [x209_4]
  obtain ⟨K, I, R, L, sz, ex⟩ := σ
  exact i_istore.trans sl_7
theorem v209_6 {z : P0} {st : List Value} {cu : Nat × Nat} {Q : Res → Mem → Prop} {σ : Mem} {x0 x1 x2 x3 x4 x5 x6 x7 x8 x9 x10 : Option Value} : X z 209 6 [x0, x1, x2, x3, x4, x5, x6, x7, x8, x9, x10] (st) cu σ Q = (X z 209 7 [x0, x1, x2, x3, x4, x5, x6, x7, x8, x9, x10] (.int (nI 0) :: st) cu σ Q) := by
  rw [x209_6]
  rfl
theorem v209_7 {z : P0} {st : List Value} {cu : Nat × Nat} {Q : Res → Mem → Prop} {σ : Mem} {x0 x1 x2 x3 x4 x5 x6 x7 x8 x9 x10 : Option Value} {u : Int32} : X z 209 7 [x0, x1, x2, x3, x4, x5, x6, x7, x8, x9, x10] (.int u :: st) cu σ Q = (cat2 x7 = false ∧ X z 209 9 [x0, x1, x2, x3, x4, x5, x6, x7, some (.int u), x9, x10] (st) cu σ Q) := by
  rw [x209_7]
  obtain ⟨K, I, R, L, sz, ex⟩ := σ
  exact i_istore.trans sl_8
theorem v209_9 {z : P0} {st : List Value} {cu : Nat × Nat} {Q : Res → Mem → Prop} {σ : Mem} {x0 x1 x2 x3 x4 x5 x6 x7 x9 x10 : Option Value} {u : Int32} : X z 209 9 [x0, x1, x2, x3, x4, x5, x6, x7, some (.int u), x9, x10] (st) cu σ Q = (X z 209 11 [x0, x1, x2, x3, x4, x5, x6, x7, some (.int u), x9, x10] (.int u :: st) cu σ Q) := by
  rw [x209_9]
  rfl
theorem v209_11 {z : P0} {st : List Value} {cu : Nat × Nat} {Q : Res → Mem → Prop} {σ : Mem} {x0 x1 x2 x3 x4 x5 x6 x7 x8 x9 x10 : Option Value} : X z 209 11 [x0, x1, x2, x3, x4, x5, x6, x7, x8, x9, x10] (st) cu σ Q = (X z 209 13 [x0, x1, x2, x3, x4, x5, x6, x7, x8, x9, x10] (.int (nI 20) :: st) cu σ Q) := by
  rw [x209_11]
  rfl
theorem v209_13 {z : P0} {st : List Value} {cu : Nat × Nat} {Q : Res → Mem → Prop} {σ : Mem} {x0 x1 x2 x3 x4 x5 x6 x7 x8 x9 x10 : Option Value} {u v : Int32} : X z 209 13 [x0, x1, x2, x3, x4, x5, x6, x7, x8, x9, x10] (.int v :: .int u :: st) cu σ Q = (if u < v then X z 209 16 [x0, x1, x2, x3, x4, x5, x6, x7, x8, x9, x10] (st) cu σ Q else X z 209 67 [x0, x1, x2, x3, x4, x5, x6, x7, x8, x9, x10] (st) cu σ Q) := by
  rw [x209_13]
  obtain ⟨K, I, R, L, sz, ex⟩ := σ
  exact br_ge
theorem v209_16 {z : P0} {st : List Value} {cu : Nat × Nat} {Q : Res → Mem → Prop} {σ : Mem} {x0 x1 x3 x4 x5 x6 x7 x8 x9 x10 : Option Value} {u : Int32} : X z 209 16 [x0, x1, some (.int u), x3, x4, x5, x6, x7, x8, x9, x10] (st) cu σ Q = (X z 209 17 [x0, x1, some (.int u), x3, x4, x5, x6, x7, x8, x9, x10] (.int u :: st) cu σ Q) := by
  rw [x209_16]
  rfl
theorem v209_17 {z : P0} {st : List Value} {cu : Nat × Nat} {Q : Res → Mem → Prop} {σ : Mem} {x0 x1 x2 x3 x4 x5 x6 x7 x9 x10 : Option Value} {u : Int32} : X z 209 17 [x0, x1, x2, x3, x4, x5, x6, x7, some (.int u), x9, x10] (st) cu σ Q = (X z 209 19 [x0, x1, x2, x3, x4, x5, x6, x7, some (.int u), x9, x10] (.int u :: st) cu σ Q) := by
  rw [x209_17]
  rfl
theorem v209_19 {z : P0} {st : List Value} {cu : Nat × Nat} {Q : Res → Mem → Prop} {σ : Mem} {x0 x1 x2 x3 x4 x5 x6 x7 x8 x9 x10 : Option Value} {u v : Int32} : X z 209 19 [x0, x1, x2, x3, x4, x5, x6, x7, x8, x9, x10] (.int v :: .int u :: st) cu σ Q = (X z 209 20 [x0, x1, x2, x3, x4, x5, x6, x7, x8, x9, x10] (.int (u >>> (v &&& 31)) :: st) cu σ Q) := by
  rw [x209_19]
  rfl
theorem v209_20 {z : P0} {st : List Value} {cu : Nat × Nat} {Q : Res → Mem → Prop} {σ : Mem} {x0 x1 x2 x3 x4 x5 x6 x7 x8 x9 x10 : Option Value} : X z 209 20 [x0, x1, x2, x3, x4, x5, x6, x7, x8, x9, x10] (st) cu σ Q = (X z 209 21 [x0, x1, x2, x3, x4, x5, x6, x7, x8, x9, x10] (.int (nI 1) :: st) cu σ Q) := by
  rw [x209_20]
  rfl
theorem v209_21 {z : P0} {st : List Value} {cu : Nat × Nat} {Q : Res → Mem → Prop} {σ : Mem} {x0 x1 x2 x3 x4 x5 x6 x7 x8 x9 x10 : Option Value} {u v : Int32} : X z 209 21 [x0, x1, x2, x3, x4, x5, x6, x7, x8, x9, x10] (.int v :: .int u :: st) cu σ Q = (X z 209 22 [x0, x1, x2, x3, x4, x5, x6, x7, x8, x9, x10] (.int (u &&& v) :: st) cu σ Q) := by
  rw [x209_21]
  rfl
theorem v209_22 {z : P0} {st : List Value} {cu : Nat × Nat} {Q : Res → Mem → Prop} {σ : Mem} {x0 x1 x2 x3 x4 x5 x6 x7 x8 x9 x10 : Option Value} : X z 209 22 [x0, x1, x2, x3, x4, x5, x6, x7, x8, x9, x10] (st) cu σ Q = (X z 209 23 [x0, x1, x2, x3, x4, x5, x6, x7, x8, x9, x10] (.int (nI 1) :: st) cu σ Q) := by
  rw [x209_22]
  rfl
theorem v209_23 {z : P0} {st : List Value} {cu : Nat × Nat} {Q : Res → Mem → Prop} {σ : Mem} {x0 x1 x2 x3 x4 x5 x6 x7 x8 x9 x10 : Option Value} {u v : Int32} : X z 209 23 [x0, x1, x2, x3, x4, x5, x6, x7, x8, x9, x10] (.int v :: .int u :: st) cu σ Q = (if u = v then X z 209 26 [x0, x1, x2, x3, x4, x5, x6, x7, x8, x9, x10] (st) cu σ Q else X z 209 61 [x0, x1, x2, x3, x4, x5, x6, x7, x8, x9, x10] (st) cu σ Q) := by
  rw [x209_23]
  obtain ⟨K, I, R, L, sz, ex⟩ := σ
  exact br_ne
theorem v209_26 {z : P0} {st : List Value} {cu : Nat × Nat} {Q : Res → Mem → Prop} {σ : Mem} {x0 x2 x3 x4 x5 x6 x7 x8 x9 x10 : Option Value} {u : Int32} : X z 209 26 [x0, some (.int u), x2, x3, x4, x5, x6, x7, x8, x9, x10] (st) cu σ Q = (X z 209 27 [x0, some (.int u), x2, x3, x4, x5, x6, x7, x8, x9, x10] (.int u :: st) cu σ Q) := by
  rw [x209_26]
  rfl
theorem v209_27 {z : P0} {st : List Value} {cu : Nat × Nat} {Q : Res → Mem → Prop} {σ : Mem} {x0 x1 x2 x3 x4 x5 x6 x7 x8 x9 x10 : Option Value} {u : Int32} : X z 209 27 [x0, x1, x2, x3, x4, x5, x6, x7, x8, x9, x10] (.int u :: st) cu σ Q = (if u = nI 0 then X z 209 42 [x0, x1, x2, x3, x4, x5, x6, x7, x8, x9, x10] (st) cu σ Q else X z 209 30 [x0, x1, x2, x3, x4, x5, x6, x7, x8, x9, x10] (st) cu σ Q) := by
  rw [x209_27]
  rw [nI_0]
  obtain ⟨K, I, R, L, sz, ex⟩ := σ
  exact br_ite
theorem v209_30 {z : P0} {st : List Value} {cu : Nat × Nat} {Q : Res → Mem → Prop} {σ : Mem} {x0 x1 x2 x3 x4 x5 x6 x8 x9 x10 : Option Value} {u : Int32} : X z 209 30 [x0, x1, x2, x3, x4, x5, x6, some (.int u), x8, x9, x10] (st) cu σ Q = (X z 209 32 [x0, x1, x2, x3, x4, x5, x6, some (.int u), x8, x9, x10] (.int u :: st) cu σ Q) := by
  rw [x209_30]
  rfl
theorem v209_32 {z : P0} {st : List Value} {cu : Nat × Nat} {Q : Res → Mem → Prop} {σ : Mem} {x0 x1 x2 x4 x5 x6 x7 x8 x9 x10 : Option Value} {u : Nat} : X z 209 32 [x0, x1, x2, some (.ref u), x4, x5, x6, x7, x8, x9, x10] (st) cu σ Q = (X z 209 33 [x0, x1, x2, some (.ref u), x4, x5, x6, x7, x8, x9, x10] (.ref u :: st) cu σ Q) := by
  rw [x209_32]
  rfl
theorem v209_33 {z : P0} {st : List Value} {cu : Nat × Nat} {Q : Res → Mem → Prop} {σ : Mem} {x0 x1 x2 x3 x4 x5 x6 x7 x9 x10 : Option Value} {u : Int32} : X z 209 33 [x0, x1, x2, x3, x4, x5, x6, x7, some (.int u), x9, x10] (st) cu σ Q = (X z 209 35 [x0, x1, x2, x3, x4, x5, x6, x7, some (.int u), x9, x10] (.int u :: st) cu σ Q) := by
  rw [x209_33]
  rfl
theorem v209_35 {z : P0} {st : List Value} {cu : Nat × Nat} {Q : Res → Mem → Prop} {K : Nat → Nat × Nat} {I : Nat → Nat → Int32} {R : Nat → Nat → Option Nat} {L : Nat → Nat → Int64} {sz : Nat} {ex : Bool} {x0 x1 x2 x3 x4 x5 x6 x7 x8 x9 x10 : Option Value} {u : Nat} {v : Int32} : X z 209 35 [x0, x1, x2, x3, x4, x5, x6, x7, x8, x9, x10] (.int v :: .ref u :: st) cu (K, I, R, L, sz, ex) Q = (((K u).1 = 20 ∨ (K u).1 = 50) ∧ vp_in v (K u).2 ∧ X z 209 36 [x0, x1, x2, x3, x4, x5, x6, x7, x8, x9, x10] (.int (I u v.toNatClampNeg) :: st) cu (K, I, R, L, sz, ex) Q) := by
  rw [x209_35]
  rfl
theorem v209_36 {z : P0} {st : List Value} {cu : Nat × Nat} {Q : Res → Mem → Prop} {σ : Mem} {x0 x1 x2 x3 x4 x5 x6 x7 x8 x9 x10 : Option Value} {u v : Int32} : X z 209 36 [x0, x1, x2, x3, x4, x5, x6, x7, x8, x9, x10] (.int v :: .int u :: st) cu σ Q = (X z 209 37 [x0, x1, x2, x3, x4, x5, x6, x7, x8, x9, x10] (.int (u >>> (v &&& 31)) :: st) cu σ Q) := by
  rw [x209_36]
  rfl
theorem v209_37 {z : P0} {st : List Value} {cu : Nat × Nat} {Q : Res → Mem → Prop} {σ : Mem} {x0 x1 x2 x3 x4 x5 x6 x7 x8 x9 x10 : Option Value} : X z 209 37 [x0, x1, x2, x3, x4, x5, x6, x7, x8, x9, x10] (st) cu σ Q = (X z 209 38 [x0, x1, x2, x3, x4, x5, x6, x7, x8, x9, x10] (.int (nI 1) :: st) cu σ Q) := by
  rw [x209_37]
  rfl
theorem v209_38 {z : P0} {st : List Value} {cu : Nat × Nat} {Q : Res → Mem → Prop} {σ : Mem} {x0 x1 x2 x3 x4 x5 x6 x7 x8 x9 x10 : Option Value} {u v : Int32} : X z 209 38 [x0, x1, x2, x3, x4, x5, x6, x7, x8, x9, x10] (.int v :: .int u :: st) cu σ Q = (X z 209 39 [x0, x1, x2, x3, x4, x5, x6, x7, x8, x9, x10] (.int (u &&& v) :: st) cu σ Q) := by
  rw [x209_38]
  rfl
theorem v209_39 {z : P0} {st : List Value} {cu : Nat × Nat} {Q : Res → Mem → Prop} {σ : Mem} {x0 x1 x2 x3 x4 x5 x6 x7 x8 x9 x10 : Option Value} {u : Int32} : X z 209 39 [x0, x1, x2, x3, x4, x5, x6, x7, x8, x9, x10] (.int u :: st) cu σ Q = (if u = nI 0 then X z 209 42 [x0, x1, x2, x3, x4, x5, x6, x7, x8, x9, x10] (st) cu σ Q else X z 209 61 [x0, x1, x2, x3, x4, x5, x6, x7, x8, x9, x10] (st) cu σ Q) := by
  rw [x209_39]
  rw [nI_0]
  obtain ⟨K, I, R, L, sz, ex⟩ := σ
  exact br_ne
theorem v209_42 {z : P0} {st : List Value} {cu : Nat × Nat} {Q : Res → Mem → Prop} {σ : Mem} {x0 x2 x3 x4 x5 x6 x7 x8 x9 x10 : Option Value} {u : Int32} : X z 209 42 [x0, some (.int u), x2, x3, x4, x5, x6, x7, x8, x9, x10] (st) cu σ Q = (X z 209 43 [x0, some (.int u), x2, x3, x4, x5, x6, x7, x8, x9, x10] (.int u :: st) cu σ Q) := by
  rw [x209_42]
  rfl
theorem v209_43 {z : P0} {st : List Value} {cu : Nat × Nat} {Q : Res → Mem → Prop} {σ : Mem} {x0 x1 x2 x3 x4 x5 x6 x7 x8 x9 x10 : Option Value} : X z 209 43 [x0, x1, x2, x3, x4, x5, x6, x7, x8, x9, x10] (st) cu σ Q = (X z 209 44 [x0, x1, x2, x3, x4, x5, x6, x7, x8, x9, x10] (.int (nI 1) :: st) cu σ Q) := by
  rw [x209_43]
  rfl
theorem v209_44 {z : P0} {st : List Value} {cu : Nat × Nat} {Q : Res → Mem → Prop} {σ : Mem} {x0 x1 x2 x3 x4 x5 x6 x7 x8 x9 x10 : Option Value} {u v : Int32} : X z 209 44 [x0, x1, x2, x3, x4, x5, x6, x7, x8, x9, x10] (.int v :: .int u :: st) cu σ Q = (if u = v then X z 209 47 [x0, x1, x2, x3, x4, x5, x6, x7, x8, x9, x10] (st) cu σ Q else X z 209 58 [x0, x1, x2, x3, x4, x5, x6, x7, x8, x9, x10] (st) cu σ Q) := by
  rw [x209_44]
  obtain ⟨K, I, R, L, sz, ex⟩ := σ
  exact br_ne
theorem v209_47 {z : P0} {st : List Value} {cu : Nat × Nat} {Q : Res → Mem → Prop} {σ : Mem} {x0 x1 x2 x3 x4 x5 x6 x8 x9 x10 : Option Value} {u : Int32} : X z 209 47 [x0, x1, x2, x3, x4, x5, x6, some (.int u), x8, x9, x10] (st) cu σ Q = (X z 209 49 [x0, x1, x2, x3, x4, x5, x6, some (.int u), x8, x9, x10] (.int u :: st) cu σ Q) := by
  rw [x209_47]
  rfl
theorem v209_49 {z : P0} {st : List Value} {cu : Nat × Nat} {Q : Res → Mem → Prop} {σ : Mem} {x0 x1 x2 x3 x4 x5 x6 x7 x8 x9 x10 : Option Value} : X z 209 49 [x0, x1, x2, x3, x4, x5, x6, x7, x8, x9, x10] (st) cu σ Q = (X z 209 50 [x0, x1, x2, x3, x4, x5, x6, x7, x8, x9, x10] (.int (nI 1) :: st) cu σ Q) := by
  rw [x209_49]
  rfl
theorem v209_50 {z : P0} {st : List Value} {cu : Nat × Nat} {Q : Res → Mem → Prop} {σ : Mem} {x0 x1 x2 x4 x5 x6 x7 x8 x9 x10 : Option Value} {u : Nat} : X z 209 50 [x0, x1, x2, some (.ref u), x4, x5, x6, x7, x8, x9, x10] (st) cu σ Q = (X z 209 51 [x0, x1, x2, some (.ref u), x4, x5, x6, x7, x8, x9, x10] (.ref u :: st) cu σ Q) := by
  rw [x209_50]
  rfl
theorem v209_51 {z : P0} {st : List Value} {cu : Nat × Nat} {Q : Res → Mem → Prop} {σ : Mem} {x0 x1 x2 x3 x4 x5 x6 x7 x9 x10 : Option Value} {u : Int32} : X z 209 51 [x0, x1, x2, x3, x4, x5, x6, x7, some (.int u), x9, x10] (st) cu σ Q = (X z 209 53 [x0, x1, x2, x3, x4, x5, x6, x7, some (.int u), x9, x10] (.int u :: st) cu σ Q) := by
  rw [x209_51]
  rfl
theorem v209_53 {z : P0} {st : List Value} {cu : Nat × Nat} {Q : Res → Mem → Prop} {K : Nat → Nat × Nat} {I : Nat → Nat → Int32} {R : Nat → Nat → Option Nat} {L : Nat → Nat → Int64} {sz : Nat} {ex : Bool} {x0 x1 x2 x3 x4 x5 x6 x7 x8 x9 x10 : Option Value} {u : Nat} {v : Int32} : X z 209 53 [x0, x1, x2, x3, x4, x5, x6, x7, x8, x9, x10] (.int v :: .ref u :: st) cu (K, I, R, L, sz, ex) Q = (((K u).1 = 20 ∨ (K u).1 = 50) ∧ vp_in v (K u).2 ∧ X z 209 54 [x0, x1, x2, x3, x4, x5, x6, x7, x8, x9, x10] (.int (I u v.toNatClampNeg) :: st) cu (K, I, R, L, sz, ex) Q) := by
  rw [x209_53]
  rfl
theorem v209_54 {z : P0} {st : List Value} {cu : Nat × Nat} {Q : Res → Mem → Prop} {σ : Mem} {x0 x1 x2 x3 x4 x5 x6 x7 x8 x9 x10 : Option Value} {u v : Int32} : X z 209 54 [x0, x1, x2, x3, x4, x5, x6, x7, x8, x9, x10] (.int v :: .int u :: st) cu σ Q = (X z 209 55 [x0, x1, x2, x3, x4, x5, x6, x7, x8, x9, x10] (.int (u <<< (v &&& 31)) :: st) cu σ Q) := by
  rw [x209_54]
  rfl
theorem v209_55 {z : P0} {st : List Value} {cu : Nat × Nat} {Q : Res → Mem → Prop} {σ : Mem} {x0 x1 x2 x3 x4 x5 x6 x7 x8 x9 x10 : Option Value} {u v : Int32} : X z 209 55 [x0, x1, x2, x3, x4, x5, x6, x7, x8, x9, x10] (.int v :: .int u :: st) cu σ Q = (X z 209 56 [x0, x1, x2, x3, x4, x5, x6, x7, x8, x9, x10] (.int (u ||| v) :: st) cu σ Q) := by
  rw [x209_55]
  rfl
theorem v209_56 {z : P0} {st : List Value} {cu : Nat × Nat} {Q : Res → Mem → Prop} {σ : Mem} {x0 x1 x2 x3 x4 x5 x6 x7 x8 x9 x10 : Option Value} {u : Int32} : X z 209 56 [x0, x1, x2, x3, x4, x5, x6, x7, x8, x9, x10] (.int u :: st) cu σ Q = (cat2 x6 = false ∧ X z 209 58 [x0, x1, x2, x3, x4, x5, x6, some (.int u), x8, x9, x10] (st) cu σ Q) := by
  rw [x209_56]
  obtain ⟨K, I, R, L, sz, ex⟩ := σ
  exact i_istore.trans sl_7
theorem v209_58 {z : P0} {st : List Value} {cu : Nat × Nat} {Q : Res → Mem → Prop} {σ : Mem} {x0 x1 x2 x3 x4 x5 x7 x8 x9 x10 : Option Value} {u : Int32} : X z 209 58 [x0, x1, x2, x3, x4, x5, some (.int u), x7, x8, x9, x10] (st) cu σ Q = (cat2 x5 = false ∧ X z 209 61 [x0, x1, x2, x3, x4, x5, some (.int (u + nI 1)), x7, x8, x9, x10] (st) cu σ Q) := by
  rw [x209_58]
  obtain ⟨K, I, R, L, sz, ex⟩ := σ
  exact i_iinc.trans (gl_6.trans (ldI_i.trans sl_6))
theorem v209_61 {z : P0} {st : List Value} {cu : Nat × Nat} {Q : Res → Mem → Prop} {σ : Mem} {x0 x1 x2 x3 x4 x5 x6 x7 x9 x10 : Option Value} {u : Int32} : X z 209 61 [x0, x1, x2, x3, x4, x5, x6, x7, some (.int u), x9, x10] (st) cu σ Q = (cat2 x7 = false ∧ X z 209 64 [x0, x1, x2, x3, x4, x5, x6, x7, some (.int (u + nI 1)), x9, x10] (st) cu σ Q) := by
  rw [x209_61]
  obtain ⟨K, I, R, L, sz, ex⟩ := σ
  exact i_iinc.trans (gl_8.trans (ldI_i.trans sl_8))
theorem v209_64 {z : P0} {st : List Value} {cu : Nat × Nat} {Q : Res → Mem → Prop} {σ : Mem} {x0 x1 x2 x3 x4 x5 x6 x7 x8 x9 x10 : Option Value} : X z 209 64 [x0, x1, x2, x3, x4, x5, x6, x7, x8, x9, x10] (st) cu σ Q = (X z 209 9 [x0, x1, x2, x3, x4, x5, x6, x7, x8, x9, x10] (st) cu σ Q) := by
  rw [x209_64]
  rfl
theorem v209_67 {z : P0} {st : List Value} {cu : Nat × Nat} {Q : Res → Mem → Prop} {σ : Mem} {x0 x1 x2 x3 x4 x5 x6 x7 x8 x9 x10 : Option Value} : X z 209 67 [x0, x1, x2, x3, x4, x5, x6, x7, x8, x9, x10] (st) cu σ Q = (X z 209 68 [x0, x1, x2, x3, x4, x5, x6, x7, x8, x9, x10] (.int (nI 0) :: st) cu σ Q) := by
  rw [x209_67]
  rfl
theorem v209_68 {z : P0} {st : List Value} {cu : Nat × Nat} {Q : Res → Mem → Prop} {σ : Mem} {x0 x1 x2 x3 x4 x5 x6 x7 x8 x9 x10 : Option Value} {u : Int32} : X z 209 68 [x0, x1, x2, x3, x4, x5, x6, x7, x8, x9, x10] (.int u :: st) cu σ Q = (cat2 x7 = false ∧ X z 209 70 [x0, x1, x2, x3, x4, x5, x6, x7, some (.int u), x9, x10] (st) cu σ Q) := by
  rw [x209_68]
  obtain ⟨K, I, R, L, sz, ex⟩ := σ
  exact i_istore.trans sl_8
theorem v209_70 {z : P0} {st : List Value} {cu : Nat × Nat} {Q : Res → Mem → Prop} {σ : Mem} {x0 x1 x2 x3 x4 x5 x6 x7 x8 x9 x10 : Option Value} : X z 209 70 [x0, x1, x2, x3, x4, x5, x6, x7, x8, x9, x10] (st) cu σ Q = (X z 209 71 [x0, x1, x2, x3, x4, x5, x6, x7, x8, x9, x10] (.int (nI 0) :: st) cu σ Q) := by
  rw [x209_70]
  rfl
theorem v209_71 {z : P0} {st : List Value} {cu : Nat × Nat} {Q : Res → Mem → Prop} {σ : Mem} {x0 x1 x2 x3 x4 x5 x6 x7 x8 x9 x10 : Option Value} {u : Int32} : X z 209 71 [x0, x1, x2, x3, x4, x5, x6, x7, x8, x9, x10] (.int u :: st) cu σ Q = (cat2 x8 = false ∧ X z 209 73 [x0, x1, x2, x3, x4, x5, x6, x7, x8, some (.int u), x10] (st) cu σ Q) := by
  rw [x209_71]
  obtain ⟨K, I, R, L, sz, ex⟩ := σ
  exact i_istore.trans sl_9
theorem v209_73 {z : P0} {st : List Value} {cu : Nat × Nat} {Q : Res → Mem → Prop} {σ : Mem} {x0 x1 x2 x3 x4 x5 x6 x7 x8 x10 : Option Value} {u : Int32} : X z 209 73 [x0, x1, x2, x3, x4, x5, x6, x7, x8, some (.int u), x10] (st) cu σ Q = (X z 209 75 [x0, x1, x2, x3, x4, x5, x6, x7, x8, some (.int u), x10] (.int u :: st) cu σ Q) := by
  rw [x209_73]
  rfl
theorem v209_75 {z : P0} {st : List Value} {cu : Nat × Nat} {Q : Res → Mem → Prop} {σ : Mem} {x0 x1 x2 x3 x4 x5 x6 x7 x8 x9 x10 : Option Value} : X z 209 75 [x0, x1, x2, x3, x4, x5, x6, x7, x8, x9, x10] (st) cu σ Q = (X z 209 77 [x0, x1, x2, x3, x4, x5, x6, x7, x8, x9, x10] (.int (nI 20) :: st) cu σ Q) := by
  rw [x209_75]
  rfl
theorem v209_77 {z : P0} {st : List Value} {cu : Nat × Nat} {Q : Res → Mem → Prop} {σ : Mem} {x0 x1 x2 x3 x4 x5 x6 x7 x8 x9 x10 : Option Value} {u v : Int32} : X z 209 77 [x0, x1, x2, x3, x4, x5, x6, x7, x8, x9, x10] (.int v :: .int u :: st) cu σ Q = (if u < v then X z 209 80 [x0, x1, x2, x3, x4, x5, x6, x7, x8, x9, x10] (st) cu σ Q else X z 209 213 [x0, x1, x2, x3, x4, x5, x6, x7, x8, x9, x10] (st) cu σ Q) := by
  rw [x209_77]
  obtain ⟨K, I, R, L, sz, ex⟩ := σ
  exact br_ge
theorem v209_80 {z : P0} {st : List Value} {cu : Nat × Nat} {Q : Res → Mem → Prop} {σ : Mem} {x0 x1 x3 x4 x5 x6 x7 x8 x9 x10 : Option Value} {u : Int32} : X z 209 80 [x0, x1, some (.int u), x3, x4, x5, x6, x7, x8, x9, x10] (st) cu σ Q = (X z 209 81 [x0, x1, some (.int u), x3, x4, x5, x6, x7, x8, x9, x10] (.int u :: st) cu σ Q) := by
  rw [x209_80]
  rfl
theorem v209_81 {z : P0} {st : List Value} {cu : Nat × Nat} {Q : Res → Mem → Prop} {σ : Mem} {x0 x1 x2 x3 x4 x5 x6 x7 x8 x10 : Option Value} {u : Int32} : X z 209 81 [x0, x1, x2, x3, x4, x5, x6, x7, x8, some (.int u), x10] (st) cu σ Q = (X z 209 83 [x0, x1, x2, x3, x4, x5, x6, x7, x8, some (.int u), x10] (.int u :: st) cu σ Q) := by
  rw [x209_81]
  rfl
theorem v209_83 {z : P0} {st : List Value} {cu : Nat × Nat} {Q : Res → Mem → Prop} {σ : Mem} {x0 x1 x2 x3 x4 x5 x6 x7 x8 x9 x10 : Option Value} {u v : Int32} : X z 209 83 [x0, x1, x2, x3, x4, x5, x6, x7, x8, x9, x10] (.int v :: .int u :: st) cu σ Q = (X z 209 84 [x0, x1, x2, x3, x4, x5, x6, x7, x8, x9, x10] (.int (u >>> (v &&& 31)) :: st) cu σ Q) := by
  rw [x209_83]
  rfl
theorem v209_84 {z : P0} {st : List Value} {cu : Nat × Nat} {Q : Res → Mem → Prop} {σ : Mem} {x0 x1 x2 x3 x4 x5 x6 x7 x8 x9 x10 : Option Value} : X z 209 84 [x0, x1, x2, x3, x4, x5, x6, x7, x8, x9, x10] (st) cu σ Q = (X z 209 85 [x0, x1, x2, x3, x4, x5, x6, x7, x8, x9, x10] (.int (nI 1) :: st) cu σ Q) := by
  rw [x209_84]
  rfl
theorem v209_85 {z : P0} {st : List Value} {cu : Nat × Nat} {Q : Res → Mem → Prop} {σ : Mem} {x0 x1 x2 x3 x4 x5 x6 x7 x8 x9 x10 : Option Value} {u v : Int32} : X z 209 85 [x0, x1, x2, x3, x4, x5, x6, x7, x8, x9, x10] (.int v :: .int u :: st) cu σ Q = (X z 209 86 [x0, x1, x2, x3, x4, x5, x6, x7, x8, x9, x10] (.int (u &&& v) :: st) cu σ Q) := by
  rw [x209_85]
  rfl
theorem v209_86 {z : P0} {st : List Value} {cu : Nat × Nat} {Q : Res → Mem → Prop} {σ : Mem} {x0 x1 x2 x3 x4 x5 x6 x7 x8 x9 x10 : Option Value} : X z 209 86 [x0, x1, x2, x3, x4, x5, x6, x7, x8, x9, x10] (st) cu σ Q = (X z 209 87 [x0, x1, x2, x3, x4, x5, x6, x7, x8, x9, x10] (.int (nI 1) :: st) cu σ Q) := by
  rw [x209_86]
  rfl
theorem v209_87 {z : P0} {st : List Value} {cu : Nat × Nat} {Q : Res → Mem → Prop} {σ : Mem} {x0 x1 x2 x3 x4 x5 x6 x7 x8 x9 x10 : Option Value} {u v : Int32} : X z 209 87 [x0, x1, x2, x3, x4, x5, x6, x7, x8, x9, x10] (.int v :: .int u :: st) cu σ Q = (if u = v then X z 209 90 [x0, x1, x2, x3, x4, x5, x6, x7, x8, x9, x10] (st) cu σ Q else X z 209 207 [x0, x1, x2, x3, x4, x5, x6, x7, x8, x9, x10] (st) cu σ Q) := by
  rw [x209_87]
  obtain ⟨K, I, R, L, sz, ex⟩ := σ
  exact br_ne
theorem v209_90 {z : P0} {st : List Value} {cu : Nat × Nat} {Q : Res → Mem → Prop} {σ : Mem} {x0 x2 x3 x4 x5 x6 x7 x8 x9 x10 : Option Value} {u : Int32} : X z 209 90 [x0, some (.int u), x2, x3, x4, x5, x6, x7, x8, x9, x10] (st) cu σ Q = (X z 209 91 [x0, some (.int u), x2, x3, x4, x5, x6, x7, x8, x9, x10] (.int u :: st) cu σ Q) := by
  rw [x209_90]
  rfl
theorem v209_91 {z : P0} {st : List Value} {cu : Nat × Nat} {Q : Res → Mem → Prop} {σ : Mem} {x0 x1 x2 x3 x4 x5 x6 x7 x8 x9 x10 : Option Value} {u : Int32} : X z 209 91 [x0, x1, x2, x3, x4, x5, x6, x7, x8, x9, x10] (.int u :: st) cu σ Q = (if u = nI 0 then X z 209 107 [x0, x1, x2, x3, x4, x5, x6, x7, x8, x9, x10] (st) cu σ Q else X z 209 94 [x0, x1, x2, x3, x4, x5, x6, x7, x8, x9, x10] (st) cu σ Q) := by
  rw [x209_91]
  rw [nI_0]
  obtain ⟨K, I, R, L, sz, ex⟩ := σ
  exact br_ite
theorem v209_94 {z : P0} {st : List Value} {cu : Nat × Nat} {Q : Res → Mem → Prop} {σ : Mem} {x0 x1 x2 x3 x4 x5 x6 x8 x9 x10 : Option Value} {u : Int32} : X z 209 94 [x0, x1, x2, x3, x4, x5, x6, some (.int u), x8, x9, x10] (st) cu σ Q = (X z 209 96 [x0, x1, x2, x3, x4, x5, x6, some (.int u), x8, x9, x10] (.int u :: st) cu σ Q) := by
  rw [x209_94]
  rfl
theorem v209_96 {z : P0} {st : List Value} {cu : Nat × Nat} {Q : Res → Mem → Prop} {σ : Mem} {x0 x1 x2 x4 x5 x6 x7 x8 x9 x10 : Option Value} {u : Nat} : X z 209 96 [x0, x1, x2, some (.ref u), x4, x5, x6, x7, x8, x9, x10] (st) cu σ Q = (X z 209 97 [x0, x1, x2, some (.ref u), x4, x5, x6, x7, x8, x9, x10] (.ref u :: st) cu σ Q) := by
  rw [x209_96]
  rfl
theorem v209_97 {z : P0} {st : List Value} {cu : Nat × Nat} {Q : Res → Mem → Prop} {σ : Mem} {x0 x1 x2 x3 x4 x5 x6 x7 x8 x10 : Option Value} {u : Int32} : X z 209 97 [x0, x1, x2, x3, x4, x5, x6, x7, x8, some (.int u), x10] (st) cu σ Q = (X z 209 99 [x0, x1, x2, x3, x4, x5, x6, x7, x8, some (.int u), x10] (.int u :: st) cu σ Q) := by
  rw [x209_97]
  rfl
theorem v209_99 {z : P0} {st : List Value} {cu : Nat × Nat} {Q : Res → Mem → Prop} {K : Nat → Nat × Nat} {I : Nat → Nat → Int32} {R : Nat → Nat → Option Nat} {L : Nat → Nat → Int64} {sz : Nat} {ex : Bool} {x0 x1 x2 x3 x4 x5 x6 x7 x8 x9 x10 : Option Value} {u : Nat} {v : Int32} : X z 209 99 [x0, x1, x2, x3, x4, x5, x6, x7, x8, x9, x10] (.int v :: .ref u :: st) cu (K, I, R, L, sz, ex) Q = (((K u).1 = 20 ∨ (K u).1 = 50) ∧ vp_in v (K u).2 ∧ X z 209 100 [x0, x1, x2, x3, x4, x5, x6, x7, x8, x9, x10] (.int (I u v.toNatClampNeg) :: st) cu (K, I, R, L, sz, ex) Q) := by
  rw [x209_99]
  rfl
theorem v209_100 {z : P0} {st : List Value} {cu : Nat × Nat} {Q : Res → Mem → Prop} {σ : Mem} {x0 x1 x2 x3 x4 x5 x6 x7 x8 x9 x10 : Option Value} {u v : Int32} : X z 209 100 [x0, x1, x2, x3, x4, x5, x6, x7, x8, x9, x10] (.int v :: .int u :: st) cu σ Q = (X z 209 101 [x0, x1, x2, x3, x4, x5, x6, x7, x8, x9, x10] (.int (u >>> (v &&& 31)) :: st) cu σ Q) := by
  rw [x209_100]
  rfl
theorem v209_101 {z : P0} {st : List Value} {cu : Nat × Nat} {Q : Res → Mem → Prop} {σ : Mem} {x0 x1 x2 x3 x4 x5 x6 x7 x8 x9 x10 : Option Value} : X z 209 101 [x0, x1, x2, x3, x4, x5, x6, x7, x8, x9, x10] (st) cu σ Q = (X z 209 102 [x0, x1, x2, x3, x4, x5, x6, x7, x8, x9, x10] (.int (nI 1) :: st) cu σ Q) := by
  rw [x209_101]
  rfl
theorem v209_102 {z : P0} {st : List Value} {cu : Nat × Nat} {Q : Res → Mem → Prop} {σ : Mem} {x0 x1 x2 x3 x4 x5 x6 x7 x8 x9 x10 : Option Value} {u v : Int32} : X z 209 102 [x0, x1, x2, x3, x4, x5, x6, x7, x8, x9, x10] (.int v :: .int u :: st) cu σ Q = (X z 209 103 [x0, x1, x2, x3, x4, x5, x6, x7, x8, x9, x10] (.int (u &&& v) :: st) cu σ Q) := by
  rw [x209_102]
  rfl
theorem v209_103 {z : P0} {st : List Value} {cu : Nat × Nat} {Q : Res → Mem → Prop} {σ : Mem} {x0 x1 x2 x3 x4 x5 x6 x7 x8 x9 x10 : Option Value} : X z 209 103 [x0, x1, x2, x3, x4, x5, x6, x7, x8, x9, x10] (st) cu σ Q = (X z 209 104 [x0, x1, x2, x3, x4, x5, x6, x7, x8, x9, x10] (.int (nI 1) :: st) cu σ Q) := by
  rw [x209_103]
  rfl
theorem v209_104 {z : P0} {st : List Value} {cu : Nat × Nat} {Q : Res → Mem → Prop} {σ : Mem} {x0 x1 x2 x3 x4 x5 x6 x7 x8 x9 x10 : Option Value} {u v : Int32} : X z 209 104 [x0, x1, x2, x3, x4, x5, x6, x7, x8, x9, x10] (.int v :: .int u :: st) cu σ Q = (if u = v then X z 209 107 [x0, x1, x2, x3, x4, x5, x6, x7, x8, x9, x10] (st) cu σ Q else X z 209 207 [x0, x1, x2, x3, x4, x5, x6, x7, x8, x9, x10] (st) cu σ Q) := by
  rw [x209_104]
  obtain ⟨K, I, R, L, sz, ex⟩ := σ
  exact br_ne
theorem v209_107 {z : P0} {st : List Value} {cu : Nat × Nat} {Q : Res → Mem → Prop} {σ : Mem} {x0 x2 x3 x4 x5 x6 x7 x8 x9 x10 : Option Value} {u : Int32} : X z 209 107 [x0, some (.int u), x2, x3, x4, x5, x6, x7, x8, x9, x10] (st) cu σ Q = (X z 209 108 [x0, some (.int u), x2, x3, x4, x5, x6, x7, x8, x9, x10] (.int u :: st) cu σ Q) := by
  rw [x209_107]
  rfl
theorem v209_108 {z : P0} {st : List Value} {cu : Nat × Nat} {Q : Res → Mem → Prop} {σ : Mem} {x0 x1 x2 x3 x4 x5 x6 x7 x8 x9 x10 : Option Value} : X z 209 108 [x0, x1, x2, x3, x4, x5, x6, x7, x8, x9, x10] (st) cu σ Q = (X z 209 109 [x0, x1, x2, x3, x4, x5, x6, x7, x8, x9, x10] (.int (nI 1) :: st) cu σ Q) := by
  rw [x209_108]
  rfl
theorem v209_109 {z : P0} {st : List Value} {cu : Nat × Nat} {Q : Res → Mem → Prop} {σ : Mem} {x0 x1 x2 x3 x4 x5 x6 x7 x8 x9 x10 : Option Value} {u v : Int32} : X z 209 109 [x0, x1, x2, x3, x4, x5, x6, x7, x8, x9, x10] (.int v :: .int u :: st) cu σ Q = (if u = v then X z 209 112 [x0, x1, x2, x3, x4, x5, x6, x7, x8, x9, x10] (st) cu σ Q else X z 209 125 [x0, x1, x2, x3, x4, x5, x6, x7, x8, x9, x10] (st) cu σ Q) := by
  rw [x209_109]
  obtain ⟨K, I, R, L, sz, ex⟩ := σ
  exact br_ne
theorem v209_112 {z : P0} {st : List Value} {cu : Nat × Nat} {Q : Res → Mem → Prop} {σ : Mem} {x0 x1 x2 x3 x4 x5 x6 x8 x9 x10 : Option Value} {u : Int32} : X z 209 112 [x0, x1, x2, x3, x4, x5, x6, some (.int u), x8, x9, x10] (st) cu σ Q = (X z 209 114 [x0, x1, x2, x3, x4, x5, x6, some (.int u), x8, x9, x10] (.int u :: st) cu σ Q) := by
  rw [x209_112]
  rfl
theorem v209_114 {z : P0} {st : List Value} {cu : Nat × Nat} {Q : Res → Mem → Prop} {σ : Mem} {x0 x1 x2 x3 x4 x5 x6 x7 x8 x9 x10 : Option Value} : X z 209 114 [x0, x1, x2, x3, x4, x5, x6, x7, x8, x9, x10] (st) cu σ Q = (X z 209 115 [x0, x1, x2, x3, x4, x5, x6, x7, x8, x9, x10] (.int (nI 1) :: st) cu σ Q) := by
  rw [x209_114]
  rfl
theorem v209_115 {z : P0} {st : List Value} {cu : Nat × Nat} {Q : Res → Mem → Prop} {σ : Mem} {x0 x1 x2 x4 x5 x6 x7 x8 x9 x10 : Option Value} {u : Nat} : X z 209 115 [x0, x1, x2, some (.ref u), x4, x5, x6, x7, x8, x9, x10] (st) cu σ Q = (X z 209 116 [x0, x1, x2, some (.ref u), x4, x5, x6, x7, x8, x9, x10] (.ref u :: st) cu σ Q) := by
  rw [x209_115]
  rfl
theorem v209_116 {z : P0} {st : List Value} {cu : Nat × Nat} {Q : Res → Mem → Prop} {σ : Mem} {x0 x1 x2 x3 x4 x5 x6 x7 x8 x10 : Option Value} {u : Int32} : X z 209 116 [x0, x1, x2, x3, x4, x5, x6, x7, x8, some (.int u), x10] (st) cu σ Q = (X z 209 118 [x0, x1, x2, x3, x4, x5, x6, x7, x8, some (.int u), x10] (.int u :: st) cu σ Q) := by
  rw [x209_116]
  rfl
theorem v209_118 {z : P0} {st : List Value} {cu : Nat × Nat} {Q : Res → Mem → Prop} {K : Nat → Nat × Nat} {I : Nat → Nat → Int32} {R : Nat → Nat → Option Nat} {L : Nat → Nat → Int64} {sz : Nat} {ex : Bool} {x0 x1 x2 x3 x4 x5 x6 x7 x8 x9 x10 : Option Value} {u : Nat} {v : Int32} : X z 209 118 [x0, x1, x2, x3, x4, x5, x6, x7, x8, x9, x10] (.int v :: .ref u :: st) cu (K, I, R, L, sz, ex) Q = (((K u).1 = 20 ∨ (K u).1 = 50) ∧ vp_in v (K u).2 ∧ X z 209 119 [x0, x1, x2, x3, x4, x5, x6, x7, x8, x9, x10] (.int (I u v.toNatClampNeg) :: st) cu (K, I, R, L, sz, ex) Q) := by
  rw [x209_118]
  rfl
theorem v209_119 {z : P0} {st : List Value} {cu : Nat × Nat} {Q : Res → Mem → Prop} {σ : Mem} {x0 x1 x2 x3 x4 x5 x6 x7 x8 x9 x10 : Option Value} {u v : Int32} : X z 209 119 [x0, x1, x2, x3, x4, x5, x6, x7, x8, x9, x10] (.int v :: .int u :: st) cu σ Q = (X z 209 120 [x0, x1, x2, x3, x4, x5, x6, x7, x8, x9, x10] (.int (u <<< (v &&& 31)) :: st) cu σ Q) := by
  rw [x209_119]
  rfl
theorem v209_120 {z : P0} {st : List Value} {cu : Nat × Nat} {Q : Res → Mem → Prop} {σ : Mem} {x0 x1 x2 x3 x4 x5 x6 x7 x8 x9 x10 : Option Value} : X z 209 120 [x0, x1, x2, x3, x4, x5, x6, x7, x8, x9, x10] (st) cu σ Q = (X z 209 121 [x0, x1, x2, x3, x4, x5, x6, x7, x8, x9, x10] (.int (nI 4294967295) :: st) cu σ Q) := by
  rw [x209_120]
  rw [neg1]
  rfl
theorem v209_121 {z : P0} {st : List Value} {cu : Nat × Nat} {Q : Res → Mem → Prop} {σ : Mem} {x0 x1 x2 x3 x4 x5 x6 x7 x8 x9 x10 : Option Value} {u v : Int32} : X z 209 121 [x0, x1, x2, x3, x4, x5, x6, x7, x8, x9, x10] (.int v :: .int u :: st) cu σ Q = (X z 209 122 [x0, x1, x2, x3, x4, x5, x6, x7, x8, x9, x10] (.int (u ^^^ v) :: st) cu σ Q) := by
  rw [x209_121]
  rfl
theorem v209_122 {z : P0} {st : List Value} {cu : Nat × Nat} {Q : Res → Mem → Prop} {σ : Mem} {x0 x1 x2 x3 x4 x5 x6 x7 x8 x9 x10 : Option Value} {u v : Int32} : X z 209 122 [x0, x1, x2, x3, x4, x5, x6, x7, x8, x9, x10] (.int v :: .int u :: st) cu σ Q = (X z 209 123 [x0, x1, x2, x3, x4, x5, x6, x7, x8, x9, x10] (.int (u &&& v) :: st) cu σ Q) := by
  rw [x209_122]
  rfl
theorem v209_123 {z : P0} {st : List Value} {cu : Nat × Nat} {Q : Res → Mem → Prop} {σ : Mem} {x0 x1 x2 x3 x4 x5 x6 x7 x8 x9 x10 : Option Value} {u : Int32} : X z 209 123 [x0, x1, x2, x3, x4, x5, x6, x7, x8, x9, x10] (.int u :: st) cu σ Q = (cat2 x6 = false ∧ X z 209 125 [x0, x1, x2, x3, x4, x5, x6, some (.int u), x8, x9, x10] (st) cu σ Q) := by
  rw [x209_123]
  obtain ⟨K, I, R, L, sz, ex⟩ := σ
  exact i_istore.trans sl_7
theorem v209_125 {z : P0} {st : List Value} {cu : Nat × Nat} {Q : Res → Mem → Prop} {σ : Mem} {x0 x1 x2 x3 x4 x5 x6 x7 x9 x10 : Option Value} {u : Int32} : X z 209 125 [x0, x1, x2, x3, x4, x5, x6, x7, some (.int u), x9, x10] (st) cu σ Q = (X z 209 127 [x0, x1, x2, x3, x4, x5, x6, x7, some (.int u), x9, x10] (.int u :: st) cu σ Q) := by
  rw [x209_125]
  rfl
theorem v209_127 {z : P0} {st : List Value} {cu : Nat × Nat} {Q : Res → Mem → Prop} {σ : Mem} {x0 x1 x2 x3 x4 x5 x6 x7 x8 x9 x10 : Option Value} {u : Int32} : X z 209 127 [x0, x1, x2, x3, x4, x5, x6, x7, x8, x9, x10] (.int u :: st) cu σ Q = (if nI 0 < u then X z 209 130 [x0, x1, x2, x3, x4, x5, x6, x7, x8, x9, x10] (st) cu σ Q else X z 209 150 [x0, x1, x2, x3, x4, x5, x6, x7, x8, x9, x10] (st) cu σ Q) := by
  rw [x209_127]
  rw [nI_0]
  obtain ⟨K, I, R, L, sz, ex⟩ := σ
  exact br_ge
theorem v209_130 {z : P0} {st : List Value} {cu : Nat × Nat} {Q : Res → Mem → Prop} {σ : Mem} {x1 x2 x3 x4 x5 x6 x7 x8 x9 x10 : Option Value} {u : Nat} : X z 209 130 [some (.ref u), x1, x2, x3, x4, x5, x6, x7, x8, x9, x10] (st) cu σ Q = (X z 209 131 [some (.ref u), x1, x2, x3, x4, x5, x6, x7, x8, x9, x10] (.ref u :: st) cu σ Q) := by
  rw [x209_130]
  rfl
theorem v209_131 {z : P0} {st : List Value} {cu : Nat × Nat} {Q : Res → Mem → Prop} {σ : Mem} {x0 x1 x2 x3 x4 x5 x6 x7 x9 x10 : Option Value} {u : Int32} : X z 209 131 [x0, x1, x2, x3, x4, x5, x6, x7, some (.int u), x9, x10] (st) cu σ Q = (X z 209 133 [x0, x1, x2, x3, x4, x5, x6, x7, some (.int u), x9, x10] (.int u :: st) cu σ Q) := by
  rw [x209_131]
  rfl
theorem v209_133 {z : P0} {st : List Value} {cu : Nat × Nat} {Q : Res → Mem → Prop} {σ : Mem} {x0 x1 x2 x3 x4 x5 x6 x7 x8 x9 x10 : Option Value} : X z 209 133 [x0, x1, x2, x3, x4, x5, x6, x7, x8, x9, x10] (st) cu σ Q = (X z 209 134 [x0, x1, x2, x3, x4, x5, x6, x7, x8, x9, x10] (.int (nI 1) :: st) cu σ Q) := by
  rw [x209_133]
  rfl
theorem v209_134 {z : P0} {st : List Value} {cu : Nat × Nat} {Q : Res → Mem → Prop} {σ : Mem} {x0 x1 x2 x3 x4 x5 x6 x7 x8 x9 x10 : Option Value} {u v : Int32} : X z 209 134 [x0, x1, x2, x3, x4, x5, x6, x7, x8, x9, x10] (.int v :: .int u :: st) cu σ Q = (X z 209 135 [x0, x1, x2, x3, x4, x5, x6, x7, x8, x9, x10] (.int (u + v) :: st) cu σ Q) := by
  rw [x209_134]
  rfl
theorem v209_135 {z : P0} {st : List Value} {cu : Nat × Nat} {Q : Res → Mem → Prop} {σ : Mem} {x0 x1 x2 x3 x4 x5 x7 x8 x9 x10 : Option Value} {u : Int32} : X z 209 135 [x0, x1, x2, x3, x4, x5, some (.int u), x7, x8, x9, x10] (st) cu σ Q = (X z 209 137 [x0, x1, x2, x3, x4, x5, some (.int u), x7, x8, x9, x10] (.int u :: st) cu σ Q) := by
  rw [x209_135]
  rfl
theorem v209_137 {z : P0} {st : List Value} {cu : Nat × Nat} {Q : Res → Mem → Prop} {σ : Mem} {x0 x1 x2 x3 x4 x5 x6 x7 x8 x9 x10 : Option Value} {u v : Int32} : X z 209 137 [x0, x1, x2, x3, x4, x5, x6, x7, x8, x9, x10] (.int v :: .int u :: st) cu σ Q = (if u = v then X z 209 140 [x0, x1, x2, x3, x4, x5, x6, x7, x8, x9, x10] (st) cu σ Q else X z 209 145 [x0, x1, x2, x3, x4, x5, x6, x7, x8, x9, x10] (st) cu σ Q) := by
  rw [x209_137]
  obtain ⟨K, I, R, L, sz, ex⟩ := σ
  exact br_ne
theorem v209_140 {z : P0} {st : List Value} {cu : Nat × Nat} {Q : Res → Mem → Prop} {σ : Mem} {x0 x1 x2 x3 x4 x5 x6 x7 x8 x9 x10 : Option Value} : X z 209 140 [x0, x1, x2, x3, x4, x5, x6, x7, x8, x9, x10] (st) cu σ Q = (X z 209 142 [x0, x1, x2, x3, x4, x5, x6, x7, x8, x9, x10] (.int (nI 38) :: st) cu σ Q) := by
  rw [x209_140]
  rfl
theorem v209_142 {z : P0} {st : List Value} {cu : Nat × Nat} {Q : Res → Mem → Prop} {σ : Mem} {x0 x1 x2 x3 x4 x5 x6 x7 x8 x9 x10 : Option Value} : X z 209 142 [x0, x1, x2, x3, x4, x5, x6, x7, x8, x9, x10] (st) cu σ Q = (X z 209 147 [x0, x1, x2, x3, x4, x5, x6, x7, x8, x9, x10] (st) cu σ Q) := by
  rw [x209_142]
  rfl
theorem v209_145 {z : P0} {st : List Value} {cu : Nat × Nat} {Q : Res → Mem → Prop} {σ : Mem} {x0 x1 x2 x3 x4 x5 x6 x7 x8 x9 x10 : Option Value} : X z 209 145 [x0, x1, x2, x3, x4, x5, x6, x7, x8, x9, x10] (st) cu σ Q = (X z 209 147 [x0, x1, x2, x3, x4, x5, x6, x7, x8, x9, x10] (.int (nI 44) :: st) cu σ Q) := by
  rw [x209_145]
  rfl
theorem u209_147 {z : P0} {ls : Lcs} {st : List Value} {K : Nat → Nat × Nat} {I : Nat → Nat → Int32} {R : Nat → Nat → Option Nat} {L : Nat → Nat → Int64} {sz : Nat} {ex : Bool} {Q : Res → Mem → Prop} {a0 : Nat} {a1 : Int32} : X z 209 147 ls (.int a1 :: .ref a0 :: st) (0, 0) (K, I, R, L, sz, ex) Q = (wsum st ≤ 8 ∧ X z 202 0 [some (.ref a0), some (.int a1)] [] (0, 0) (K, I, R, L, sz, ex) (aftr (X z) mT 209 147 ls st (0, 0) Q)) := v209_147 (c := 0) (n := 0)
theorem v209_150 {z : P0} {st : List Value} {cu : Nat × Nat} {Q : Res → Mem → Prop} {σ : Mem} {x0 x1 x2 x3 x4 x5 x6 x7 x9 x10 : Option Value} {u : Int32} : X z 209 150 [x0, x1, x2, x3, x4, x5, x6, x7, some (.int u), x9, x10] (st) cu σ Q = (cat2 x7 = false ∧ X z 209 153 [x0, x1, x2, x3, x4, x5, x6, x7, some (.int (u + nI 1)), x9, x10] (st) cu σ Q) := by
  rw [x209_150]
  obtain ⟨K, I, R, L, sz, ex⟩ := σ
  exact i_iinc.trans (gl_8.trans (ldI_i.trans sl_8))
theorem v209_153 {z : P0} {st : List Value} {cu : Nat × Nat} {Q : Res → Mem → Prop} {σ : Mem} {x0 x2 x3 x4 x5 x6 x7 x8 x9 x10 : Option Value} {u : Int32} : X z 209 153 [x0, some (.int u), x2, x3, x4, x5, x6, x7, x8, x9, x10] (st) cu σ Q = (X z 209 154 [x0, some (.int u), x2, x3, x4, x5, x6, x7, x8, x9, x10] (.int u :: st) cu σ Q) := by
  rw [x209_153]
  rfl
theorem v209_154 {z : P0} {st : List Value} {cu : Nat × Nat} {Q : Res → Mem → Prop} {σ : Mem} {x0 x1 x2 x3 x4 x5 x6 x7 x8 x9 x10 : Option Value} : X z 209 154 [x0, x1, x2, x3, x4, x5, x6, x7, x8, x9, x10] (st) cu σ Q = (X z 209 155 [x0, x1, x2, x3, x4, x5, x6, x7, x8, x9, x10] (.int (nI 1) :: st) cu σ Q) := by
  rw [x209_154]
  rfl
theorem v209_155 {z : P0} {st : List Value} {cu : Nat × Nat} {Q : Res → Mem → Prop} {σ : Mem} {x0 x1 x2 x3 x4 x5 x6 x7 x8 x9 x10 : Option Value} {u v : Int32} : X z 209 155 [x0, x1, x2, x3, x4, x5, x6, x7, x8, x9, x10] (.int v :: .int u :: st) cu σ Q = (if u = v then X z 209 158 [x0, x1, x2, x3, x4, x5, x6, x7, x8, x9, x10] (st) cu σ Q else X z 209 171 [x0, x1, x2, x3, x4, x5, x6, x7, x8, x9, x10] (st) cu σ Q) := by
  rw [x209_155]
  obtain ⟨K, I, R, L, sz, ex⟩ := σ
  exact br_ne
theorem v209_158 {z : P0} {st : List Value} {cu : Nat × Nat} {Q : Res → Mem → Prop} {σ : Mem} {x1 x2 x3 x4 x5 x6 x7 x8 x9 x10 : Option Value} {u : Nat} : X z 209 158 [some (.ref u), x1, x2, x3, x4, x5, x6, x7, x8, x9, x10] (st) cu σ Q = (X z 209 159 [some (.ref u), x1, x2, x3, x4, x5, x6, x7, x8, x9, x10] (.ref u :: st) cu σ Q) := by
  rw [x209_158]
  rfl
theorem v209_159 {z : P0} {st : List Value} {cu : Nat × Nat} {Q : Res → Mem → Prop} {σ : Mem} {x0 x1 x2 x3 x4 x6 x7 x8 x9 x10 : Option Value} {u : Nat} : X z 209 159 [x0, x1, x2, x3, x4, some (.ref u), x6, x7, x8, x9, x10] (st) cu σ Q = (X z 209 161 [x0, x1, x2, x3, x4, some (.ref u), x6, x7, x8, x9, x10] (.ref u :: st) cu σ Q) := by
  rw [x209_159]
  rfl
theorem v209_161 {z : P0} {st : List Value} {cu : Nat × Nat} {Q : Res → Mem → Prop} {σ : Mem} {x0 x1 x2 x4 x5 x6 x7 x8 x9 x10 : Option Value} {u : Nat} : X z 209 161 [x0, x1, x2, some (.ref u), x4, x5, x6, x7, x8, x9, x10] (st) cu σ Q = (X z 209 162 [x0, x1, x2, some (.ref u), x4, x5, x6, x7, x8, x9, x10] (.ref u :: st) cu σ Q) := by
  rw [x209_161]
  rfl
theorem v209_162 {z : P0} {st : List Value} {cu : Nat × Nat} {Q : Res → Mem → Prop} {σ : Mem} {x0 x1 x2 x3 x4 x5 x6 x7 x8 x10 : Option Value} {u : Int32} : X z 209 162 [x0, x1, x2, x3, x4, x5, x6, x7, x8, some (.int u), x10] (st) cu σ Q = (X z 209 164 [x0, x1, x2, x3, x4, x5, x6, x7, x8, some (.int u), x10] (.int u :: st) cu σ Q) := by
  rw [x209_162]
  rfl
theorem v209_164 {z : P0} {st : List Value} {cu : Nat × Nat} {Q : Res → Mem → Prop} {K : Nat → Nat × Nat} {I : Nat → Nat → Int32} {R : Nat → Nat → Option Nat} {L : Nat → Nat → Int64} {sz : Nat} {ex : Bool} {x0 x1 x2 x3 x4 x5 x6 x7 x8 x9 x10 : Option Value} {u : Nat} {v : Int32} : X z 209 164 [x0, x1, x2, x3, x4, x5, x6, x7, x8, x9, x10] (.int v :: .ref u :: st) cu (K, I, R, L, sz, ex) Q = (((K u).1 = 20 ∨ (K u).1 = 50) ∧ vp_in v (K u).2 ∧ X z 209 165 [x0, x1, x2, x3, x4, x5, x6, x7, x8, x9, x10] (.int (I u v.toNatClampNeg) :: st) cu (K, I, R, L, sz, ex) Q) := by
  rw [x209_164]
  rfl
theorem u209_165 {z : P0} {ls : Lcs} {st : List Value} {K : Nat → Nat × Nat} {I : Nat → Nat → Int32} {R : Nat → Nat → Option Nat} {L : Nat → Nat → Int64} {sz : Nat} {ex : Bool} {Q : Res → Mem → Prop} {a0 : Nat} {a1 : Nat} {a2 : Int32} : X z 209 165 ls (.int a2 :: .ref a1 :: .ref a0 :: st) (0, 0) (K, I, R, L, sz, ex) Q = (wsum st ≤ 8 ∧ X z 208 0 [some (.ref a0), some (.ref a1), some (.int a2), none, none, none, none] [] (0, 0) (K, I, R, L, sz, ex) (aftr (X z) mT 209 165 ls st (0, 0) Q)) := v209_165 (c := 0) (n := 0)
theorem v209_168 {z : P0} {st : List Value} {cu : Nat × Nat} {Q : Res → Mem → Prop} {σ : Mem} {x0 x1 x2 x3 x4 x5 x6 x7 x8 x9 x10 : Option Value} : X z 209 168 [x0, x1, x2, x3, x4, x5, x6, x7, x8, x9, x10] (st) cu σ Q = (X z 209 207 [x0, x1, x2, x3, x4, x5, x6, x7, x8, x9, x10] (st) cu σ Q) := by
  rw [x209_168]
  rfl
theorem v209_171 {z : P0} {st : List Value} {cu : Nat × Nat} {Q : Res → Mem → Prop} {σ : Mem} {x0 x1 x2 x3 x4 x5 x6 x7 x8 x9 x10 : Option Value} : X z 209 171 [x0, x1, x2, x3, x4, x5, x6, x7, x8, x9, x10] (st) cu σ Q = (X z 209 172 [x0, x1, x2, x3, x4, x5, x6, x7, x8, x9, x10] (.int (nI 0) :: st) cu σ Q) := by
  rw [x209_171]
  rfl
theorem v209_172 {z : P0} {st : List Value} {cu : Nat × Nat} {Q : Res → Mem → Prop} {σ : Mem} {x0 x1 x2 x3 x4 x5 x6 x7 x8 x9 x10 : Option Value} {u : Int32} : X z 209 172 [x0, x1, x2, x3, x4, x5, x6, x7, x8, x9, x10] (.int u :: st) cu σ Q = (cat2 x9 = false ∧ X z 209 174 [x0, x1, x2, x3, x4, x5, x6, x7, x8, x9, some (.int u)] (st) cu σ Q) := by
  rw [x209_172]
  obtain ⟨K, I, R, L, sz, ex⟩ := σ
  exact i_istore.trans sl_10
theorem v209_174 {z : P0} {st : List Value} {cu : Nat × Nat} {Q : Res → Mem → Prop} {σ : Mem} {x0 x1 x2 x3 x4 x5 x6 x7 x8 x9 : Option Value} {u : Int32} : X z 209 174 [x0, x1, x2, x3, x4, x5, x6, x7, x8, x9, some (.int u)] (st) cu σ Q = (X z 209 176 [x0, x1, x2, x3, x4, x5, x6, x7, x8, x9, some (.int u)] (.int u :: st) cu σ Q) := by
  rw [x209_174]
  rfl
theorem v209_176 {z : P0} {st : List Value} {cu : Nat × Nat} {Q : Res → Mem → Prop} {σ : Mem} {x0 x1 x2 x3 x5 x6 x7 x8 x9 x10 : Option Value} {u : Nat} : X z 209 176 [x0, x1, x2, x3, some (.ref u), x5, x6, x7, x8, x9, x10] (st) cu σ Q = (X z 209 178 [x0, x1, x2, x3, some (.ref u), x5, x6, x7, x8, x9, x10] (.ref u :: st) cu σ Q) := by
  rw [x209_176]
  rfl
theorem v209_178 {z : P0} {st : List Value} {cu : Nat × Nat} {Q : Res → Mem → Prop} {σ : Mem} {x0 x1 x2 x3 x4 x5 x6 x7 x8 x10 : Option Value} {u : Int32} : X z 209 178 [x0, x1, x2, x3, x4, x5, x6, x7, x8, some (.int u), x10] (st) cu σ Q = (X z 209 180 [x0, x1, x2, x3, x4, x5, x6, x7, x8, some (.int u), x10] (.int u :: st) cu σ Q) := by
  rw [x209_178]
  rfl
theorem v209_180 {z : P0} {st : List Value} {cu : Nat × Nat} {Q : Res → Mem → Prop} {K : Nat → Nat × Nat} {I : Nat → Nat → Int32} {R : Nat → Nat → Option Nat} {L : Nat → Nat → Int64} {sz : Nat} {ex : Bool} {x0 x1 x2 x3 x4 x5 x6 x7 x8 x9 x10 : Option Value} {u : Nat} {v : Int32} : X z 209 180 [x0, x1, x2, x3, x4, x5, x6, x7, x8, x9, x10] (.int v :: .ref u :: st) cu (K, I, R, L, sz, ex) Q = (((K u).1 = 20 ∨ (K u).1 = 50) ∧ vp_in v (K u).2 ∧ X z 209 181 [x0, x1, x2, x3, x4, x5, x6, x7, x8, x9, x10] (.int (I u v.toNatClampNeg) :: st) cu (K, I, R, L, sz, ex) Q) := by
  rw [x209_180]
  rfl
theorem v209_181 {z : P0} {st : List Value} {cu : Nat × Nat} {Q : Res → Mem → Prop} {σ : Mem} {x0 x1 x2 x3 x4 x5 x6 x7 x8 x9 x10 : Option Value} {u v : Int32} : X z 209 181 [x0, x1, x2, x3, x4, x5, x6, x7, x8, x9, x10] (.int v :: .int u :: st) cu σ Q = (if u < v then X z 209 184 [x0, x1, x2, x3, x4, x5, x6, x7, x8, x9, x10] (st) cu σ Q else X z 209 207 [x0, x1, x2, x3, x4, x5, x6, x7, x8, x9, x10] (st) cu σ Q) := by
  rw [x209_181]
  obtain ⟨K, I, R, L, sz, ex⟩ := σ
  exact br_ge
theorem v209_184 {z : P0} {st : List Value} {cu : Nat × Nat} {Q : Res → Mem → Prop} {σ : Mem} {x1 x2 x3 x4 x5 x6 x7 x8 x9 x10 : Option Value} {u : Nat} : X z 209 184 [some (.ref u), x1, x2, x3, x4, x5, x6, x7, x8, x9, x10] (st) cu σ Q = (X z 209 185 [some (.ref u), x1, x2, x3, x4, x5, x6, x7, x8, x9, x10] (.ref u :: st) cu σ Q) := by
  rw [x209_184]
  rfl
theorem v209_185 {z : P0} {st : List Value} {cu : Nat × Nat} {Q : Res → Mem → Prop} {σ : Mem} {x0 x1 x2 x3 x4 x5 x6 x7 x8 x9 x10 : Option Value} : X z 209 185 [x0, x1, x2, x3, x4, x5, x6, x7, x8, x9, x10] (st) cu σ Q = (X z 209 186 [x0, x1, x2, x3, x4, x5, x6, x7, x8, x9, x10] (.int (nI 0) :: st) cu σ Q) := by
  rw [x209_185]
  rfl
theorem v209_186 {z : P0} {st : List Value} {cu : Nat × Nat} {Q : Res → Mem → Prop} {σ : Mem} {x0 x1 x2 x3 x4 x5 x6 x7 x8 x10 : Option Value} {u : Int32} : X z 209 186 [x0, x1, x2, x3, x4, x5, x6, x7, x8, some (.int u), x10] (st) cu σ Q = (X z 209 188 [x0, x1, x2, x3, x4, x5, x6, x7, x8, some (.int u), x10] (.int u :: st) cu σ Q) := by
  rw [x209_186]
  rfl
theorem v209_188 {z : P0} {st : List Value} {cu : Nat × Nat} {Q : Res → Mem → Prop} {σ : Mem} {x0 x1 x2 x3 x5 x6 x7 x8 x9 x10 : Option Value} {u : Nat} : X z 209 188 [x0, x1, x2, x3, some (.ref u), x5, x6, x7, x8, x9, x10] (st) cu σ Q = (X z 209 190 [x0, x1, x2, x3, some (.ref u), x5, x6, x7, x8, x9, x10] (.ref u :: st) cu σ Q) := by
  rw [x209_188]
  rfl
theorem v209_190 {z : P0} {st : List Value} {cu : Nat × Nat} {Q : Res → Mem → Prop} {σ : Mem} {x0 x1 x2 x3 x4 x5 x6 x7 x8 x10 : Option Value} {u : Int32} : X z 209 190 [x0, x1, x2, x3, x4, x5, x6, x7, x8, some (.int u), x10] (st) cu σ Q = (X z 209 192 [x0, x1, x2, x3, x4, x5, x6, x7, x8, some (.int u), x10] (.int u :: st) cu σ Q) := by
  rw [x209_190]
  rfl
theorem v209_192 {z : P0} {st : List Value} {cu : Nat × Nat} {Q : Res → Mem → Prop} {K : Nat → Nat × Nat} {I : Nat → Nat → Int32} {R : Nat → Nat → Option Nat} {L : Nat → Nat → Int64} {sz : Nat} {ex : Bool} {x0 x1 x2 x3 x4 x5 x6 x7 x8 x9 x10 : Option Value} {u : Nat} {v : Int32} : X z 209 192 [x0, x1, x2, x3, x4, x5, x6, x7, x8, x9, x10] (.int v :: .ref u :: st) cu (K, I, R, L, sz, ex) Q = (((K u).1 = 20 ∨ (K u).1 = 50) ∧ vp_in v (K u).2 ∧ X z 209 193 [x0, x1, x2, x3, x4, x5, x6, x7, x8, x9, x10] (.int (I u v.toNatClampNeg) :: st) cu (K, I, R, L, sz, ex) Q) := by
  rw [x209_192]
  rfl
theorem v209_193 {z : P0} {st : List Value} {cu : Nat × Nat} {Q : Res → Mem → Prop} {σ : Mem} {x0 x1 x2 x3 x4 x5 x6 x7 x8 x9 : Option Value} {u : Int32} : X z 209 193 [x0, x1, x2, x3, x4, x5, x6, x7, x8, x9, some (.int u)] (st) cu σ Q = (X z 209 195 [x0, x1, x2, x3, x4, x5, x6, x7, x8, x9, some (.int u)] (.int u :: st) cu σ Q) := by
  rw [x209_193]
  rfl
theorem u209_195 {z : P0} {ls : Lcs} {st : List Value} {K : Nat → Nat × Nat} {I : Nat → Nat → Int32} {R : Nat → Nat → Option Nat} {L : Nat → Nat → Int64} {sz : Nat} {ex : Bool} {Q : Res → Mem → Prop} {a0 : Int32} {a1 : Int32} {a2 : Int32} {a3 : Int32} : X z 209 195 ls (.int a3 :: .int a2 :: .int a1 :: .int a0 :: st) (0, 0) (K, I, R, L, sz, ex) Q = (wsum st ≤ 8 ∧ X z 194 0 [some (.int a0), some (.int a1), some (.int a2), some (.int a3)] [] (0, 0) (K, I, R, L, sz, ex) (aftr (X z) mT 209 195 ls st (0, 0) Q)) := v209_195 (c := 0) (n := 0)
theorem u209_198 {z : P0} {ls : Lcs} {st : List Value} {K : Nat → Nat × Nat} {I : Nat → Nat → Int32} {R : Nat → Nat → Option Nat} {L : Nat → Nat → Int64} {sz : Nat} {ex : Bool} {Q : Res → Mem → Prop} {a0 : Nat} {a1 : Int32} : X z 209 198 ls (.int a1 :: .ref a0 :: st) (0, 0) (K, I, R, L, sz, ex) Q = (wsum st ≤ 8 ∧ X z 202 0 [some (.ref a0), some (.int a1)] [] (0, 0) (K, I, R, L, sz, ex) (aftr (X z) mT 209 198 ls st (0, 0) Q)) := v209_198 (c := 0) (n := 0)
theorem v209_201 {z : P0} {st : List Value} {cu : Nat × Nat} {Q : Res → Mem → Prop} {σ : Mem} {x0 x1 x2 x3 x4 x5 x6 x7 x8 x9 : Option Value} {u : Int32} : X z 209 201 [x0, x1, x2, x3, x4, x5, x6, x7, x8, x9, some (.int u)] (st) cu σ Q = (cat2 x9 = false ∧ X z 209 204 [x0, x1, x2, x3, x4, x5, x6, x7, x8, x9, some (.int (u + nI 1))] (st) cu σ Q) := by
  rw [x209_201]
  obtain ⟨K, I, R, L, sz, ex⟩ := σ
  exact i_iinc.trans (gl_10.trans (ldI_i.trans sl_10))
theorem v209_204 {z : P0} {st : List Value} {cu : Nat × Nat} {Q : Res → Mem → Prop} {σ : Mem} {x0 x1 x2 x3 x4 x5 x6 x7 x8 x9 x10 : Option Value} : X z 209 204 [x0, x1, x2, x3, x4, x5, x6, x7, x8, x9, x10] (st) cu σ Q = (X z 209 174 [x0, x1, x2, x3, x4, x5, x6, x7, x8, x9, x10] (st) cu σ Q) := by
  rw [x209_204]
  rfl
theorem v209_207 {z : P0} {st : List Value} {cu : Nat × Nat} {Q : Res → Mem → Prop} {σ : Mem} {x0 x1 x2 x3 x4 x5 x6 x7 x8 x10 : Option Value} {u : Int32} : X z 209 207 [x0, x1, x2, x3, x4, x5, x6, x7, x8, some (.int u), x10] (st) cu σ Q = (cat2 x8 = false ∧ X z 209 210 [x0, x1, x2, x3, x4, x5, x6, x7, x8, some (.int (u + nI 1)), x10] (st) cu σ Q) := by
  rw [x209_207]
  obtain ⟨K, I, R, L, sz, ex⟩ := σ
  exact i_iinc.trans (gl_9.trans (ldI_i.trans sl_9))
theorem v209_210 {z : P0} {st : List Value} {cu : Nat × Nat} {Q : Res → Mem → Prop} {σ : Mem} {x0 x1 x2 x3 x4 x5 x6 x7 x8 x9 x10 : Option Value} : X z 209 210 [x0, x1, x2, x3, x4, x5, x6, x7, x8, x9, x10] (st) cu σ Q = (X z 209 73 [x0, x1, x2, x3, x4, x5, x6, x7, x8, x9, x10] (st) cu σ Q) := by
  rw [x209_210]
  rfl
theorem v209_213 {z : P0} {cu : Nat × Nat} {Q : Res → Mem → Prop} {σ : Mem} {x0 x1 x2 x3 x4 x5 x6 x7 x8 x9 x10 : Option Value} : X z 209 213 [x0, x1, x2, x3, x4, x5, x6, x7, x8, x9, x10] ([]) cu σ Q = (Q (.inl none) σ) := by
  rw [x209_213]
  rfl
theorem v210_0 {z : P0} {st : List Value} {cu : Nat × Nat} {Q : Res → Mem → Prop} {σ : Mem} {x0 x1 x2 x3 x4 : Option Value} : X z 210 0 [x0, x1, x2, x3, x4] (st) cu σ Q = (X z 210 1 [x0, x1, x2, x3, x4] (.int (nI 0) :: st) cu σ Q) := by
  rw [x210_0]
  rfl
theorem v210_1 {z : P0} {st : List Value} {cu : Nat × Nat} {Q : Res → Mem → Prop} {σ : Mem} {x0 x1 x2 x3 x4 : Option Value} {u : Int32} : X z 210 1 [x0, x1, x2, x3, x4] (.int u :: st) cu σ Q = (cat2 x2 = false ∧ X z 210 2 [x0, x1, x2, some (.int u), x4] (st) cu σ Q) := by
  rw [x210_1]
  obtain ⟨K, I, R, L, sz, ex⟩ := σ
  exact i_istore_n.trans sl_3
theorem v210_2 {z : P0} {st : List Value} {cu : Nat × Nat} {Q : Res → Mem → Prop} {σ : Mem} {x0 x1 x2 x3 x4 : Option Value} : X z 210 2 [x0, x1, x2, x3, x4] (st) cu σ Q = (X z 210 3 [x0, x1, x2, x3, x4] (.int (nI 0) :: st) cu σ Q) := by
  rw [x210_2]
  rfl
theorem v210_3 {z : P0} {st : List Value} {cu : Nat × Nat} {Q : Res → Mem → Prop} {σ : Mem} {x0 x1 x2 x3 x4 : Option Value} {u : Int32} : X z 210 3 [x0, x1, x2, x3, x4] (.int u :: st) cu σ Q = (cat2 x3 = false ∧ X z 210 5 [x0, x1, x2, x3, some (.int u)] (st) cu σ Q) := by
  rw [x210_3]
  obtain ⟨K, I, R, L, sz, ex⟩ := σ
  exact i_istore.trans sl_4
theorem v210_5 {z : P0} {st : List Value} {cu : Nat × Nat} {Q : Res → Mem → Prop} {σ : Mem} {x0 x1 x2 x3 : Option Value} {u : Int32} : X z 210 5 [x0, x1, x2, x3, some (.int u)] (st) cu σ Q = (X z 210 7 [x0, x1, x2, x3, some (.int u)] (.int u :: st) cu σ Q) := by
  rw [x210_5]
  rfl
theorem v210_7 {z : P0} {st : List Value} {cu : Nat × Nat} {Q : Res → Mem → Prop} {σ : Mem} {x0 x1 x2 x3 x4 : Option Value} : X z 210 7 [x0, x1, x2, x3, x4] (st) cu σ Q = (X z 210 9 [x0, x1, x2, x3, x4] (.int (nI 20) :: st) cu σ Q) := by
  rw [x210_7]
  rfl
theorem v210_9 {z : P0} {st : List Value} {cu : Nat × Nat} {Q : Res → Mem → Prop} {σ : Mem} {x0 x1 x2 x3 x4 : Option Value} {u v : Int32} : X z 210 9 [x0, x1, x2, x3, x4] (.int v :: .int u :: st) cu σ Q = (if u < v then X z 210 12 [x0, x1, x2, x3, x4] (st) cu σ Q else X z 210 37 [x0, x1, x2, x3, x4] (st) cu σ Q) := by
  rw [x210_9]
  obtain ⟨K, I, R, L, sz, ex⟩ := σ
  exact br_ge
theorem v210_12 {z : P0} {st : List Value} {cu : Nat × Nat} {Q : Res → Mem → Prop} {σ : Mem} {x0 x2 x3 x4 : Option Value} {u : Int32} : X z 210 12 [x0, some (.int u), x2, x3, x4] (st) cu σ Q = (X z 210 13 [x0, some (.int u), x2, x3, x4] (.int u :: st) cu σ Q) := by
  rw [x210_12]
  rfl
theorem v210_13 {z : P0} {st : List Value} {cu : Nat × Nat} {Q : Res → Mem → Prop} {σ : Mem} {x0 x1 x2 x3 : Option Value} {u : Int32} : X z 210 13 [x0, x1, x2, x3, some (.int u)] (st) cu σ Q = (X z 210 15 [x0, x1, x2, x3, some (.int u)] (.int u :: st) cu σ Q) := by
  rw [x210_13]
  rfl
theorem v210_15 {z : P0} {st : List Value} {cu : Nat × Nat} {Q : Res → Mem → Prop} {σ : Mem} {x0 x1 x2 x3 x4 : Option Value} {u v : Int32} : X z 210 15 [x0, x1, x2, x3, x4] (.int v :: .int u :: st) cu σ Q = (X z 210 16 [x0, x1, x2, x3, x4] (.int (u >>> (v &&& 31)) :: st) cu σ Q) := by
  rw [x210_15]
  rfl
theorem v210_16 {z : P0} {st : List Value} {cu : Nat × Nat} {Q : Res → Mem → Prop} {σ : Mem} {x0 x1 x2 x3 x4 : Option Value} : X z 210 16 [x0, x1, x2, x3, x4] (st) cu σ Q = (X z 210 17 [x0, x1, x2, x3, x4] (.int (nI 1) :: st) cu σ Q) := by
  rw [x210_16]
  rfl
theorem v210_17 {z : P0} {st : List Value} {cu : Nat × Nat} {Q : Res → Mem → Prop} {σ : Mem} {x0 x1 x2 x3 x4 : Option Value} {u v : Int32} : X z 210 17 [x0, x1, x2, x3, x4] (.int v :: .int u :: st) cu σ Q = (X z 210 18 [x0, x1, x2, x3, x4] (.int (u &&& v) :: st) cu σ Q) := by
  rw [x210_17]
  rfl
theorem v210_18 {z : P0} {st : List Value} {cu : Nat × Nat} {Q : Res → Mem → Prop} {σ : Mem} {x0 x1 x2 x3 x4 : Option Value} : X z 210 18 [x0, x1, x2, x3, x4] (st) cu σ Q = (X z 210 19 [x0, x1, x2, x3, x4] (.int (nI 1) :: st) cu σ Q) := by
  rw [x210_18]
  rfl
theorem v210_19 {z : P0} {st : List Value} {cu : Nat × Nat} {Q : Res → Mem → Prop} {σ : Mem} {x0 x1 x2 x3 x4 : Option Value} {u v : Int32} : X z 210 19 [x0, x1, x2, x3, x4] (.int v :: .int u :: st) cu σ Q = (if u = v then X z 210 22 [x0, x1, x2, x3, x4] (st) cu σ Q else X z 210 31 [x0, x1, x2, x3, x4] (st) cu σ Q) := by
  rw [x210_19]
  obtain ⟨K, I, R, L, sz, ex⟩ := σ
  exact br_ne
theorem v210_22 {z : P0} {st : List Value} {cu : Nat × Nat} {Q : Res → Mem → Prop} {σ : Mem} {x0 x1 x2 x4 : Option Value} {u : Int32} : X z 210 22 [x0, x1, x2, some (.int u), x4] (st) cu σ Q = (X z 210 23 [x0, x1, x2, some (.int u), x4] (.int u :: st) cu σ Q) := by
  rw [x210_22]
  rfl
theorem v210_23 {z : P0} {st : List Value} {cu : Nat × Nat} {Q : Res → Mem → Prop} {σ : Mem} {x0 x1 x2 x3 x4 : Option Value} : X z 210 23 [x0, x1, x2, x3, x4] (st) cu σ Q = (X z 210 24 [x0, x1, x2, x3, x4] (.int (nI 1) :: st) cu σ Q) := by
  rw [x210_23]
  rfl
theorem v210_24 {z : P0} {st : List Value} {cu : Nat × Nat} {Q : Res → Mem → Prop} {σ : Mem} {x0 x1 x3 x4 : Option Value} {u : Nat} : X z 210 24 [x0, x1, some (.ref u), x3, x4] (st) cu σ Q = (X z 210 25 [x0, x1, some (.ref u), x3, x4] (.ref u :: st) cu σ Q) := by
  rw [x210_24]
  rfl
theorem v210_25 {z : P0} {st : List Value} {cu : Nat × Nat} {Q : Res → Mem → Prop} {σ : Mem} {x0 x1 x2 x3 : Option Value} {u : Int32} : X z 210 25 [x0, x1, x2, x3, some (.int u)] (st) cu σ Q = (X z 210 27 [x0, x1, x2, x3, some (.int u)] (.int u :: st) cu σ Q) := by
  rw [x210_25]
  rfl
theorem v210_27 {z : P0} {st : List Value} {cu : Nat × Nat} {Q : Res → Mem → Prop} {K : Nat → Nat × Nat} {I : Nat → Nat → Int32} {R : Nat → Nat → Option Nat} {L : Nat → Nat → Int64} {sz : Nat} {ex : Bool} {x0 x1 x2 x3 x4 : Option Value} {u : Nat} {v : Int32} : X z 210 27 [x0, x1, x2, x3, x4] (.int v :: .ref u :: st) cu (K, I, R, L, sz, ex) Q = (((K u).1 = 20 ∨ (K u).1 = 50) ∧ vp_in v (K u).2 ∧ X z 210 28 [x0, x1, x2, x3, x4] (.int (I u v.toNatClampNeg) :: st) cu (K, I, R, L, sz, ex) Q) := by
  rw [x210_27]
  rfl
theorem v210_28 {z : P0} {st : List Value} {cu : Nat × Nat} {Q : Res → Mem → Prop} {σ : Mem} {x0 x1 x2 x3 x4 : Option Value} {u v : Int32} : X z 210 28 [x0, x1, x2, x3, x4] (.int v :: .int u :: st) cu σ Q = (X z 210 29 [x0, x1, x2, x3, x4] (.int (u <<< (v &&& 31)) :: st) cu σ Q) := by
  rw [x210_28]
  rfl
theorem v210_29 {z : P0} {st : List Value} {cu : Nat × Nat} {Q : Res → Mem → Prop} {σ : Mem} {x0 x1 x2 x3 x4 : Option Value} {u v : Int32} : X z 210 29 [x0, x1, x2, x3, x4] (.int v :: .int u :: st) cu σ Q = (X z 210 30 [x0, x1, x2, x3, x4] (.int (u ||| v) :: st) cu σ Q) := by
  rw [x210_29]
  rfl
theorem v210_30 {z : P0} {st : List Value} {cu : Nat × Nat} {Q : Res → Mem → Prop} {σ : Mem} {x0 x1 x2 x3 x4 : Option Value} {u : Int32} : X z 210 30 [x0, x1, x2, x3, x4] (.int u :: st) cu σ Q = (cat2 x2 = false ∧ X z 210 31 [x0, x1, x2, some (.int u), x4] (st) cu σ Q) := by
  rw [x210_30]
  obtain ⟨K, I, R, L, sz, ex⟩ := σ
  exact i_istore_n.trans sl_3
theorem v210_31 {z : P0} {st : List Value} {cu : Nat × Nat} {Q : Res → Mem → Prop} {σ : Mem} {x0 x1 x2 x3 : Option Value} {u : Int32} : X z 210 31 [x0, x1, x2, x3, some (.int u)] (st) cu σ Q = (cat2 x3 = false ∧ X z 210 34 [x0, x1, x2, x3, some (.int (u + nI 1))] (st) cu σ Q) := by
  rw [x210_31]
  obtain ⟨K, I, R, L, sz, ex⟩ := σ
  exact i_iinc.trans (gl_4.trans (ldI_i.trans sl_4))
theorem v210_34 {z : P0} {st : List Value} {cu : Nat × Nat} {Q : Res → Mem → Prop} {σ : Mem} {x0 x1 x2 x3 x4 : Option Value} : X z 210 34 [x0, x1, x2, x3, x4] (st) cu σ Q = (X z 210 5 [x0, x1, x2, x3, x4] (st) cu σ Q) := by
  rw [x210_34]
  rfl
theorem v210_37 {z : P0} {st : List Value} {cu : Nat × Nat} {Q : Res → Mem → Prop} {σ : Mem} {x0 x1 x2 x4 : Option Value} {u : Int32} : X z 210 37 [x0, x1, x2, some (.int u), x4] (st) cu σ Q = (X z 210 38 [x0, x1, x2, some (.int u), x4] (.int u :: st) cu σ Q) := by
  rw [x210_37]
  rfl
theorem u210_38 {z : P0} {ls : Lcs} {st : List Value} {K : Nat → Nat × Nat} {I : Nat → Nat → Int32} {R : Nat → Nat → Option Nat} {L : Nat → Nat → Int64} {sz : Nat} {ex : Bool} {Q : Res → Mem → Prop} {a0 : Int32} : X z 210 38 ls (.int a0 :: st) (0, 0) (K, I, R, L, sz, ex) Q = (wsum st ≤ 8 ∧ X z 206 0 [some (.int a0), none, none] [] (0, 0) (K, I, R, L, sz, ex) (aftr (X z) mT 210 38 ls st (0, 0) Q)) := v210_38 (c := 0) (n := 0)
theorem v210_41 {z : P0} {st : List Value} {cu : Nat × Nat} {Q : Res → Mem → Prop} {σ : Mem} {x0 x1 x2 x3 x4 : Option Value} : X z 210 41 [x0, x1, x2, x3, x4] (st) cu σ Q = (X z 210 42 [x0, x1, x2, x3, x4] (.int (nI 1) :: st) cu σ Q) := by
  rw [x210_41]
  rfl
theorem v210_42 {z : P0} {st : List Value} {cu : Nat × Nat} {Q : Res → Mem → Prop} {σ : Mem} {x0 x1 x2 x3 x4 : Option Value} {u v : Int32} : X z 210 42 [x0, x1, x2, x3, x4] (.int v :: .int u :: st) cu σ Q = (if v < u then X z 210 45 [x0, x1, x2, x3, x4] (st) cu σ Q else X z 210 64 [x0, x1, x2, x3, x4] (st) cu σ Q) := by
  rw [x210_42]
  obtain ⟨K, I, R, L, sz, ex⟩ := σ
  exact br_ge
theorem v210_45 {z : P0} {st : List Value} {cu : Nat × Nat} {Q : Res → Mem → Prop} {σ : Mem} {x1 x2 x3 x4 : Option Value} {u : Nat} : X z 210 45 [some (.ref u), x1, x2, x3, x4] (st) cu σ Q = (X z 210 46 [some (.ref u), x1, x2, x3, x4] (.ref u :: st) cu σ Q) := by
  rw [x210_45]
  rfl
theorem v210_46 {z : P0} {st : List Value} {cu : Nat × Nat} {Q : Res → Mem → Prop} {σ : Mem} {x0 x1 x2 x3 x4 : Option Value} : X z 210 46 [x0, x1, x2, x3, x4] (st) cu σ Q = (X z 210 48 [x0, x1, x2, x3, x4] (.int (nI 97) :: st) cu σ Q) := by
  rw [x210_46]
  rfl
theorem u210_48 {z : P0} {ls : Lcs} {st : List Value} {K : Nat → Nat × Nat} {I : Nat → Nat → Int32} {R : Nat → Nat → Option Nat} {L : Nat → Nat → Int64} {sz : Nat} {ex : Bool} {Q : Res → Mem → Prop} {a0 : Nat} {a1 : Int32} : X z 210 48 ls (.int a1 :: .ref a0 :: st) (0, 0) (K, I, R, L, sz, ex) Q = (wsum st ≤ 8 ∧ X z 202 0 [some (.ref a0), some (.int a1)] [] (0, 0) (K, I, R, L, sz, ex) (aftr (X z) mT 210 48 ls st (0, 0) Q)) := v210_48 (c := 0) (n := 0)
theorem v210_51 {z : P0} {st : List Value} {cu : Nat × Nat} {Q : Res → Mem → Prop} {σ : Mem} {x1 x2 x3 x4 : Option Value} {u : Nat} : X z 210 51 [some (.ref u), x1, x2, x3, x4] (st) cu σ Q = (X z 210 52 [some (.ref u), x1, x2, x3, x4] (.ref u :: st) cu σ Q) := by
  rw [x210_51]
  rfl
theorem v210_52 {z : P0} {st : List Value} {cu : Nat × Nat} {Q : Res → Mem → Prop} {σ : Mem} {x0 x1 x2 x3 x4 : Option Value} : X z 210 52 [x0, x1, x2, x3, x4] (st) cu σ Q = (X z 210 54 [x0, x1, x2, x3, x4] (.int (nI 108) :: st) cu σ Q) := by
  rw [x210_52]
  rfl
theorem u210_54 {z : P0} {ls : Lcs} {st : List Value} {K : Nat → Nat × Nat} {I : Nat → Nat → Int32} {R : Nat → Nat → Option Nat} {L : Nat → Nat → Int64} {sz : Nat} {ex : Bool} {Q : Res → Mem → Prop} {a0 : Nat} {a1 : Int32} : X z 210 54 ls (.int a1 :: .ref a0 :: st) (0, 0) (K, I, R, L, sz, ex) Q = (wsum st ≤ 8 ∧ X z 202 0 [some (.ref a0), some (.int a1)] [] (0, 0) (K, I, R, L, sz, ex) (aftr (X z) mT 210 54 ls st (0, 0) Q)) := v210_54 (c := 0) (n := 0)
theorem v210_57 {z : P0} {st : List Value} {cu : Nat × Nat} {Q : Res → Mem → Prop} {σ : Mem} {x1 x2 x3 x4 : Option Value} {u : Nat} : X z 210 57 [some (.ref u), x1, x2, x3, x4] (st) cu σ Q = (X z 210 58 [some (.ref u), x1, x2, x3, x4] (.ref u :: st) cu σ Q) := by
  rw [x210_57]
  rfl
theorem v210_58 {z : P0} {st : List Value} {cu : Nat × Nat} {Q : Res → Mem → Prop} {σ : Mem} {x0 x1 x2 x3 x4 : Option Value} : X z 210 58 [x0, x1, x2, x3, x4] (st) cu σ Q = (X z 210 60 [x0, x1, x2, x3, x4] (.int (nI 108) :: st) cu σ Q) := by
  rw [x210_58]
  rfl
theorem u210_60 {z : P0} {ls : Lcs} {st : List Value} {K : Nat → Nat × Nat} {I : Nat → Nat → Int32} {R : Nat → Nat → Option Nat} {L : Nat → Nat → Int64} {sz : Nat} {ex : Bool} {Q : Res → Mem → Prop} {a0 : Nat} {a1 : Int32} : X z 210 60 ls (.int a1 :: .ref a0 :: st) (0, 0) (K, I, R, L, sz, ex) Q = (wsum st ≤ 8 ∧ X z 202 0 [some (.ref a0), some (.int a1)] [] (0, 0) (K, I, R, L, sz, ex) (aftr (X z) mT 210 60 ls st (0, 0) Q)) := v210_60 (c := 0) (n := 0)
theorem v210_63 {z : P0} {cu : Nat × Nat} {Q : Res → Mem → Prop} {σ : Mem} {x0 x1 x2 x3 x4 : Option Value} : X z 210 63 [x0, x1, x2, x3, x4] ([]) cu σ Q = (Q (.inl none) σ) := by
  rw [x210_63]
  rfl
theorem v210_64 {z : P0} {st : List Value} {cu : Nat × Nat} {Q : Res → Mem → Prop} {σ : Mem} {x1 x2 x3 x4 : Option Value} {u : Nat} : X z 210 64 [some (.ref u), x1, x2, x3, x4] (st) cu σ Q = (X z 210 65 [some (.ref u), x1, x2, x3, x4] (.ref u :: st) cu σ Q) := by
  rw [x210_64]
  rfl
theorem v210_65 {z : P0} {st : List Value} {cu : Nat × Nat} {Q : Res → Mem → Prop} {σ : Mem} {x0 x1 x2 x4 : Option Value} {u : Int32} : X z 210 65 [x0, x1, x2, some (.int u), x4] (st) cu σ Q = (X z 210 66 [x0, x1, x2, some (.int u), x4] (.int u :: st) cu σ Q) := by
  rw [x210_65]
  rfl
theorem v210_66 {z : P0} {st : List Value} {cu : Nat × Nat} {Q : Res → Mem → Prop} {σ : Mem} {x0 x1 x2 x3 x4 : Option Value} : X z 210 66 [x0, x1, x2, x3, x4] (st) cu σ Q = (X z 210 67 [x0, x1, x2, x3, x4] (.int (nI 1) :: st) cu σ Q) := by
  rw [x210_66]
  rfl
theorem v210_67 {z : P0} {st : List Value} {cu : Nat × Nat} {Q : Res → Mem → Prop} {σ : Mem} {x0 x1 x2 x3 x4 : Option Value} {u v : Int32} : X z 210 67 [x0, x1, x2, x3, x4] (.int v :: .int u :: st) cu σ Q = (if u = v then X z 210 70 [x0, x1, x2, x3, x4] (st) cu σ Q else X z 210 75 [x0, x1, x2, x3, x4] (st) cu σ Q) := by
  rw [x210_67]
  obtain ⟨K, I, R, L, sz, ex⟩ := σ
  exact br_ne
theorem v210_70 {z : P0} {st : List Value} {cu : Nat × Nat} {Q : Res → Mem → Prop} {σ : Mem} {x0 x1 x2 x3 x4 : Option Value} : X z 210 70 [x0, x1, x2, x3, x4] (st) cu σ Q = (X z 210 72 [x0, x1, x2, x3, x4] (.int (nI 102) :: st) cu σ Q) := by
  rw [x210_70]
  rfl
theorem v210_72 {z : P0} {st : List Value} {cu : Nat × Nat} {Q : Res → Mem → Prop} {σ : Mem} {x0 x1 x2 x3 x4 : Option Value} : X z 210 72 [x0, x1, x2, x3, x4] (st) cu σ Q = (X z 210 87 [x0, x1, x2, x3, x4] (st) cu σ Q) := by
  rw [x210_72]
  rfl
theorem v210_75 {z : P0} {st : List Value} {cu : Nat × Nat} {Q : Res → Mem → Prop} {σ : Mem} {x0 x1 x2 x4 : Option Value} {u : Int32} : X z 210 75 [x0, x1, x2, some (.int u), x4] (st) cu σ Q = (X z 210 76 [x0, x1, x2, some (.int u), x4] (.int u :: st) cu σ Q) := by
  rw [x210_75]
  rfl
theorem v210_76 {z : P0} {st : List Value} {cu : Nat × Nat} {Q : Res → Mem → Prop} {σ : Mem} {x0 x1 x2 x3 x4 : Option Value} : X z 210 76 [x0, x1, x2, x3, x4] (st) cu σ Q = (X z 210 77 [x0, x1, x2, x3, x4] (.int (nI 2) :: st) cu σ Q) := by
  rw [x210_76]
  rfl
theorem v210_77 {z : P0} {st : List Value} {cu : Nat × Nat} {Q : Res → Mem → Prop} {σ : Mem} {x0 x1 x2 x3 x4 : Option Value} {u v : Int32} : X z 210 77 [x0, x1, x2, x3, x4] (.int v :: .int u :: st) cu σ Q = (if u = v then X z 210 80 [x0, x1, x2, x3, x4] (st) cu σ Q else X z 210 85 [x0, x1, x2, x3, x4] (st) cu σ Q) := by
  rw [x210_77]
  obtain ⟨K, I, R, L, sz, ex⟩ := σ
  exact br_ne
theorem v210_80 {z : P0} {st : List Value} {cu : Nat × Nat} {Q : Res → Mem → Prop} {σ : Mem} {x0 x1 x2 x3 x4 : Option Value} : X z 210 80 [x0, x1, x2, x3, x4] (st) cu σ Q = (X z 210 82 [x0, x1, x2, x3, x4] (.int (nI 109) :: st) cu σ Q) := by
  rw [x210_80]
  rfl
theorem v210_82 {z : P0} {st : List Value} {cu : Nat × Nat} {Q : Res → Mem → Prop} {σ : Mem} {x0 x1 x2 x3 x4 : Option Value} : X z 210 82 [x0, x1, x2, x3, x4] (st) cu σ Q = (X z 210 87 [x0, x1, x2, x3, x4] (st) cu σ Q) := by
  rw [x210_82]
  rfl
theorem v210_85 {z : P0} {st : List Value} {cu : Nat × Nat} {Q : Res → Mem → Prop} {σ : Mem} {x0 x1 x2 x3 x4 : Option Value} : X z 210 85 [x0, x1, x2, x3, x4] (st) cu σ Q = (X z 210 87 [x0, x1, x2, x3, x4] (.int (nI 120) :: st) cu σ Q) := by
  rw [x210_85]
  rfl
theorem u210_87 {z : P0} {ls : Lcs} {st : List Value} {K : Nat → Nat × Nat} {I : Nat → Nat → Int32} {R : Nat → Nat → Option Nat} {L : Nat → Nat → Int64} {sz : Nat} {ex : Bool} {Q : Res → Mem → Prop} {a0 : Nat} {a1 : Int32} : X z 210 87 ls (.int a1 :: .ref a0 :: st) (0, 0) (K, I, R, L, sz, ex) Q = (wsum st ≤ 8 ∧ X z 202 0 [some (.ref a0), some (.int a1)] [] (0, 0) (K, I, R, L, sz, ex) (aftr (X z) mT 210 87 ls st (0, 0) Q)) := v210_87 (c := 0) (n := 0)
theorem v210_90 {z : P0} {st : List Value} {cu : Nat × Nat} {Q : Res → Mem → Prop} {σ : Mem} {x0 x2 x3 x4 : Option Value} {u : Int32} : X z 210 90 [x0, some (.int u), x2, x3, x4] (st) cu σ Q = (X z 210 91 [x0, some (.int u), x2, x3, x4] (.int u :: st) cu σ Q) := by
  rw [x210_90]
  rfl
theorem u210_91 {z : P0} {ls : Lcs} {st : List Value} {K : Nat → Nat × Nat} {I : Nat → Nat → Int32} {R : Nat → Nat → Option Nat} {L : Nat → Nat → Int64} {sz : Nat} {ex : Bool} {Q : Res → Mem → Prop} {a0 : Int32} : X z 210 91 ls (.int a0 :: st) (0, 0) (K, I, R, L, sz, ex) Q = (wsum st ≤ 8 ∧ X z 206 0 [some (.int a0), none, none] [] (0, 0) (K, I, R, L, sz, ex) (aftr (X z) mT 210 91 ls st (0, 0) Q)) := v210_91 (c := 0) (n := 0)
theorem v210_94 {z : P0} {st : List Value} {cu : Nat × Nat} {Q : Res → Mem → Prop} {σ : Mem} {x0 x1 x2 x3 x4 : Option Value} : X z 210 94 [x0, x1, x2, x3, x4] (st) cu σ Q = (X z 210 95 [x0, x1, x2, x3, x4] (.int (nI 1) :: st) cu σ Q) := by
  rw [x210_94]
  rfl
theorem v210_95 {z : P0} {st : List Value} {cu : Nat × Nat} {Q : Res → Mem → Prop} {σ : Mem} {x0 x1 x2 x3 x4 : Option Value} {u v : Int32} : X z 210 95 [x0, x1, x2, x3, x4] (.int v :: .int u :: st) cu σ Q = (if v < u then X z 210 98 [x0, x1, x2, x3, x4] (st) cu σ Q else X z 210 104 [x0, x1, x2, x3, x4] (st) cu σ Q) := by
  rw [x210_95]
  obtain ⟨K, I, R, L, sz, ex⟩ := σ
  exact br_ge
theorem v210_98 {z : P0} {st : List Value} {cu : Nat × Nat} {Q : Res → Mem → Prop} {σ : Mem} {x1 x2 x3 x4 : Option Value} {u : Nat} : X z 210 98 [some (.ref u), x1, x2, x3, x4] (st) cu σ Q = (X z 210 99 [some (.ref u), x1, x2, x3, x4] (.ref u :: st) cu σ Q) := by
  rw [x210_98]
  rfl
theorem v210_99 {z : P0} {st : List Value} {cu : Nat × Nat} {Q : Res → Mem → Prop} {σ : Mem} {x0 x1 x2 x3 x4 : Option Value} : X z 210 99 [x0, x1, x2, x3, x4] (st) cu σ Q = (X z 210 101 [x0, x1, x2, x3, x4] (.int (nI 115) :: st) cu σ Q) := by
  rw [x210_99]
  rfl
theorem u210_101 {z : P0} {ls : Lcs} {st : List Value} {K : Nat → Nat × Nat} {I : Nat → Nat → Int32} {R : Nat → Nat → Option Nat} {L : Nat → Nat → Int64} {sz : Nat} {ex : Bool} {Q : Res → Mem → Prop} {a0 : Nat} {a1 : Int32} : X z 210 101 ls (.int a1 :: .ref a0 :: st) (0, 0) (K, I, R, L, sz, ex) Q = (wsum st ≤ 8 ∧ X z 202 0 [some (.ref a0), some (.int a1)] [] (0, 0) (K, I, R, L, sz, ex) (aftr (X z) mT 210 101 ls st (0, 0) Q)) := v210_101 (c := 0) (n := 0)
theorem v210_104 {z : P0} {cu : Nat × Nat} {Q : Res → Mem → Prop} {σ : Mem} {x0 x1 x2 x3 x4 : Option Value} : X z 210 104 [x0, x1, x2, x3, x4] ([]) cu σ Q = (Q (.inl none) σ) := by
  rw [x210_104]
  rfl
theorem v211_0 {z : P0} {st : List Value} {cu : Nat × Nat} {Q : Res → Mem → Prop} {σ : Mem} {x1 x2 x3 x4 x5 x6 x7 x8 x9 : Option Value} {u : Nat} : X z 211 0 [some (.ref u), x1, x2, x3, x4, x5, x6, x7, x8, x9] (st) cu σ Q = (X z 211 1 [some (.ref u), x1, x2, x3, x4, x5, x6, x7, x8, x9] (.ref u :: st) cu σ Q) := by
  rw [x211_0]
  rfl
theorem v211_1 {z : P0} {st : List Value} {cu : Nat × Nat} {Q : Res → Mem → Prop} {σ : Mem} {x0 x2 x3 x4 x5 x6 x7 x8 x9 : Option Value} {u : Nat} : X z 211 1 [x0, some (.ref u), x2, x3, x4, x5, x6, x7, x8, x9] (st) cu σ Q = (X z 211 2 [x0, some (.ref u), x2, x3, x4, x5, x6, x7, x8, x9] (.ref u :: st) cu σ Q) := by
  rw [x211_1]
  rfl
theorem v211_2 {z : P0} {st : List Value} {cu : Nat × Nat} {Q : Res → Mem → Prop} {σ : Mem} {x0 x1 x2 x3 x4 x5 x6 x7 x8 x9 : Option Value} : X z 211 2 [x0, x1, x2, x3, x4, x5, x6, x7, x8, x9] (st) cu σ Q = (X z 211 4 [x0, x1, x2, x3, x4, x5, x6, x7, x8, x9] (.int (nI 8) :: st) cu σ Q) := by
  rw [x211_2]
  rfl
theorem v211_4 {z : P0} {st : List Value} {cu : Nat × Nat} {Q : Res → Mem → Prop} {K : Nat → Nat × Nat} {I : Nat → Nat → Int32} {R : Nat → Nat → Option Nat} {L : Nat → Nat → Int64} {sz : Nat} {ex : Bool} {x0 x1 x2 x3 x4 x5 x6 x7 x8 x9 : Option Value} {u : Nat} {v : Int32} : X z 211 4 [x0, x1, x2, x3, x4, x5, x6, x7, x8, x9] (.int v :: .ref u :: st) cu (K, I, R, L, sz, ex) Q = (((K u).1 = 20 ∨ (K u).1 = 50) ∧ vp_in v (K u).2 ∧ X z 211 5 [x0, x1, x2, x3, x4, x5, x6, x7, x8, x9] (.int (I u v.toNatClampNeg) :: st) cu (K, I, R, L, sz, ex) Q) := by
  rw [x211_4]
  rfl
theorem v211_5 {z : P0} {st : List Value} {cu : Nat × Nat} {Q : Res → Mem → Prop} {σ : Mem} {x0 x2 x3 x4 x5 x6 x7 x8 x9 : Option Value} {u : Nat} : X z 211 5 [x0, some (.ref u), x2, x3, x4, x5, x6, x7, x8, x9] (st) cu σ Q = (X z 211 6 [x0, some (.ref u), x2, x3, x4, x5, x6, x7, x8, x9] (.ref u :: st) cu σ Q) := by
  rw [x211_5]
  rfl
theorem v211_6 {z : P0} {st : List Value} {cu : Nat × Nat} {Q : Res → Mem → Prop} {σ : Mem} {x0 x1 x2 x3 x4 x5 x6 x7 x8 x9 : Option Value} : X z 211 6 [x0, x1, x2, x3, x4, x5, x6, x7, x8, x9] (st) cu σ Q = (X z 211 8 [x0, x1, x2, x3, x4, x5, x6, x7, x8, x9] (.int (nI 9) :: st) cu σ Q) := by
  rw [x211_6]
  rfl
theorem v211_8 {z : P0} {st : List Value} {cu : Nat × Nat} {Q : Res → Mem → Prop} {K : Nat → Nat × Nat} {I : Nat → Nat → Int32} {R : Nat → Nat → Option Nat} {L : Nat → Nat → Int64} {sz : Nat} {ex : Bool} {x0 x1 x2 x3 x4 x5 x6 x7 x8 x9 : Option Value} {u : Nat} {v : Int32} : X z 211 8 [x0, x1, x2, x3, x4, x5, x6, x7, x8, x9] (.int v :: .ref u :: st) cu (K, I, R, L, sz, ex) Q = (((K u).1 = 20 ∨ (K u).1 = 50) ∧ vp_in v (K u).2 ∧ X z 211 9 [x0, x1, x2, x3, x4, x5, x6, x7, x8, x9] (.int (I u v.toNatClampNeg) :: st) cu (K, I, R, L, sz, ex) Q) := by
  rw [x211_8]
  rfl
theorem u211_9 {z : P0} {ls : Lcs} {st : List Value} {K : Nat → Nat × Nat} {I : Nat → Nat → Int32} {R : Nat → Nat → Option Nat} {L : Nat → Nat → Int64} {sz : Nat} {ex : Bool} {Q : Res → Mem → Prop} {a0 : Nat} {a1 : Int32} {a2 : Int32} : X z 211 9 ls (.int a2 :: .int a1 :: .ref a0 :: st) (0, 0) (K, I, R, L, sz, ex) Q = (wsum st ≤ 8 ∧ X z 198 0 [some (.ref a0), some (.int a1), some (.int a2), none] [] (0, 0) (K, I, R, L, sz, ex) (aftr (X z) mT 211 9 ls st (0, 0) Q)) := v211_9 (c := 0) (n := 0)
theorem v211_12 {z : P0} {st : List Value} {cu : Nat × Nat} {Q : Res → Mem → Prop} {σ : Mem} {x0 x1 x2 x3 x4 x5 x6 x7 x8 x9 : Option Value} : X z 211 12 [x0, x1, x2, x3, x4, x5, x6, x7, x8, x9] (st) cu σ Q = (X z 211 13 [x0, x1, x2, x3, x4, x5, x6, x7, x8, x9] (.int (nI 0) :: st) cu σ Q) := by
  rw [x211_12]
  rfl
theorem v211_13 {z : P0} {st : List Value} {cu : Nat × Nat} {Q : Res → Mem → Prop} {σ : Mem} {x0 x1 x2 x3 x4 x5 x6 x7 x8 x9 : Option Value} {u : Int32} : X z 211 13 [x0, x1, x2, x3, x4, x5, x6, x7, x8, x9] (.int u :: st) cu σ Q = (cat2 x7 = false ∧ X z 211 15 [x0, x1, x2, x3, x4, x5, x6, x7, some (.int u), x9] (st) cu σ Q) := by
  rw [x211_13]
  obtain ⟨K, I, R, L, sz, ex⟩ := σ
  exact i_istore.trans sl_8
theorem v211_15 {z : P0} {st : List Value} {cu : Nat × Nat} {Q : Res → Mem → Prop} {σ : Mem} {x0 x1 x2 x3 x4 x5 x6 x7 x8 x9 : Option Value} : X z 211 15 [x0, x1, x2, x3, x4, x5, x6, x7, x8, x9] (st) cu σ Q = (X z 211 16 [x0, x1, x2, x3, x4, x5, x6, x7, x8, x9] (.int (nI 0) :: st) cu σ Q) := by
  rw [x211_15]
  rfl
theorem v211_16 {z : P0} {st : List Value} {cu : Nat × Nat} {Q : Res → Mem → Prop} {σ : Mem} {x0 x1 x2 x3 x4 x5 x6 x7 x8 x9 : Option Value} {u : Int32} : X z 211 16 [x0, x1, x2, x3, x4, x5, x6, x7, x8, x9] (.int u :: st) cu σ Q = (cat2 x8 = false ∧ X z 211 18 [x0, x1, x2, x3, x4, x5, x6, x7, x8, some (.int u)] (st) cu σ Q) := by
  rw [x211_16]
  obtain ⟨K, I, R, L, sz, ex⟩ := σ
  exact i_istore.trans sl_9
theorem v211_18 {z : P0} {st : List Value} {cu : Nat × Nat} {Q : Res → Mem → Prop} {σ : Mem} {x0 x1 x2 x3 x4 x5 x6 x7 x8 : Option Value} {u : Int32} : X z 211 18 [x0, x1, x2, x3, x4, x5, x6, x7, x8, some (.int u)] (st) cu σ Q = (X z 211 20 [x0, x1, x2, x3, x4, x5, x6, x7, x8, some (.int u)] (.int u :: st) cu σ Q) := by
  rw [x211_18]
  rfl
theorem v211_20 {z : P0} {st : List Value} {cu : Nat × Nat} {Q : Res → Mem → Prop} {σ : Mem} {x0 x2 x3 x4 x5 x6 x7 x8 x9 : Option Value} {u : Nat} : X z 211 20 [x0, some (.ref u), x2, x3, x4, x5, x6, x7, x8, x9] (st) cu σ Q = (X z 211 21 [x0, some (.ref u), x2, x3, x4, x5, x6, x7, x8, x9] (.ref u :: st) cu σ Q) := by
  rw [x211_20]
  rfl
theorem v211_21 {z : P0} {st : List Value} {cu : Nat × Nat} {Q : Res → Mem → Prop} {σ : Mem} {x0 x1 x2 x3 x4 x5 x6 x7 x8 x9 : Option Value} : X z 211 21 [x0, x1, x2, x3, x4, x5, x6, x7, x8, x9] (st) cu σ Q = (X z 211 22 [x0, x1, x2, x3, x4, x5, x6, x7, x8, x9] (.int (nI 2) :: st) cu σ Q) := by
  rw [x211_21]
  rfl
theorem v211_22 {z : P0} {st : List Value} {cu : Nat × Nat} {Q : Res → Mem → Prop} {K : Nat → Nat × Nat} {I : Nat → Nat → Int32} {R : Nat → Nat → Option Nat} {L : Nat → Nat → Int64} {sz : Nat} {ex : Bool} {x0 x1 x2 x3 x4 x5 x6 x7 x8 x9 : Option Value} {u : Nat} {v : Int32} : X z 211 22 [x0, x1, x2, x3, x4, x5, x6, x7, x8, x9] (.int v :: .ref u :: st) cu (K, I, R, L, sz, ex) Q = (((K u).1 = 20 ∨ (K u).1 = 50) ∧ vp_in v (K u).2 ∧ X z 211 23 [x0, x1, x2, x3, x4, x5, x6, x7, x8, x9] (.int (I u v.toNatClampNeg) :: st) cu (K, I, R, L, sz, ex) Q) := by
  rw [x211_22]
  rfl
theorem v211_23 {z : P0} {st : List Value} {cu : Nat × Nat} {Q : Res → Mem → Prop} {σ : Mem} {x0 x1 x2 x3 x4 x5 x6 x7 x8 x9 : Option Value} {u v : Int32} : X z 211 23 [x0, x1, x2, x3, x4, x5, x6, x7, x8, x9] (.int v :: .int u :: st) cu σ Q = (if u < v then X z 211 26 [x0, x1, x2, x3, x4, x5, x6, x7, x8, x9] (st) cu σ Q else X z 211 183 [x0, x1, x2, x3, x4, x5, x6, x7, x8, x9] (st) cu σ Q) := by
  rw [x211_23]
  obtain ⟨K, I, R, L, sz, ex⟩ := σ
  exact br_ge
theorem v211_26 {z : P0} {st : List Value} {cu : Nat × Nat} {Q : Res → Mem → Prop} {σ : Mem} {x0 x1 x2 x4 x5 x6 x7 x8 x9 : Option Value} {u : Nat} : X z 211 26 [x0, x1, x2, some (.ref u), x4, x5, x6, x7, x8, x9] (st) cu σ Q = (X z 211 27 [x0, x1, x2, some (.ref u), x4, x5, x6, x7, x8, x9] (.ref u :: st) cu σ Q) := by
  rw [x211_26]
  rfl
theorem v211_27 {z : P0} {st : List Value} {cu : Nat × Nat} {Q : Res → Mem → Prop} {σ : Mem} {x0 x1 x2 x3 x4 x5 x6 x7 x8 : Option Value} {u : Int32} : X z 211 27 [x0, x1, x2, x3, x4, x5, x6, x7, x8, some (.int u)] (st) cu σ Q = (X z 211 29 [x0, x1, x2, x3, x4, x5, x6, x7, x8, some (.int u)] (.int u :: st) cu σ Q) := by
  rw [x211_27]
  rfl
theorem v211_29 {z : P0} {st : List Value} {cu : Nat × Nat} {Q : Res → Mem → Prop} {K : Nat → Nat × Nat} {I : Nat → Nat → Int32} {R : Nat → Nat → Option Nat} {L : Nat → Nat → Int64} {sz : Nat} {ex : Bool} {x0 x1 x2 x3 x4 x5 x6 x7 x8 x9 : Option Value} {u : Nat} {v : Int32} : X z 211 29 [x0, x1, x2, x3, x4, x5, x6, x7, x8, x9] (.int v :: .ref u :: st) cu (K, I, R, L, sz, ex) Q = (((K u).1 = 20 ∨ (K u).1 = 50) ∧ vp_in v (K u).2 ∧ X z 211 30 [x0, x1, x2, x3, x4, x5, x6, x7, x8, x9] (.int (I u v.toNatClampNeg) :: st) cu (K, I, R, L, sz, ex) Q) := by
  rw [x211_29]
  rfl
theorem v211_30 {z : P0} {st : List Value} {cu : Nat × Nat} {Q : Res → Mem → Prop} {σ : Mem} {x0 x1 x2 x3 x4 x5 x6 x7 x8 x9 : Option Value} : X z 211 30 [x0, x1, x2, x3, x4, x5, x6, x7, x8, x9] (st) cu σ Q = (X z 211 32 [x0, x1, x2, x3, x4, x5, x6, x7, x8, x9] (.int (nI 123) :: st) cu σ Q) := by
  rw [x211_30]
  rfl
theorem v211_32 {z : P0} {st : List Value} {cu : Nat × Nat} {Q : Res → Mem → Prop} {σ : Mem} {x0 x1 x2 x3 x4 x5 x6 x7 x8 x9 : Option Value} {u v : Int32} : X z 211 32 [x0, x1, x2, x3, x4, x5, x6, x7, x8, x9] (.int v :: .int u :: st) cu σ Q = (if u = v then X z 211 44 [x0, x1, x2, x3, x4, x5, x6, x7, x8, x9] (st) cu σ Q else X z 211 35 [x0, x1, x2, x3, x4, x5, x6, x7, x8, x9] (st) cu σ Q) := by
  rw [x211_32]
  obtain ⟨K, I, R, L, sz, ex⟩ := σ
  exact br_ite
theorem v211_35 {z : P0} {st : List Value} {cu : Nat × Nat} {Q : Res → Mem → Prop} {σ : Mem} {x0 x1 x2 x4 x5 x6 x7 x8 x9 : Option Value} {u : Nat} : X z 211 35 [x0, x1, x2, some (.ref u), x4, x5, x6, x7, x8, x9] (st) cu σ Q = (X z 211 36 [x0, x1, x2, some (.ref u), x4, x5, x6, x7, x8, x9] (.ref u :: st) cu σ Q) := by
  rw [x211_35]
  rfl
theorem v211_36 {z : P0} {st : List Value} {cu : Nat × Nat} {Q : Res → Mem → Prop} {σ : Mem} {x0 x1 x2 x3 x4 x5 x6 x7 x8 : Option Value} {u : Int32} : X z 211 36 [x0, x1, x2, x3, x4, x5, x6, x7, x8, some (.int u)] (st) cu σ Q = (X z 211 38 [x0, x1, x2, x3, x4, x5, x6, x7, x8, some (.int u)] (.int u :: st) cu σ Q) := by
  rw [x211_36]
  rfl
theorem v211_38 {z : P0} {st : List Value} {cu : Nat × Nat} {Q : Res → Mem → Prop} {K : Nat → Nat × Nat} {I : Nat → Nat → Int32} {R : Nat → Nat → Option Nat} {L : Nat → Nat → Int64} {sz : Nat} {ex : Bool} {x0 x1 x2 x3 x4 x5 x6 x7 x8 x9 : Option Value} {u : Nat} {v : Int32} : X z 211 38 [x0, x1, x2, x3, x4, x5, x6, x7, x8, x9] (.int v :: .ref u :: st) cu (K, I, R, L, sz, ex) Q = (((K u).1 = 20 ∨ (K u).1 = 50) ∧ vp_in v (K u).2 ∧ X z 211 39 [x0, x1, x2, x3, x4, x5, x6, x7, x8, x9] (.int (I u v.toNatClampNeg) :: st) cu (K, I, R, L, sz, ex) Q) := by
  rw [x211_38]
  rfl
theorem v211_39 {z : P0} {st : List Value} {cu : Nat × Nat} {Q : Res → Mem → Prop} {σ : Mem} {x0 x1 x2 x3 x4 x5 x6 x7 x8 x9 : Option Value} : X z 211 39 [x0, x1, x2, x3, x4, x5, x6, x7, x8, x9] (st) cu σ Q = (X z 211 41 [x0, x1, x2, x3, x4, x5, x6, x7, x8, x9] (.int (nI 125) :: st) cu σ Q) := by
  rw [x211_39]
  rfl
theorem v211_41 {z : P0} {st : List Value} {cu : Nat × Nat} {Q : Res → Mem → Prop} {σ : Mem} {x0 x1 x2 x3 x4 x5 x6 x7 x8 x9 : Option Value} {u v : Int32} : X z 211 41 [x0, x1, x2, x3, x4, x5, x6, x7, x8, x9] (.int v :: .int u :: st) cu σ Q = (if u = v then X z 211 44 [x0, x1, x2, x3, x4, x5, x6, x7, x8, x9] (st) cu σ Q else X z 211 63 [x0, x1, x2, x3, x4, x5, x6, x7, x8, x9] (st) cu σ Q) := by
  rw [x211_41]
  obtain ⟨K, I, R, L, sz, ex⟩ := σ
  exact br_ne
theorem v211_44 {z : P0} {st : List Value} {cu : Nat × Nat} {Q : Res → Mem → Prop} {σ : Mem} {x0 x1 x2 x4 x5 x6 x7 x8 x9 : Option Value} {u : Nat} : X z 211 44 [x0, x1, x2, some (.ref u), x4, x5, x6, x7, x8, x9] (st) cu σ Q = (X z 211 45 [x0, x1, x2, some (.ref u), x4, x5, x6, x7, x8, x9] (.ref u :: st) cu σ Q) := by
  rw [x211_44]
  rfl
theorem v211_45 {z : P0} {st : List Value} {cu : Nat × Nat} {Q : Res → Mem → Prop} {σ : Mem} {x0 x1 x2 x3 x4 x5 x6 x7 x8 : Option Value} {u : Int32} : X z 211 45 [x0, x1, x2, x3, x4, x5, x6, x7, x8, some (.int u)] (st) cu σ Q = (X z 211 47 [x0, x1, x2, x3, x4, x5, x6, x7, x8, some (.int u)] (.int u :: st) cu σ Q) := by
  rw [x211_45]
  rfl
theorem v211_47 {z : P0} {st : List Value} {cu : Nat × Nat} {Q : Res → Mem → Prop} {K : Nat → Nat × Nat} {I : Nat → Nat → Int32} {R : Nat → Nat → Option Nat} {L : Nat → Nat → Int64} {sz : Nat} {ex : Bool} {x0 x1 x2 x3 x4 x5 x6 x7 x8 x9 : Option Value} {u : Nat} {v : Int32} : X z 211 47 [x0, x1, x2, x3, x4, x5, x6, x7, x8, x9] (.int v :: .ref u :: st) cu (K, I, R, L, sz, ex) Q = (((K u).1 = 20 ∨ (K u).1 = 50) ∧ vp_in v (K u).2 ∧ X z 211 48 [x0, x1, x2, x3, x4, x5, x6, x7, x8, x9] (.int (I u v.toNatClampNeg) :: st) cu (K, I, R, L, sz, ex) Q) := by
  rw [x211_47]
  rfl
theorem v211_48 {z : P0} {st : List Value} {cu : Nat × Nat} {Q : Res → Mem → Prop} {σ : Mem} {x0 x1 x2 x3 x4 x5 x6 x7 x8 x9 : Option Value} : X z 211 48 [x0, x1, x2, x3, x4, x5, x6, x7, x8, x9] (st) cu σ Q = (X z 211 50 [x0, x1, x2, x3, x4, x5, x6, x7, x8, x9] (.int (nI 123) :: st) cu σ Q) := by
  rw [x211_48]
  rfl
theorem v211_50 {z : P0} {st : List Value} {cu : Nat × Nat} {Q : Res → Mem → Prop} {σ : Mem} {x0 x1 x2 x3 x4 x5 x6 x7 x8 x9 : Option Value} {u v : Int32} : X z 211 50 [x0, x1, x2, x3, x4, x5, x6, x7, x8, x9] (.int v :: .int u :: st) cu σ Q = (if u = v then X z 211 53 [x0, x1, x2, x3, x4, x5, x6, x7, x8, x9] (st) cu σ Q else X z 211 57 [x0, x1, x2, x3, x4, x5, x6, x7, x8, x9] (st) cu σ Q) := by
  rw [x211_50]
  obtain ⟨K, I, R, L, sz, ex⟩ := σ
  exact br_ne
theorem v211_53 {z : P0} {st : List Value} {cu : Nat × Nat} {Q : Res → Mem → Prop} {σ : Mem} {x0 x1 x2 x3 x4 x5 x6 x7 x8 x9 : Option Value} : X z 211 53 [x0, x1, x2, x3, x4, x5, x6, x7, x8, x9] (st) cu σ Q = (X z 211 54 [x0, x1, x2, x3, x4, x5, x6, x7, x8, x9] (.int (nI 1) :: st) cu σ Q) := by
  rw [x211_53]
  rfl
theorem v211_54 {z : P0} {st : List Value} {cu : Nat × Nat} {Q : Res → Mem → Prop} {σ : Mem} {x0 x1 x2 x3 x4 x5 x6 x7 x8 x9 : Option Value} : X z 211 54 [x0, x1, x2, x3, x4, x5, x6, x7, x8, x9] (st) cu σ Q = (X z 211 58 [x0, x1, x2, x3, x4, x5, x6, x7, x8, x9] (st) cu σ Q) := by
  rw [x211_54]
  rfl
theorem v211_57 {z : P0} {st : List Value} {cu : Nat × Nat} {Q : Res → Mem → Prop} {σ : Mem} {x0 x1 x2 x3 x4 x5 x6 x7 x8 x9 : Option Value} : X z 211 57 [x0, x1, x2, x3, x4, x5, x6, x7, x8, x9] (st) cu σ Q = (X z 211 58 [x0, x1, x2, x3, x4, x5, x6, x7, x8, x9] (.int (nI 0) :: st) cu σ Q) := by
  rw [x211_57]
  rfl
theorem v211_58 {z : P0} {st : List Value} {cu : Nat × Nat} {Q : Res → Mem → Prop} {σ : Mem} {x0 x1 x2 x3 x4 x5 x6 x7 x8 x9 : Option Value} {u : Int32} : X z 211 58 [x0, x1, x2, x3, x4, x5, x6, x7, x8, x9] (.int u :: st) cu σ Q = (cat2 x7 = false ∧ X z 211 60 [x0, x1, x2, x3, x4, x5, x6, x7, some (.int u), x9] (st) cu σ Q) := by
  rw [x211_58]
  obtain ⟨K, I, R, L, sz, ex⟩ := σ
  exact i_istore.trans sl_8
theorem v211_60 {z : P0} {st : List Value} {cu : Nat × Nat} {Q : Res → Mem → Prop} {σ : Mem} {x0 x1 x2 x3 x4 x5 x6 x7 x8 x9 : Option Value} : X z 211 60 [x0, x1, x2, x3, x4, x5, x6, x7, x8, x9] (st) cu σ Q = (X z 211 177 [x0, x1, x2, x3, x4, x5, x6, x7, x8, x9] (st) cu σ Q) := by
  rw [x211_60]
  rfl
theorem v211_63 {z : P0} {st : List Value} {cu : Nat × Nat} {Q : Res → Mem → Prop} {σ : Mem} {x0 x1 x2 x3 x4 x5 x6 x7 x9 : Option Value} {u : Int32} : X z 211 63 [x0, x1, x2, x3, x4, x5, x6, x7, some (.int u), x9] (st) cu σ Q = (X z 211 65 [x0, x1, x2, x3, x4, x5, x6, x7, some (.int u), x9] (.int u :: st) cu σ Q) := by
  rw [x211_63]
  rfl
theorem v211_65 {z : P0} {st : List Value} {cu : Nat × Nat} {Q : Res → Mem → Prop} {σ : Mem} {x0 x1 x2 x3 x4 x5 x6 x7 x8 x9 : Option Value} {u : Int32} : X z 211 65 [x0, x1, x2, x3, x4, x5, x6, x7, x8, x9] (.int u :: st) cu σ Q = (if u = nI 0 then X z 211 79 [x0, x1, x2, x3, x4, x5, x6, x7, x8, x9] (st) cu σ Q else X z 211 68 [x0, x1, x2, x3, x4, x5, x6, x7, x8, x9] (st) cu σ Q) := by
  rw [x211_65]
  rw [nI_0]
  obtain ⟨K, I, R, L, sz, ex⟩ := σ
  exact br_ite
theorem v211_68 {z : P0} {st : List Value} {cu : Nat × Nat} {Q : Res → Mem → Prop} {σ : Mem} {x0 x1 x3 x4 x5 x6 x7 x8 x9 : Option Value} {u : Int32} : X z 211 68 [x0, x1, some (.int u), x3, x4, x5, x6, x7, x8, x9] (st) cu σ Q = (X z 211 69 [x0, x1, some (.int u), x3, x4, x5, x6, x7, x8, x9] (.int u :: st) cu σ Q) := by
  rw [x211_68]
  rfl
theorem u211_69 {z : P0} {ls : Lcs} {st : List Value} {K : Nat → Nat × Nat} {I : Nat → Nat → Int32} {R : Nat → Nat → Option Nat} {L : Nat → Nat → Int64} {sz : Nat} {ex : Bool} {Q : Res → Mem → Prop} {a0 : Int32} : X z 211 69 ls (.int a0 :: st) (0, 0) (K, I, R, L, sz, ex) Q = (wsum st ≤ 8 ∧ X z 206 0 [some (.int a0), none, none] [] (0, 0) (K, I, R, L, sz, ex) (aftr (X z) mT 211 69 ls st (0, 0) Q)) := v211_69 (c := 0) (n := 0)
theorem v211_72 {z : P0} {st : List Value} {cu : Nat × Nat} {Q : Res → Mem → Prop} {σ : Mem} {x0 x1 x2 x3 x4 x5 x6 x7 x8 x9 : Option Value} : X z 211 72 [x0, x1, x2, x3, x4, x5, x6, x7, x8, x9] (st) cu σ Q = (X z 211 73 [x0, x1, x2, x3, x4, x5, x6, x7, x8, x9] (.int (nI 1) :: st) cu σ Q) := by
  rw [x211_72]
  rfl
theorem v211_73 {z : P0} {st : List Value} {cu : Nat × Nat} {Q : Res → Mem → Prop} {σ : Mem} {x0 x1 x2 x3 x4 x5 x6 x7 x8 x9 : Option Value} {u v : Int32} : X z 211 73 [x0, x1, x2, x3, x4, x5, x6, x7, x8, x9] (.int v :: .int u :: st) cu σ Q = (if u = v then X z 211 76 [x0, x1, x2, x3, x4, x5, x6, x7, x8, x9] (st) cu σ Q else X z 211 79 [x0, x1, x2, x3, x4, x5, x6, x7, x8, x9] (st) cu σ Q) := by
  rw [x211_73]
  obtain ⟨K, I, R, L, sz, ex⟩ := σ
  exact br_ne
theorem v211_76 {z : P0} {st : List Value} {cu : Nat × Nat} {Q : Res → Mem → Prop} {σ : Mem} {x0 x1 x2 x3 x4 x5 x6 x7 x8 x9 : Option Value} : X z 211 76 [x0, x1, x2, x3, x4, x5, x6, x7, x8, x9] (st) cu σ Q = (X z 211 177 [x0, x1, x2, x3, x4, x5, x6, x7, x8, x9] (st) cu σ Q) := by
  rw [x211_76]
  rfl
theorem v211_79 {z : P0} {st : List Value} {cu : Nat × Nat} {Q : Res → Mem → Prop} {σ : Mem} {x0 x1 x2 x4 x5 x6 x7 x8 x9 : Option Value} {u : Nat} : X z 211 79 [x0, x1, x2, some (.ref u), x4, x5, x6, x7, x8, x9] (st) cu σ Q = (X z 211 80 [x0, x1, x2, some (.ref u), x4, x5, x6, x7, x8, x9] (.ref u :: st) cu σ Q) := by
  rw [x211_79]
  rfl
theorem v211_80 {z : P0} {st : List Value} {cu : Nat × Nat} {Q : Res → Mem → Prop} {σ : Mem} {x0 x1 x2 x3 x4 x5 x6 x7 x8 : Option Value} {u : Int32} : X z 211 80 [x0, x1, x2, x3, x4, x5, x6, x7, x8, some (.int u)] (st) cu σ Q = (X z 211 82 [x0, x1, x2, x3, x4, x5, x6, x7, x8, some (.int u)] (.int u :: st) cu σ Q) := by
  rw [x211_80]
  rfl
theorem v211_82 {z : P0} {st : List Value} {cu : Nat × Nat} {Q : Res → Mem → Prop} {K : Nat → Nat × Nat} {I : Nat → Nat → Int32} {R : Nat → Nat → Option Nat} {L : Nat → Nat → Int64} {sz : Nat} {ex : Bool} {x0 x1 x2 x3 x4 x5 x6 x7 x8 x9 : Option Value} {u : Nat} {v : Int32} : X z 211 82 [x0, x1, x2, x3, x4, x5, x6, x7, x8, x9] (.int v :: .ref u :: st) cu (K, I, R, L, sz, ex) Q = (((K u).1 = 20 ∨ (K u).1 = 50) ∧ vp_in v (K u).2 ∧ X z 211 83 [x0, x1, x2, x3, x4, x5, x6, x7, x8, x9] (.int (I u v.toNatClampNeg) :: st) cu (K, I, R, L, sz, ex) Q) := by
  rw [x211_82]
  rfl
theorem v211_83 {z : P0} {st : List Value} {cu : Nat × Nat} {Q : Res → Mem → Prop} {σ : Mem} {x0 x1 x2 x3 x4 x5 x6 x7 x8 x9 : Option Value} : X z 211 83 [x0, x1, x2, x3, x4, x5, x6, x7, x8, x9] (st) cu σ Q = (X z 211 86 [x0, x1, x2, x3, x4, x5, x6, x7, x8, x9] (.int (nI 366) :: st) cu σ Q) := by
  rw [x211_83]
  rfl
theorem v211_86 {z : P0} {st : List Value} {cu : Nat × Nat} {Q : Res → Mem → Prop} {σ : Mem} {x0 x1 x2 x3 x4 x5 x6 x7 x8 x9 : Option Value} {u v : Int32} : X z 211 86 [x0, x1, x2, x3, x4, x5, x6, x7, x8, x9] (.int v :: .int u :: st) cu σ Q = (if u = v then X z 211 89 [x0, x1, x2, x3, x4, x5, x6, x7, x8, x9] (st) cu σ Q else X z 211 104 [x0, x1, x2, x3, x4, x5, x6, x7, x8, x9] (st) cu σ Q) := by
  rw [x211_86]
  obtain ⟨K, I, R, L, sz, ex⟩ := σ
  exact br_ne
theorem v211_89 {z : P0} {st : List Value} {cu : Nat × Nat} {Q : Res → Mem → Prop} {σ : Mem} {x1 x2 x3 x4 x5 x6 x7 x8 x9 : Option Value} {u : Nat} : X z 211 89 [some (.ref u), x1, x2, x3, x4, x5, x6, x7, x8, x9] (st) cu σ Q = (X z 211 90 [some (.ref u), x1, x2, x3, x4, x5, x6, x7, x8, x9] (.ref u :: st) cu σ Q) := by
  rw [x211_89]
  rfl
theorem v211_90 {z : P0} {st : List Value} {cu : Nat × Nat} {Q : Res → Mem → Prop} {σ : Mem} {x0 x1 x2 x3 x4 x5 x6 x7 x8 x9 : Option Value} : X z 211 90 [x0, x1, x2, x3, x4, x5, x6, x7, x8, x9] (st) cu σ Q = (X z 211 91 [x0, x1, x2, x3, x4, x5, x6, x7, x8, x9] (.int (nI 0) :: st) cu σ Q) := by
  rw [x211_90]
  rfl
theorem v211_91 {z : P0} {st : List Value} {cu : Nat × Nat} {Q : Res → Mem → Prop} {σ : Mem} {x0 x1 x3 x4 x5 x6 x7 x8 x9 : Option Value} {u : Int32} : X z 211 91 [x0, x1, some (.int u), x3, x4, x5, x6, x7, x8, x9] (st) cu σ Q = (X z 211 92 [x0, x1, some (.int u), x3, x4, x5, x6, x7, x8, x9] (.int u :: st) cu σ Q) := by
  rw [x211_91]
  rfl
theorem v211_92 {z : P0} {st : List Value} {cu : Nat × Nat} {Q : Res → Mem → Prop} {σ : Mem} {x0 x1 x2 x3 x5 x6 x7 x8 x9 : Option Value} {u : Nat} : X z 211 92 [x0, x1, x2, x3, some (.ref u), x5, x6, x7, x8, x9] (st) cu σ Q = (X z 211 94 [x0, x1, x2, x3, some (.ref u), x5, x6, x7, x8, x9] (.ref u :: st) cu σ Q) := by
  rw [x211_92]
  rfl
theorem v211_94 {z : P0} {st : List Value} {cu : Nat × Nat} {Q : Res → Mem → Prop} {σ : Mem} {x0 x1 x2 x3 x4 x5 x7 x8 x9 : Option Value} {u : Nat} : X z 211 94 [x0, x1, x2, x3, x4, x5, some (.ref u), x7, x8, x9] (st) cu σ Q = (X z 211 96 [x0, x1, x2, x3, x4, x5, some (.ref u), x7, x8, x9] (.ref u :: st) cu σ Q) := by
  rw [x211_94]
  rfl
theorem v211_96 {z : P0} {st : List Value} {cu : Nat × Nat} {Q : Res → Mem → Prop} {σ : Mem} {x0 x1 x2 x3 x4 x5 x6 x8 x9 : Option Value} {u : Nat} : X z 211 96 [x0, x1, x2, x3, x4, x5, x6, some (.ref u), x8, x9] (st) cu σ Q = (X z 211 98 [x0, x1, x2, x3, x4, x5, x6, some (.ref u), x8, x9] (.ref u :: st) cu σ Q) := by
  rw [x211_96]
  rfl
theorem u211_98 {z : P0} {ls : Lcs} {st : List Value} {K : Nat → Nat × Nat} {I : Nat → Nat → Int32} {R : Nat → Nat → Option Nat} {L : Nat → Nat → Int64} {sz : Nat} {ex : Bool} {Q : Res → Mem → Prop} {a0 : Nat} {a1 : Int32} {a2 : Int32} {a3 : Nat} {a4 : Nat} {a5 : Nat} : X z 211 98 ls (.ref a5 :: .ref a4 :: .ref a3 :: .int a2 :: .int a1 :: .ref a0 :: st) (0, 0) (K, I, R, L, sz, ex) Q = (wsum st ≤ 8 ∧ X z 209 0 [some (.ref a0), some (.int a1), some (.int a2), some (.ref a3), some (.ref a4), some (.ref a5), none, none, none, none, none] [] (0, 0) (K, I, R, L, sz, ex) (aftr (X z) mT 211 98 ls st (0, 0) Q)) := v211_98 (c := 0) (n := 0)
theorem v211_101 {z : P0} {st : List Value} {cu : Nat × Nat} {Q : Res → Mem → Prop} {σ : Mem} {x0 x1 x2 x3 x4 x5 x6 x7 x8 x9 : Option Value} : X z 211 101 [x0, x1, x2, x3, x4, x5, x6, x7, x8, x9] (st) cu σ Q = (X z 211 177 [x0, x1, x2, x3, x4, x5, x6, x7, x8, x9] (st) cu σ Q) := by
  rw [x211_101]
  rfl
theorem v211_104 {z : P0} {st : List Value} {cu : Nat × Nat} {Q : Res → Mem → Prop} {σ : Mem} {x0 x1 x2 x4 x5 x6 x7 x8 x9 : Option Value} {u : Nat} : X z 211 104 [x0, x1, x2, some (.ref u), x4, x5, x6, x7, x8, x9] (st) cu σ Q = (X z 211 105 [x0, x1, x2, some (.ref u), x4, x5, x6, x7, x8, x9] (.ref u :: st) cu σ Q) := by
  rw [x211_104]
  rfl
theorem v211_105 {z : P0} {st : List Value} {cu : Nat × Nat} {Q : Res → Mem → Prop} {σ : Mem} {x0 x1 x2 x3 x4 x5 x6 x7 x8 : Option Value} {u : Int32} : X z 211 105 [x0, x1, x2, x3, x4, x5, x6, x7, x8, some (.int u)] (st) cu σ Q = (X z 211 107 [x0, x1, x2, x3, x4, x5, x6, x7, x8, some (.int u)] (.int u :: st) cu σ Q) := by
  rw [x211_105]
  rfl
theorem v211_107 {z : P0} {st : List Value} {cu : Nat × Nat} {Q : Res → Mem → Prop} {K : Nat → Nat × Nat} {I : Nat → Nat → Int32} {R : Nat → Nat → Option Nat} {L : Nat → Nat → Int64} {sz : Nat} {ex : Bool} {x0 x1 x2 x3 x4 x5 x6 x7 x8 x9 : Option Value} {u : Nat} {v : Int32} : X z 211 107 [x0, x1, x2, x3, x4, x5, x6, x7, x8, x9] (.int v :: .ref u :: st) cu (K, I, R, L, sz, ex) Q = (((K u).1 = 20 ∨ (K u).1 = 50) ∧ vp_in v (K u).2 ∧ X z 211 108 [x0, x1, x2, x3, x4, x5, x6, x7, x8, x9] (.int (I u v.toNatClampNeg) :: st) cu (K, I, R, L, sz, ex) Q) := by
  rw [x211_107]
  rfl
theorem v211_108 {z : P0} {st : List Value} {cu : Nat × Nat} {Q : Res → Mem → Prop} {σ : Mem} {x0 x1 x2 x3 x4 x5 x6 x7 x8 x9 : Option Value} : X z 211 108 [x0, x1, x2, x3, x4, x5, x6, x7, x8, x9] (st) cu σ Q = (X z 211 111 [x0, x1, x2, x3, x4, x5, x6, x7, x8, x9] (.int (nI 375) :: st) cu σ Q) := by
  rw [x211_108]
  rfl
theorem v211_111 {z : P0} {st : List Value} {cu : Nat × Nat} {Q : Res → Mem → Prop} {σ : Mem} {x0 x1 x2 x3 x4 x5 x6 x7 x8 x9 : Option Value} {u v : Int32} : X z 211 111 [x0, x1, x2, x3, x4, x5, x6, x7, x8, x9] (.int v :: .int u :: st) cu σ Q = (if u = v then X z 211 114 [x0, x1, x2, x3, x4, x5, x6, x7, x8, x9] (st) cu σ Q else X z 211 129 [x0, x1, x2, x3, x4, x5, x6, x7, x8, x9] (st) cu σ Q) := by
  rw [x211_111]
  obtain ⟨K, I, R, L, sz, ex⟩ := σ
  exact br_ne
theorem v211_114 {z : P0} {st : List Value} {cu : Nat × Nat} {Q : Res → Mem → Prop} {σ : Mem} {x1 x2 x3 x4 x5 x6 x7 x8 x9 : Option Value} {u : Nat} : X z 211 114 [some (.ref u), x1, x2, x3, x4, x5, x6, x7, x8, x9] (st) cu σ Q = (X z 211 115 [some (.ref u), x1, x2, x3, x4, x5, x6, x7, x8, x9] (.ref u :: st) cu σ Q) := by
  rw [x211_114]
  rfl
theorem v211_115 {z : P0} {st : List Value} {cu : Nat × Nat} {Q : Res → Mem → Prop} {σ : Mem} {x0 x1 x2 x3 x4 x5 x6 x7 x8 x9 : Option Value} : X z 211 115 [x0, x1, x2, x3, x4, x5, x6, x7, x8, x9] (st) cu σ Q = (X z 211 116 [x0, x1, x2, x3, x4, x5, x6, x7, x8, x9] (.int (nI 1) :: st) cu σ Q) := by
  rw [x211_115]
  rfl
theorem v211_116 {z : P0} {st : List Value} {cu : Nat × Nat} {Q : Res → Mem → Prop} {σ : Mem} {x0 x1 x3 x4 x5 x6 x7 x8 x9 : Option Value} {u : Int32} : X z 211 116 [x0, x1, some (.int u), x3, x4, x5, x6, x7, x8, x9] (st) cu σ Q = (X z 211 117 [x0, x1, some (.int u), x3, x4, x5, x6, x7, x8, x9] (.int u :: st) cu σ Q) := by
  rw [x211_116]
  rfl
theorem v211_117 {z : P0} {st : List Value} {cu : Nat × Nat} {Q : Res → Mem → Prop} {σ : Mem} {x0 x1 x2 x3 x5 x6 x7 x8 x9 : Option Value} {u : Nat} : X z 211 117 [x0, x1, x2, x3, some (.ref u), x5, x6, x7, x8, x9] (st) cu σ Q = (X z 211 119 [x0, x1, x2, x3, some (.ref u), x5, x6, x7, x8, x9] (.ref u :: st) cu σ Q) := by
  rw [x211_117]
  rfl
theorem v211_119 {z : P0} {st : List Value} {cu : Nat × Nat} {Q : Res → Mem → Prop} {σ : Mem} {x0 x1 x2 x3 x4 x5 x7 x8 x9 : Option Value} {u : Nat} : X z 211 119 [x0, x1, x2, x3, x4, x5, some (.ref u), x7, x8, x9] (st) cu σ Q = (X z 211 121 [x0, x1, x2, x3, x4, x5, some (.ref u), x7, x8, x9] (.ref u :: st) cu σ Q) := by
  rw [x211_119]
  rfl
theorem v211_121 {z : P0} {st : List Value} {cu : Nat × Nat} {Q : Res → Mem → Prop} {σ : Mem} {x0 x1 x2 x3 x4 x5 x6 x8 x9 : Option Value} {u : Nat} : X z 211 121 [x0, x1, x2, x3, x4, x5, x6, some (.ref u), x8, x9] (st) cu σ Q = (X z 211 123 [x0, x1, x2, x3, x4, x5, x6, some (.ref u), x8, x9] (.ref u :: st) cu σ Q) := by
  rw [x211_121]
  rfl
theorem u211_123 {z : P0} {ls : Lcs} {st : List Value} {K : Nat → Nat × Nat} {I : Nat → Nat → Int32} {R : Nat → Nat → Option Nat} {L : Nat → Nat → Int64} {sz : Nat} {ex : Bool} {Q : Res → Mem → Prop} {a0 : Nat} {a1 : Int32} {a2 : Int32} {a3 : Nat} {a4 : Nat} {a5 : Nat} : X z 211 123 ls (.ref a5 :: .ref a4 :: .ref a3 :: .int a2 :: .int a1 :: .ref a0 :: st) (0, 0) (K, I, R, L, sz, ex) Q = (wsum st ≤ 8 ∧ X z 209 0 [some (.ref a0), some (.int a1), some (.int a2), some (.ref a3), some (.ref a4), some (.ref a5), none, none, none, none, none] [] (0, 0) (K, I, R, L, sz, ex) (aftr (X z) mT 211 123 ls st (0, 0) Q)) := v211_123 (c := 0) (n := 0)
theorem v211_126 {z : P0} {st : List Value} {cu : Nat × Nat} {Q : Res → Mem → Prop} {σ : Mem} {x0 x1 x2 x3 x4 x5 x6 x7 x8 x9 : Option Value} : X z 211 126 [x0, x1, x2, x3, x4, x5, x6, x7, x8, x9] (st) cu σ Q = (X z 211 177 [x0, x1, x2, x3, x4, x5, x6, x7, x8, x9] (st) cu σ Q) := by
  rw [x211_126]
  rfl
theorem v211_129 {z : P0} {st : List Value} {cu : Nat × Nat} {Q : Res → Mem → Prop} {σ : Mem} {x0 x1 x2 x4 x5 x6 x7 x8 x9 : Option Value} {u : Nat} : X z 211 129 [x0, x1, x2, some (.ref u), x4, x5, x6, x7, x8, x9] (st) cu σ Q = (X z 211 130 [x0, x1, x2, some (.ref u), x4, x5, x6, x7, x8, x9] (.ref u :: st) cu σ Q) := by
  rw [x211_129]
  rfl
theorem v211_130 {z : P0} {st : List Value} {cu : Nat × Nat} {Q : Res → Mem → Prop} {σ : Mem} {x0 x1 x2 x3 x4 x5 x6 x7 x8 : Option Value} {u : Int32} : X z 211 130 [x0, x1, x2, x3, x4, x5, x6, x7, x8, some (.int u)] (st) cu σ Q = (X z 211 132 [x0, x1, x2, x3, x4, x5, x6, x7, x8, some (.int u)] (.int u :: st) cu σ Q) := by
  rw [x211_130]
  rfl
theorem v211_132 {z : P0} {st : List Value} {cu : Nat × Nat} {Q : Res → Mem → Prop} {K : Nat → Nat × Nat} {I : Nat → Nat → Int32} {R : Nat → Nat → Option Nat} {L : Nat → Nat → Int64} {sz : Nat} {ex : Bool} {x0 x1 x2 x3 x4 x5 x6 x7 x8 x9 : Option Value} {u : Nat} {v : Int32} : X z 211 132 [x0, x1, x2, x3, x4, x5, x6, x7, x8, x9] (.int v :: .ref u :: st) cu (K, I, R, L, sz, ex) Q = (((K u).1 = 20 ∨ (K u).1 = 50) ∧ vp_in v (K u).2 ∧ X z 211 133 [x0, x1, x2, x3, x4, x5, x6, x7, x8, x9] (.int (I u v.toNatClampNeg) :: st) cu (K, I, R, L, sz, ex) Q) := by
  rw [x211_132]
  rfl
theorem v211_133 {z : P0} {st : List Value} {cu : Nat × Nat} {Q : Res → Mem → Prop} {σ : Mem} {x0 x1 x2 x3 x4 x5 x6 x7 x8 x9 : Option Value} : X z 211 133 [x0, x1, x2, x3, x4, x5, x6, x7, x8, x9] (st) cu σ Q = (X z 211 136 [x0, x1, x2, x3, x4, x5, x6, x7, x8, x9] (.int (nI 359) :: st) cu σ Q) := by
  rw [x211_133]
  rfl
theorem v211_136 {z : P0} {st : List Value} {cu : Nat × Nat} {Q : Res → Mem → Prop} {σ : Mem} {x0 x1 x2 x3 x4 x5 x6 x7 x8 x9 : Option Value} {u v : Int32} : X z 211 136 [x0, x1, x2, x3, x4, x5, x6, x7, x8, x9] (.int v :: .int u :: st) cu σ Q = (if u = v then X z 211 139 [x0, x1, x2, x3, x4, x5, x6, x7, x8, x9] (st) cu σ Q else X z 211 149 [x0, x1, x2, x3, x4, x5, x6, x7, x8, x9] (st) cu σ Q) := by
  rw [x211_136]
  obtain ⟨K, I, R, L, sz, ex⟩ := σ
  exact br_ne
theorem v211_139 {z : P0} {st : List Value} {cu : Nat × Nat} {Q : Res → Mem → Prop} {σ : Mem} {x1 x2 x3 x4 x5 x6 x7 x8 x9 : Option Value} {u : Nat} : X z 211 139 [some (.ref u), x1, x2, x3, x4, x5, x6, x7, x8, x9] (st) cu σ Q = (X z 211 140 [some (.ref u), x1, x2, x3, x4, x5, x6, x7, x8, x9] (.ref u :: st) cu σ Q) := by
  rw [x211_139]
  rfl
theorem v211_140 {z : P0} {st : List Value} {cu : Nat × Nat} {Q : Res → Mem → Prop} {σ : Mem} {x0 x1 x3 x4 x5 x6 x7 x8 x9 : Option Value} {u : Int32} : X z 211 140 [x0, x1, some (.int u), x3, x4, x5, x6, x7, x8, x9] (st) cu σ Q = (X z 211 141 [x0, x1, some (.int u), x3, x4, x5, x6, x7, x8, x9] (.int u :: st) cu σ Q) := by
  rw [x211_140]
  rfl
theorem v211_141 {z : P0} {st : List Value} {cu : Nat × Nat} {Q : Res → Mem → Prop} {σ : Mem} {x0 x1 x2 x3 x4 x6 x7 x8 x9 : Option Value} {u : Nat} : X z 211 141 [x0, x1, x2, x3, x4, some (.ref u), x6, x7, x8, x9] (st) cu σ Q = (X z 211 143 [x0, x1, x2, x3, x4, some (.ref u), x6, x7, x8, x9] (.ref u :: st) cu σ Q) := by
  rw [x211_141]
  rfl
theorem u211_143 {z : P0} {ls : Lcs} {st : List Value} {K : Nat → Nat × Nat} {I : Nat → Nat → Int32} {R : Nat → Nat → Option Nat} {L : Nat → Nat → Int64} {sz : Nat} {ex : Bool} {Q : Res → Mem → Prop} {a0 : Nat} {a1 : Int32} {a2 : Nat} : X z 211 143 ls (.ref a2 :: .int a1 :: .ref a0 :: st) (0, 0) (K, I, R, L, sz, ex) Q = (wsum st ≤ 8 ∧ X z 210 0 [some (.ref a0), some (.int a1), some (.ref a2), none, none] [] (0, 0) (K, I, R, L, sz, ex) (aftr (X z) mT 211 143 ls st (0, 0) Q)) := v211_143 (c := 0) (n := 0)
theorem v211_146 {z : P0} {st : List Value} {cu : Nat × Nat} {Q : Res → Mem → Prop} {σ : Mem} {x0 x1 x2 x3 x4 x5 x6 x7 x8 x9 : Option Value} : X z 211 146 [x0, x1, x2, x3, x4, x5, x6, x7, x8, x9] (st) cu σ Q = (X z 211 177 [x0, x1, x2, x3, x4, x5, x6, x7, x8, x9] (st) cu σ Q) := by
  rw [x211_146]
  rfl
theorem v211_149 {z : P0} {st : List Value} {cu : Nat × Nat} {Q : Res → Mem → Prop} {σ : Mem} {x1 x2 x3 x4 x5 x6 x7 x8 x9 : Option Value} {u : Nat} : X z 211 149 [some (.ref u), x1, x2, x3, x4, x5, x6, x7, x8, x9] (st) cu σ Q = (X z 211 150 [some (.ref u), x1, x2, x3, x4, x5, x6, x7, x8, x9] (.ref u :: st) cu σ Q) := by
  rw [x211_149]
  rfl
theorem v211_150 {z : P0} {st : List Value} {cu : Nat × Nat} {Q : Res → Mem → Prop} {σ : Mem} {x0 x1 x2 x4 x5 x6 x7 x8 x9 : Option Value} {u : Nat} : X z 211 150 [x0, x1, x2, some (.ref u), x4, x5, x6, x7, x8, x9] (st) cu σ Q = (X z 211 151 [x0, x1, x2, some (.ref u), x4, x5, x6, x7, x8, x9] (.ref u :: st) cu σ Q) := by
  rw [x211_150]
  rfl
theorem v211_151 {z : P0} {st : List Value} {cu : Nat × Nat} {Q : Res → Mem → Prop} {σ : Mem} {x0 x1 x2 x3 x4 x5 x6 x7 x8 : Option Value} {u : Int32} : X z 211 151 [x0, x1, x2, x3, x4, x5, x6, x7, x8, some (.int u)] (st) cu σ Q = (X z 211 153 [x0, x1, x2, x3, x4, x5, x6, x7, x8, some (.int u)] (.int u :: st) cu σ Q) := by
  rw [x211_151]
  rfl
theorem v211_153 {z : P0} {st : List Value} {cu : Nat × Nat} {Q : Res → Mem → Prop} {K : Nat → Nat × Nat} {I : Nat → Nat → Int32} {R : Nat → Nat → Option Nat} {L : Nat → Nat → Int64} {sz : Nat} {ex : Bool} {x0 x1 x2 x3 x4 x5 x6 x7 x8 x9 : Option Value} {u : Nat} {v : Int32} : X z 211 153 [x0, x1, x2, x3, x4, x5, x6, x7, x8, x9] (.int v :: .ref u :: st) cu (K, I, R, L, sz, ex) Q = (((K u).1 = 20 ∨ (K u).1 = 50) ∧ vp_in v (K u).2 ∧ X z 211 154 [x0, x1, x2, x3, x4, x5, x6, x7, x8, x9] (.int (I u v.toNatClampNeg) :: st) cu (K, I, R, L, sz, ex) Q) := by
  rw [x211_153]
  rfl
theorem v211_154 {z : P0} {st : List Value} {cu : Nat × Nat} {Q : Res → Mem → Prop} {σ : Mem} {x0 x1 x2 x3 x4 x5 x6 x7 x8 x9 : Option Value} : X z 211 154 [x0, x1, x2, x3, x4, x5, x6, x7, x8, x9] (st) cu σ Q = (X z 211 157 [x0, x1, x2, x3, x4, x5, x6, x7, x8, x9] (.int (nI 355) :: st) cu σ Q) := by
  rw [x211_154]
  rfl
theorem v211_157 {z : P0} {st : List Value} {cu : Nat × Nat} {Q : Res → Mem → Prop} {σ : Mem} {x0 x1 x2 x3 x4 x5 x6 x7 x8 x9 : Option Value} {u v : Int32} : X z 211 157 [x0, x1, x2, x3, x4, x5, x6, x7, x8, x9] (.int v :: .int u :: st) cu σ Q = (if u = v then X z 211 160 [x0, x1, x2, x3, x4, x5, x6, x7, x8, x9] (st) cu σ Q else X z 211 170 [x0, x1, x2, x3, x4, x5, x6, x7, x8, x9] (st) cu σ Q) := by
  rw [x211_157]
  obtain ⟨K, I, R, L, sz, ex⟩ := σ
  exact br_ne
theorem v211_160 {z : P0} {st : List Value} {cu : Nat × Nat} {Q : Res → Mem → Prop} {σ : Mem} {x0 x1 x2 x3 x4 x5 x6 x7 x8 x9 : Option Value} : X z 211 160 [x0, x1, x2, x3, x4, x5, x6, x7, x8, x9] (st) cu σ Q = (X z 211 162 [x0, x1, x2, x3, x4, x5, x6, x7, x8, x9] (.int (nI 48) :: st) cu σ Q) := by
  rw [x211_160]
  rfl
theorem v211_162 {z : P0} {st : List Value} {cu : Nat × Nat} {Q : Res → Mem → Prop} {σ : Mem} {x0 x1 x3 x4 x5 x6 x7 x8 x9 : Option Value} {u : Int32} : X z 211 162 [x0, x1, some (.int u), x3, x4, x5, x6, x7, x8, x9] (st) cu σ Q = (X z 211 163 [x0, x1, some (.int u), x3, x4, x5, x6, x7, x8, x9] (.int u :: st) cu σ Q) := by
  rw [x211_162]
  rfl
theorem u211_163 {z : P0} {ls : Lcs} {st : List Value} {K : Nat → Nat × Nat} {I : Nat → Nat → Int32} {R : Nat → Nat → Option Nat} {L : Nat → Nat → Int64} {sz : Nat} {ex : Bool} {Q : Res → Mem → Prop} {a0 : Int32} : X z 211 163 ls (.int a0 :: st) (0, 0) (K, I, R, L, sz, ex) Q = (wsum st ≤ 8 ∧ X z 206 0 [some (.int a0), none, none] [] (0, 0) (K, I, R, L, sz, ex) (aftr (X z) mT 211 163 ls st (0, 0) Q)) := v211_163 (c := 0) (n := 0)
theorem v211_166 {z : P0} {st : List Value} {cu : Nat × Nat} {Q : Res → Mem → Prop} {σ : Mem} {x0 x1 x2 x3 x4 x5 x6 x7 x8 x9 : Option Value} {u v : Int32} : X z 211 166 [x0, x1, x2, x3, x4, x5, x6, x7, x8, x9] (.int v :: .int u :: st) cu σ Q = (X z 211 167 [x0, x1, x2, x3, x4, x5, x6, x7, x8, x9] (.int (u + v) :: st) cu σ Q) := by
  rw [x211_166]
  rfl
theorem v211_167 {z : P0} {st : List Value} {cu : Nat × Nat} {Q : Res → Mem → Prop} {σ : Mem} {x0 x1 x2 x3 x4 x5 x6 x7 x8 x9 : Option Value} : X z 211 167 [x0, x1, x2, x3, x4, x5, x6, x7, x8, x9] (st) cu σ Q = (X z 211 174 [x0, x1, x2, x3, x4, x5, x6, x7, x8, x9] (st) cu σ Q) := by
  rw [x211_167]
  rfl
theorem v211_170 {z : P0} {st : List Value} {cu : Nat × Nat} {Q : Res → Mem → Prop} {σ : Mem} {x0 x1 x2 x4 x5 x6 x7 x8 x9 : Option Value} {u : Nat} : X z 211 170 [x0, x1, x2, some (.ref u), x4, x5, x6, x7, x8, x9] (st) cu σ Q = (X z 211 171 [x0, x1, x2, some (.ref u), x4, x5, x6, x7, x8, x9] (.ref u :: st) cu σ Q) := by
  rw [x211_170]
  rfl
theorem v211_171 {z : P0} {st : List Value} {cu : Nat × Nat} {Q : Res → Mem → Prop} {σ : Mem} {x0 x1 x2 x3 x4 x5 x6 x7 x8 : Option Value} {u : Int32} : X z 211 171 [x0, x1, x2, x3, x4, x5, x6, x7, x8, some (.int u)] (st) cu σ Q = (X z 211 173 [x0, x1, x2, x3, x4, x5, x6, x7, x8, some (.int u)] (.int u :: st) cu σ Q) := by
  rw [x211_171]
  rfl
theorem v211_173 {z : P0} {st : List Value} {cu : Nat × Nat} {Q : Res → Mem → Prop} {K : Nat → Nat × Nat} {I : Nat → Nat → Int32} {R : Nat → Nat → Option Nat} {L : Nat → Nat → Int64} {sz : Nat} {ex : Bool} {x0 x1 x2 x3 x4 x5 x6 x7 x8 x9 : Option Value} {u : Nat} {v : Int32} : X z 211 173 [x0, x1, x2, x3, x4, x5, x6, x7, x8, x9] (.int v :: .ref u :: st) cu (K, I, R, L, sz, ex) Q = (((K u).1 = 20 ∨ (K u).1 = 50) ∧ vp_in v (K u).2 ∧ X z 211 174 [x0, x1, x2, x3, x4, x5, x6, x7, x8, x9] (.int (I u v.toNatClampNeg) :: st) cu (K, I, R, L, sz, ex) Q) := by
  rw [x211_173]
  rfl
theorem u211_174 {z : P0} {ls : Lcs} {st : List Value} {K : Nat → Nat × Nat} {I : Nat → Nat → Int32} {R : Nat → Nat → Option Nat} {L : Nat → Nat → Int64} {sz : Nat} {ex : Bool} {Q : Res → Mem → Prop} {a0 : Nat} {a1 : Int32} : X z 211 174 ls (.int a1 :: .ref a0 :: st) (0, 0) (K, I, R, L, sz, ex) Q = (wsum st ≤ 8 ∧ X z 202 0 [some (.ref a0), some (.int a1)] [] (0, 0) (K, I, R, L, sz, ex) (aftr (X z) mT 211 174 ls st (0, 0) Q)) := v211_174 (c := 0) (n := 0)
theorem v211_177 {z : P0} {st : List Value} {cu : Nat × Nat} {Q : Res → Mem → Prop} {σ : Mem} {x0 x1 x2 x3 x4 x5 x6 x7 x8 : Option Value} {u : Int32} : X z 211 177 [x0, x1, x2, x3, x4, x5, x6, x7, x8, some (.int u)] (st) cu σ Q = (cat2 x8 = false ∧ X z 211 180 [x0, x1, x2, x3, x4, x5, x6, x7, x8, some (.int (u + nI 1))] (st) cu σ Q) := by
  rw [x211_177]
  obtain ⟨K, I, R, L, sz, ex⟩ := σ
  exact i_iinc.trans (gl_9.trans (ldI_i.trans sl_9))
theorem v211_180 {z : P0} {st : List Value} {cu : Nat × Nat} {Q : Res → Mem → Prop} {σ : Mem} {x0 x1 x2 x3 x4 x5 x6 x7 x8 x9 : Option Value} : X z 211 180 [x0, x1, x2, x3, x4, x5, x6, x7, x8, x9] (st) cu σ Q = (X z 211 18 [x0, x1, x2, x3, x4, x5, x6, x7, x8, x9] (st) cu σ Q) := by
  rw [x211_180]
  rfl
theorem v211_183 {z : P0} {st : List Value} {cu : Nat × Nat} {Q : Res → Mem → Prop} {σ : Mem} {x1 x2 x3 x4 x5 x6 x7 x8 x9 : Option Value} {u : Nat} : X z 211 183 [some (.ref u), x1, x2, x3, x4, x5, x6, x7, x8, x9] (st) cu σ Q = (X z 211 184 [some (.ref u), x1, x2, x3, x4, x5, x6, x7, x8, x9] (.ref u :: st) cu σ Q) := by
  rw [x211_183]
  rfl
theorem u211_184 {z : P0} {ls : Lcs} {st : List Value} {K : Nat → Nat × Nat} {I : Nat → Nat → Int32} {R : Nat → Nat → Option Nat} {L : Nat → Nat → Int64} {sz : Nat} {ex : Bool} {Q : Res → Mem → Prop} {a0 : Nat} : X z 211 184 ls (.ref a0 :: st) (0, 0) (K, I, R, L, sz, ex) Q = (wsum st ≤ 8 ∧ X z 203 0 [some (.ref a0)] [] (0, 0) (K, I, R, L, sz, ex) (aftr (X z) mT 211 184 ls st (0, 0) Q)) := v211_184 (c := 0) (n := 0)
theorem v211_187 {z : P0} {cu : Nat × Nat} {Q : Res → Mem → Prop} {σ : Mem} {x0 x1 x2 x3 x4 x5 x6 x7 x8 x9 : Option Value} : X z 211 187 [x0, x1, x2, x3, x4, x5, x6, x7, x8, x9] ([]) cu σ Q = (Q (.inl none) σ) := by
  rw [x211_187]
  rfl
