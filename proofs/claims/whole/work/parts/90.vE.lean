theorem v192_0 {z : P0} {st : List Value} {cu : Nat × Nat} {Q : Res → Mem → Prop} {σ : Mem} {x0 x1 x2 x4 : Option Value} {u : Nat} : X z 192 0 [x0, x1, x2, some (.ref u), x4] (st) cu σ Q = (X z 192 1 [x0, x1, x2, some (.ref u), x4] (.ref u :: st) cu σ Q) := by
  rw [x192_0]
  rfl
theorem v192_1 {z : P0} {st : List Value} {cu : Nat × Nat} {Q : Res → Mem → Prop} {σ : Mem} {x0 x1 x2 x3 x4 : Option Value} : X z 192 1 [x0, x1, x2, x3, x4] (st) cu σ Q = (X z 192 2 [x0, x1, x2, x3, x4] (.int (nI 0) :: st) cu σ Q) := by
  rw [x192_1]
  rfl
theorem v192_2 {z : P0} {st : List Value} {cu : Nat × Nat} {Q : Res → Mem → Prop} {σ : Mem} {x1 x2 x3 x4 : Option Value} {u : Nat} : X z 192 2 [some (.ref u), x1, x2, x3, x4] (st) cu σ Q = (X z 192 3 [some (.ref u), x1, x2, x3, x4] (.ref u :: st) cu σ Q) := by
  rw [x192_2]
  rfl
theorem v192_3 {z : P0} {st : List Value} {cu : Nat × Nat} {Q : Res → Mem → Prop} {σ : Mem} {x0 x2 x3 x4 : Option Value} {u : Int32} : X z 192 3 [x0, some (.int u), x2, x3, x4] (st) cu σ Q = (X z 192 4 [x0, some (.int u), x2, x3, x4] (.int u :: st) cu σ Q) := by
  rw [x192_3]
  rfl
theorem v192_4 {z : P0} {st : List Value} {cu : Nat × Nat} {Q : Res → Mem → Prop} {σ : Mem} {x0 x1 x3 x4 : Option Value} {u : Int32} : X z 192 4 [x0, x1, some (.int u), x3, x4] (st) cu σ Q = (X z 192 5 [x0, x1, some (.int u), x3, x4] (.int u :: st) cu σ Q) := by
  rw [x192_4]
  rfl
theorem u192_5 {z : P0} {ls : Lcs} {st : List Value} {c n : Nat} {K : Nat → Nat × Nat} {I : Nat → Nat → Int32} {R : Nat → Nat → Option Nat} {L : Nat → Nat → Int64} {sz : Nat} {ex : Bool} {Q : Res → Mem → Prop} {x : Nat} {a0 : Int32} {a1 : Int32} : X z 192 5 ls (.int a1 :: .int a0 :: .ref x :: st) (c, n) (K, I, R, L, sz, ex) Q = ((K x).1 = 110 ∧ wsum st ≤ 8 ∧ c + 1 ≤ 1 ∧ n + 6 ≤ 6 ∧ X z 58 0 [some (.ref x), some (.int a0), some (.int a1), none] [] (0, 0) (K, I, R, L, sz, ex) (aftr (X z) mT 192 5 ls st (c + 1, n + 6) Q)) := v192_5
theorem v192_8 {z : P0} {st : List Value} {cu : Nat × Nat} {Q : Res → Mem → Prop} {σ : Mem} {x0 x1 x2 x3 x4 : Option Value} {u : Int32} : X z 192 8 [x0, x1, x2, x3, x4] (.int u :: st) cu σ Q = (X z 192 9 [x0, x1, x2, x3, x4] (.long u.toInt64 :: st) cu σ Q) := by
  rw [x192_8]
  rfl
theorem v192_9 {z : P0} {st : List Value} {cu : Nat × Nat} {Q : Res → Mem → Prop} {K : Nat → Nat × Nat} {I : Nat → Nat → Int32} {R : Nat → Nat → Option Nat} {L : Nat → Nat → Int64} {sz : Nat} {ex : Bool} {x0 x1 x2 x3 x4 : Option Value} {u : Nat} {j : Int32} {v : Int64} : X z 192 9 [x0, x1, x2, x3, x4] (.long v :: .int j :: .ref u :: st) cu (K, I, R, L, sz, ex) Q = ((K u).1 = 21 ∧ vp_in j (K u).2 ∧ X z 192 10 [x0, x1, x2, x3, x4] (st) cu (K, I, R, up2 L u j.toNatClampNeg v, sz, ex) Q) := by
  rw [x192_9]
  rfl
theorem v192_10 {z : P0} {st : List Value} {cu : Nat × Nat} {Q : Res → Mem → Prop} {σ : Mem} {x0 x1 x2 x3 x4 : Option Value} : X z 192 10 [x0, x1, x2, x3, x4] (st) cu σ Q = (X z 192 21 [x0, x1, x2, x3, x4] (st) cu σ Q) := by
  rw [x192_10]
  rfl
theorem v192_13 {z : P0} {st : List Value} {cu : Nat × Nat} {Q : Res → Mem → Prop} {σ : Mem} {x0 x1 x2 x3 x4 : Option Value} {u : Nat} : X z 192 13 [x0, x1, x2, x3, x4] (.ref u :: st) cu σ Q = (cat2 x3 = false ∧ X z 192 15 [x0, x1, x2, x3, some (.ref u)] (st) cu σ Q) := by
  rw [x192_13]
  obtain ⟨K, I, R, L, sz, ex⟩ := σ
  exact i_astore.trans sl_4
theorem v192_15 {z : P0} {st : List Value} {cu : Nat × Nat} {Q : Res → Mem → Prop} {σ : Mem} {x0 x1 x2 x3 x4 : Option Value} : X z 192 15 [x0, x1, x2, x3, x4] (st) cu σ Q = (X z 192 16 [x0, x1, x2, x3, x4] (.int (nI 1) :: st) cu σ Q) := by
  rw [x192_15]
  rfl
theorem v192_16 {z : P0} {cu : Nat × Nat} {Q : Res → Mem → Prop} {σ : Mem} {x0 x1 x2 x3 x4 : Option Value} {v : Int32} : X z 192 16 [x0, x1, x2, x3, x4] ([.int v]) cu σ Q = (Q (.inl (some (.int v))) σ) := by
  rw [x192_16]
  exact propext ⟨fun h => h.2, fun h => ⟨trivial, h⟩⟩
theorem v192_17 {z : P0} {st : List Value} {cu : Nat × Nat} {Q : Res → Mem → Prop} {σ : Mem} {x0 x1 x2 x3 x4 : Option Value} {u : Nat} : X z 192 17 [x0, x1, x2, x3, x4] (.ref u :: st) cu σ Q = (cat2 x3 = false ∧ X z 192 19 [x0, x1, x2, x3, some (.ref u)] (st) cu σ Q) := by
  rw [x192_17]
  obtain ⟨K, I, R, L, sz, ex⟩ := σ
  exact i_astore.trans sl_4
theorem v192_19 {z : P0} {st : List Value} {cu : Nat × Nat} {Q : Res → Mem → Prop} {σ : Mem} {x0 x1 x2 x3 x4 : Option Value} : X z 192 19 [x0, x1, x2, x3, x4] (st) cu σ Q = (X z 192 20 [x0, x1, x2, x3, x4] (.int (nI 2) :: st) cu σ Q) := by
  rw [x192_19]
  rfl
theorem v192_20 {z : P0} {cu : Nat × Nat} {Q : Res → Mem → Prop} {σ : Mem} {x0 x1 x2 x3 x4 : Option Value} {v : Int32} : X z 192 20 [x0, x1, x2, x3, x4] ([.int v]) cu σ Q = (Q (.inl (some (.int v))) σ) := by
  rw [x192_20]
  exact propext ⟨fun h => h.2, fun h => ⟨trivial, h⟩⟩
theorem v192_21 {z : P0} {st : List Value} {cu : Nat × Nat} {Q : Res → Mem → Prop} {σ : Mem} {x0 x1 x2 x3 x4 : Option Value} : X z 192 21 [x0, x1, x2, x3, x4] (st) cu σ Q = (X z 192 22 [x0, x1, x2, x3, x4] (.int (nI 0) :: st) cu σ Q) := by
  rw [x192_21]
  rfl
theorem v192_22 {z : P0} {cu : Nat × Nat} {Q : Res → Mem → Prop} {σ : Mem} {x0 x1 x2 x3 x4 : Option Value} {v : Int32} : X z 192 22 [x0, x1, x2, x3, x4] ([.int v]) cu σ Q = (Q (.inl (some (.int v))) σ) := by
  rw [x192_22]
  exact propext ⟨fun h => h.2, fun h => ⟨trivial, h⟩⟩
theorem v193_0 {z : P0} {st : List Value} {cu : Nat × Nat} {Q : Res → Mem → Prop} {σ : Mem} {x0 x2 : Option Value} {u : Nat} : X z 193 0 [x0, some (.ref u), x2] (st) cu σ Q = (X z 193 1 [x0, some (.ref u), x2] (.ref u :: st) cu σ Q) := by
  rw [x193_0]
  rfl
theorem v193_1 {z : P0} {st : List Value} {cu : Nat × Nat} {Q : Res → Mem → Prop} {σ : Mem} {x0 x1 x2 : Option Value} : X z 193 1 [x0, x1, x2] (st) cu σ Q = (X z 193 2 [x0, x1, x2] (.int (nI 0) :: st) cu σ Q) := by
  rw [x193_1]
  rfl
theorem v193_2 {z : P0} {st : List Value} {cu : Nat × Nat} {Q : Res → Mem → Prop} {σ : Mem} {x1 x2 : Option Value} {u : Nat} : X z 193 2 [some (.ref u), x1, x2] (st) cu σ Q = (X z 193 3 [some (.ref u), x1, x2] (.ref u :: st) cu σ Q) := by
  rw [x193_2]
  rfl
theorem u193_3 {z : P0} {ls : Lcs} {st : List Value} {c n : Nat} {K : Nat → Nat × Nat} {I : Nat → Nat → Int32} {R : Nat → Nat → Option Nat} {L : Nat → Nat → Int64} {sz : Nat} {ex : Bool} {Q : Res → Mem → Prop} {x : Nat} : X z 193 3 ls (.ref x :: st) (c, n) (K, I, R, L, sz, ex) Q = ((K x).1 = 110 ∧ wsum st ≤ 8 ∧ c + 1 ≤ 1 ∧ n + 6 ≤ 6 ∧ X z 59 0 [some (.ref x), none] [] (0, 0) (K, I, R, L, sz, ex) (aftr (X z) mT 193 3 ls st (c + 1, n + 6) Q)) := v193_3
theorem v193_6 {z : P0} {st : List Value} {cu : Nat × Nat} {Q : Res → Mem → Prop} {σ : Mem} {x0 x1 x2 : Option Value} {u : Int32} : X z 193 6 [x0, x1, x2] (.int u :: st) cu σ Q = (X z 193 7 [x0, x1, x2] (.long u.toInt64 :: st) cu σ Q) := by
  rw [x193_6]
  rfl
theorem v193_7 {z : P0} {st : List Value} {cu : Nat × Nat} {Q : Res → Mem → Prop} {K : Nat → Nat × Nat} {I : Nat → Nat → Int32} {R : Nat → Nat → Option Nat} {L : Nat → Nat → Int64} {sz : Nat} {ex : Bool} {x0 x1 x2 : Option Value} {u : Nat} {j : Int32} {v : Int64} : X z 193 7 [x0, x1, x2] (.long v :: .int j :: .ref u :: st) cu (K, I, R, L, sz, ex) Q = ((K u).1 = 21 ∧ vp_in j (K u).2 ∧ X z 193 8 [x0, x1, x2] (st) cu (K, I, R, up2 L u j.toNatClampNeg v, sz, ex) Q) := by
  rw [x193_7]
  rfl
theorem v193_8 {z : P0} {st : List Value} {cu : Nat × Nat} {Q : Res → Mem → Prop} {σ : Mem} {x0 x1 x2 : Option Value} : X z 193 8 [x0, x1, x2] (st) cu σ Q = (X z 193 17 [x0, x1, x2] (st) cu σ Q) := by
  rw [x193_8]
  rfl
theorem v193_11 {z : P0} {st : List Value} {cu : Nat × Nat} {Q : Res → Mem → Prop} {σ : Mem} {x0 x1 x2 : Option Value} {u : Nat} : X z 193 11 [x0, x1, x2] (.ref u :: st) cu σ Q = (cat2 x1 = false ∧ X z 193 12 [x0, x1, some (.ref u)] (st) cu σ Q) := by
  rw [x193_11]
  obtain ⟨K, I, R, L, sz, ex⟩ := σ
  exact i_astore_n.trans sl_2
theorem v193_12 {z : P0} {st : List Value} {cu : Nat × Nat} {Q : Res → Mem → Prop} {σ : Mem} {x0 x1 x2 : Option Value} : X z 193 12 [x0, x1, x2] (st) cu σ Q = (X z 193 13 [x0, x1, x2] (.int (nI 1) :: st) cu σ Q) := by
  rw [x193_12]
  rfl
theorem v193_13 {z : P0} {cu : Nat × Nat} {Q : Res → Mem → Prop} {σ : Mem} {x0 x1 x2 : Option Value} {v : Int32} : X z 193 13 [x0, x1, x2] ([.int v]) cu σ Q = (Q (.inl (some (.int v))) σ) := by
  rw [x193_13]
  exact propext ⟨fun h => h.2, fun h => ⟨trivial, h⟩⟩
theorem v193_14 {z : P0} {st : List Value} {cu : Nat × Nat} {Q : Res → Mem → Prop} {σ : Mem} {x0 x1 x2 : Option Value} {u : Nat} : X z 193 14 [x0, x1, x2] (.ref u :: st) cu σ Q = (cat2 x1 = false ∧ X z 193 15 [x0, x1, some (.ref u)] (st) cu σ Q) := by
  rw [x193_14]
  obtain ⟨K, I, R, L, sz, ex⟩ := σ
  exact i_astore_n.trans sl_2
theorem v193_15 {z : P0} {st : List Value} {cu : Nat × Nat} {Q : Res → Mem → Prop} {σ : Mem} {x0 x1 x2 : Option Value} : X z 193 15 [x0, x1, x2] (st) cu σ Q = (X z 193 16 [x0, x1, x2] (.int (nI 2) :: st) cu σ Q) := by
  rw [x193_15]
  rfl
theorem v193_16 {z : P0} {cu : Nat × Nat} {Q : Res → Mem → Prop} {σ : Mem} {x0 x1 x2 : Option Value} {v : Int32} : X z 193 16 [x0, x1, x2] ([.int v]) cu σ Q = (Q (.inl (some (.int v))) σ) := by
  rw [x193_16]
  exact propext ⟨fun h => h.2, fun h => ⟨trivial, h⟩⟩
theorem v193_17 {z : P0} {st : List Value} {cu : Nat × Nat} {Q : Res → Mem → Prop} {σ : Mem} {x0 x1 x2 : Option Value} : X z 193 17 [x0, x1, x2] (st) cu σ Q = (X z 193 18 [x0, x1, x2] (.int (nI 0) :: st) cu σ Q) := by
  rw [x193_17]
  rfl
theorem v193_18 {z : P0} {cu : Nat × Nat} {Q : Res → Mem → Prop} {σ : Mem} {x0 x1 x2 : Option Value} {v : Int32} : X z 193 18 [x0, x1, x2] ([.int v]) cu σ Q = (Q (.inl (some (.int v))) σ) := by
  rw [x193_18]
  exact propext ⟨fun h => h.2, fun h => ⟨trivial, h⟩⟩
theorem v194_0 {z : P0} {st : List Value} {cu : Nat × Nat} {Q : Res → Mem → Prop} {σ : Mem} {x0 x2 : Option Value} {u : Nat} : X z 194 0 [x0, some (.ref u), x2] (st) cu σ Q = (X z 194 1 [x0, some (.ref u), x2] (.ref u :: st) cu σ Q) := by
  rw [x194_0]
  rfl
theorem v194_1 {z : P0} {st : List Value} {cu : Nat × Nat} {Q : Res → Mem → Prop} {σ : Mem} {x0 x1 x2 : Option Value} : X z 194 1 [x0, x1, x2] (st) cu σ Q = (X z 194 2 [x0, x1, x2] (.int (nI 0) :: st) cu σ Q) := by
  rw [x194_1]
  rfl
theorem v194_2 {z : P0} {st : List Value} {cu : Nat × Nat} {Q : Res → Mem → Prop} {σ : Mem} {x1 x2 : Option Value} {u : Nat} : X z 194 2 [some (.ref u), x1, x2] (st) cu σ Q = (X z 194 3 [some (.ref u), x1, x2] (.ref u :: st) cu σ Q) := by
  rw [x194_2]
  rfl
theorem u194_3 {z : P0} {ls : Lcs} {st : List Value} {c n : Nat} {K : Nat → Nat × Nat} {I : Nat → Nat → Int32} {R : Nat → Nat → Option Nat} {L : Nat → Nat → Int64} {sz : Nat} {ex : Bool} {Q : Res → Mem → Prop} {x : Nat} : X z 194 3 ls (.ref x :: st) (c, n) (K, I, R, L, sz, ex) Q = ((K x).1 = 110 ∧ wsum st ≤ 8 ∧ c + 1 ≤ 1 ∧ n + 6 ≤ 6 ∧ X z 60 0 [some (.ref x)] [] (0, 0) (K, I, R, L, sz, ex) (aftr (X z) mT 194 3 ls st (c + 1, n + 6) Q)) := v194_3
theorem v194_6 {z : P0} {st : List Value} {cu : Nat × Nat} {Q : Res → Mem → Prop} {σ : Mem} {x0 x1 x2 : Option Value} {u : Int32} : X z 194 6 [x0, x1, x2] (.int u :: st) cu σ Q = (X z 194 7 [x0, x1, x2] (.long u.toInt64 :: st) cu σ Q) := by
  rw [x194_6]
  rfl
theorem v194_7 {z : P0} {st : List Value} {cu : Nat × Nat} {Q : Res → Mem → Prop} {K : Nat → Nat × Nat} {I : Nat → Nat → Int32} {R : Nat → Nat → Option Nat} {L : Nat → Nat → Int64} {sz : Nat} {ex : Bool} {x0 x1 x2 : Option Value} {u : Nat} {j : Int32} {v : Int64} : X z 194 7 [x0, x1, x2] (.long v :: .int j :: .ref u :: st) cu (K, I, R, L, sz, ex) Q = ((K u).1 = 21 ∧ vp_in j (K u).2 ∧ X z 194 8 [x0, x1, x2] (st) cu (K, I, R, up2 L u j.toNatClampNeg v, sz, ex) Q) := by
  rw [x194_7]
  rfl
theorem v194_8 {z : P0} {st : List Value} {cu : Nat × Nat} {Q : Res → Mem → Prop} {σ : Mem} {x0 x1 x2 : Option Value} : X z 194 8 [x0, x1, x2] (st) cu σ Q = (X z 194 14 [x0, x1, x2] (st) cu σ Q) := by
  rw [x194_8]
  rfl
theorem v194_11 {z : P0} {st : List Value} {cu : Nat × Nat} {Q : Res → Mem → Prop} {σ : Mem} {x0 x1 x2 : Option Value} {u : Nat} : X z 194 11 [x0, x1, x2] (.ref u :: st) cu σ Q = (cat2 x1 = false ∧ X z 194 12 [x0, x1, some (.ref u)] (st) cu σ Q) := by
  rw [x194_11]
  obtain ⟨K, I, R, L, sz, ex⟩ := σ
  exact i_astore_n.trans sl_2
theorem v194_12 {z : P0} {st : List Value} {cu : Nat × Nat} {Q : Res → Mem → Prop} {σ : Mem} {x0 x1 x2 : Option Value} : X z 194 12 [x0, x1, x2] (st) cu σ Q = (X z 194 13 [x0, x1, x2] (.int (nI 1) :: st) cu σ Q) := by
  rw [x194_12]
  rfl
theorem v194_13 {z : P0} {cu : Nat × Nat} {Q : Res → Mem → Prop} {σ : Mem} {x0 x1 x2 : Option Value} {v : Int32} : X z 194 13 [x0, x1, x2] ([.int v]) cu σ Q = (Q (.inl (some (.int v))) σ) := by
  rw [x194_13]
  exact propext ⟨fun h => h.2, fun h => ⟨trivial, h⟩⟩
theorem v194_14 {z : P0} {st : List Value} {cu : Nat × Nat} {Q : Res → Mem → Prop} {σ : Mem} {x0 x1 x2 : Option Value} : X z 194 14 [x0, x1, x2] (st) cu σ Q = (X z 194 15 [x0, x1, x2] (.int (nI 0) :: st) cu σ Q) := by
  rw [x194_14]
  rfl
theorem v194_15 {z : P0} {cu : Nat × Nat} {Q : Res → Mem → Prop} {σ : Mem} {x0 x1 x2 : Option Value} {v : Int32} : X z 194 15 [x0, x1, x2] ([.int v]) cu σ Q = (Q (.inl (some (.int v))) σ) := by
  rw [x194_15]
  exact propext ⟨fun h => h.2, fun h => ⟨trivial, h⟩⟩
theorem v195_0 {z : P0} {st : List Value} {cu : Nat × Nat} {Q : Res → Mem → Prop} {σ : Mem} {x0 x1 x2 x4 : Option Value} {u : Nat} : X z 195 0 [x0, x1, x2, some (.ref u), x4] (st) cu σ Q = (X z 195 1 [x0, x1, x2, some (.ref u), x4] (.ref u :: st) cu σ Q) := by
  rw [x195_0]
  rfl
theorem v195_1 {z : P0} {st : List Value} {cu : Nat × Nat} {Q : Res → Mem → Prop} {σ : Mem} {x0 x1 x2 x3 x4 : Option Value} : X z 195 1 [x0, x1, x2, x3, x4] (st) cu σ Q = (X z 195 2 [x0, x1, x2, x3, x4] (.int (nI 0) :: st) cu σ Q) := by
  rw [x195_1]
  rfl
theorem v195_2 {z : P0} {st : List Value} {cu : Nat × Nat} {Q : Res → Mem → Prop} {σ : Mem} {x1 x2 x3 x4 : Option Value} {u : Nat} : X z 195 2 [some (.ref u), x1, x2, x3, x4] (st) cu σ Q = (X z 195 3 [some (.ref u), x1, x2, x3, x4] (.ref u :: st) cu σ Q) := by
  rw [x195_2]
  rfl
theorem v195_3 {z : P0} {st : List Value} {cu : Nat × Nat} {Q : Res → Mem → Prop} {σ : Mem} {x0 x2 x3 x4 : Option Value} {u : Int32} : X z 195 3 [x0, some (.int u), x2, x3, x4] (st) cu σ Q = (X z 195 4 [x0, some (.int u), x2, x3, x4] (.int u :: st) cu σ Q) := by
  rw [x195_3]
  rfl
theorem v195_4 {z : P0} {st : List Value} {cu : Nat × Nat} {Q : Res → Mem → Prop} {σ : Mem} {x0 x1 x3 x4 : Option Value} {u : Int32} : X z 195 4 [x0, x1, some (.int u), x3, x4] (st) cu σ Q = (X z 195 5 [x0, x1, some (.int u), x3, x4] (.int u :: st) cu σ Q) := by
  rw [x195_4]
  rfl
theorem u195_5 {z : P0} {ls : Lcs} {st : List Value} {c n : Nat} {K : Nat → Nat × Nat} {I : Nat → Nat → Int32} {R : Nat → Nat → Option Nat} {L : Nat → Nat → Int64} {sz : Nat} {ex : Bool} {Q : Res → Mem → Prop} {x : Nat} {a0 : Int32} {a1 : Int32} : X z 195 5 ls (.int a1 :: .int a0 :: .ref x :: st) (c, n) (K, I, R, L, sz, ex) Q = ((K x).1 = 110 ∧ wsum st ≤ 8 ∧ c + 1 ≤ 1 ∧ n + 6 ≤ 6 ∧ X z 61 0 [some (.ref x), some (.int a0), some (.int a1), none] [] (0, 0) (K, I, R, L, sz, ex) (aftr (X z) mT 195 5 ls st (c + 1, n + 6) Q)) := v195_5
theorem v195_8 {z : P0} {st : List Value} {cu : Nat × Nat} {Q : Res → Mem → Prop} {σ : Mem} {x0 x1 x2 x3 x4 : Option Value} {u : Int32} : X z 195 8 [x0, x1, x2, x3, x4] (.int u :: st) cu σ Q = (X z 195 9 [x0, x1, x2, x3, x4] (.long u.toInt64 :: st) cu σ Q) := by
  rw [x195_8]
  rfl
theorem v195_9 {z : P0} {st : List Value} {cu : Nat × Nat} {Q : Res → Mem → Prop} {K : Nat → Nat × Nat} {I : Nat → Nat → Int32} {R : Nat → Nat → Option Nat} {L : Nat → Nat → Int64} {sz : Nat} {ex : Bool} {x0 x1 x2 x3 x4 : Option Value} {u : Nat} {j : Int32} {v : Int64} : X z 195 9 [x0, x1, x2, x3, x4] (.long v :: .int j :: .ref u :: st) cu (K, I, R, L, sz, ex) Q = ((K u).1 = 21 ∧ vp_in j (K u).2 ∧ X z 195 10 [x0, x1, x2, x3, x4] (st) cu (K, I, R, up2 L u j.toNatClampNeg v, sz, ex) Q) := by
  rw [x195_9]
  rfl
theorem v195_10 {z : P0} {st : List Value} {cu : Nat × Nat} {Q : Res → Mem → Prop} {σ : Mem} {x0 x1 x2 x3 x4 : Option Value} : X z 195 10 [x0, x1, x2, x3, x4] (st) cu σ Q = (X z 195 21 [x0, x1, x2, x3, x4] (st) cu σ Q) := by
  rw [x195_10]
  rfl
theorem v195_13 {z : P0} {st : List Value} {cu : Nat × Nat} {Q : Res → Mem → Prop} {σ : Mem} {x0 x1 x2 x3 x4 : Option Value} {u : Nat} : X z 195 13 [x0, x1, x2, x3, x4] (.ref u :: st) cu σ Q = (cat2 x3 = false ∧ X z 195 15 [x0, x1, x2, x3, some (.ref u)] (st) cu σ Q) := by
  rw [x195_13]
  obtain ⟨K, I, R, L, sz, ex⟩ := σ
  exact i_astore.trans sl_4
theorem v195_15 {z : P0} {st : List Value} {cu : Nat × Nat} {Q : Res → Mem → Prop} {σ : Mem} {x0 x1 x2 x3 x4 : Option Value} : X z 195 15 [x0, x1, x2, x3, x4] (st) cu σ Q = (X z 195 16 [x0, x1, x2, x3, x4] (.int (nI 1) :: st) cu σ Q) := by
  rw [x195_15]
  rfl
theorem v195_16 {z : P0} {cu : Nat × Nat} {Q : Res → Mem → Prop} {σ : Mem} {x0 x1 x2 x3 x4 : Option Value} {v : Int32} : X z 195 16 [x0, x1, x2, x3, x4] ([.int v]) cu σ Q = (Q (.inl (some (.int v))) σ) := by
  rw [x195_16]
  exact propext ⟨fun h => h.2, fun h => ⟨trivial, h⟩⟩
theorem v195_17 {z : P0} {st : List Value} {cu : Nat × Nat} {Q : Res → Mem → Prop} {σ : Mem} {x0 x1 x2 x3 x4 : Option Value} {u : Nat} : X z 195 17 [x0, x1, x2, x3, x4] (.ref u :: st) cu σ Q = (cat2 x3 = false ∧ X z 195 19 [x0, x1, x2, x3, some (.ref u)] (st) cu σ Q) := by
  rw [x195_17]
  obtain ⟨K, I, R, L, sz, ex⟩ := σ
  exact i_astore.trans sl_4
theorem v195_19 {z : P0} {st : List Value} {cu : Nat × Nat} {Q : Res → Mem → Prop} {σ : Mem} {x0 x1 x2 x3 x4 : Option Value} : X z 195 19 [x0, x1, x2, x3, x4] (st) cu σ Q = (X z 195 20 [x0, x1, x2, x3, x4] (.int (nI 2) :: st) cu σ Q) := by
  rw [x195_19]
  rfl
theorem v195_20 {z : P0} {cu : Nat × Nat} {Q : Res → Mem → Prop} {σ : Mem} {x0 x1 x2 x3 x4 : Option Value} {v : Int32} : X z 195 20 [x0, x1, x2, x3, x4] ([.int v]) cu σ Q = (Q (.inl (some (.int v))) σ) := by
  rw [x195_20]
  exact propext ⟨fun h => h.2, fun h => ⟨trivial, h⟩⟩
theorem v195_21 {z : P0} {st : List Value} {cu : Nat × Nat} {Q : Res → Mem → Prop} {σ : Mem} {x0 x1 x2 x3 x4 : Option Value} : X z 195 21 [x0, x1, x2, x3, x4] (st) cu σ Q = (X z 195 22 [x0, x1, x2, x3, x4] (.int (nI 0) :: st) cu σ Q) := by
  rw [x195_21]
  rfl
theorem v195_22 {z : P0} {cu : Nat × Nat} {Q : Res → Mem → Prop} {σ : Mem} {x0 x1 x2 x3 x4 : Option Value} {v : Int32} : X z 195 22 [x0, x1, x2, x3, x4] ([.int v]) cu σ Q = (Q (.inl (some (.int v))) σ) := by
  rw [x195_22]
  exact propext ⟨fun h => h.2, fun h => ⟨trivial, h⟩⟩
theorem v196_0 {z : P0} {st : List Value} {cu : Nat × Nat} {Q : Res → Mem → Prop} {σ : Mem} {x0 x1 x2 x4 : Option Value} {u : Nat} : X z 196 0 [x0, x1, x2, some (.ref u), x4] (st) cu σ Q = (X z 196 1 [x0, x1, x2, some (.ref u), x4] (.ref u :: st) cu σ Q) := by
  rw [x196_0]
  rfl
theorem v196_1 {z : P0} {st : List Value} {cu : Nat × Nat} {Q : Res → Mem → Prop} {σ : Mem} {x0 x1 x2 x3 x4 : Option Value} : X z 196 1 [x0, x1, x2, x3, x4] (st) cu σ Q = (X z 196 2 [x0, x1, x2, x3, x4] (.int (nI 0) :: st) cu σ Q) := by
  rw [x196_1]
  rfl
theorem v196_2 {z : P0} {st : List Value} {cu : Nat × Nat} {Q : Res → Mem → Prop} {σ : Mem} {x1 x2 x3 x4 : Option Value} {u : Nat} : X z 196 2 [some (.ref u), x1, x2, x3, x4] (st) cu σ Q = (X z 196 3 [some (.ref u), x1, x2, x3, x4] (.ref u :: st) cu σ Q) := by
  rw [x196_2]
  rfl
theorem v196_3 {z : P0} {st : List Value} {cu : Nat × Nat} {Q : Res → Mem → Prop} {σ : Mem} {x0 x2 x3 x4 : Option Value} {u : Int32} : X z 196 3 [x0, some (.int u), x2, x3, x4] (st) cu σ Q = (X z 196 4 [x0, some (.int u), x2, x3, x4] (.int u :: st) cu σ Q) := by
  rw [x196_3]
  rfl
theorem v196_4 {z : P0} {st : List Value} {cu : Nat × Nat} {Q : Res → Mem → Prop} {σ : Mem} {x0 x1 x3 x4 : Option Value} {u : Int32} : X z 196 4 [x0, x1, some (.int u), x3, x4] (st) cu σ Q = (X z 196 5 [x0, x1, some (.int u), x3, x4] (.int u :: st) cu σ Q) := by
  rw [x196_4]
  rfl
theorem u196_5 {z : P0} {ls : Lcs} {st : List Value} {c n : Nat} {K : Nat → Nat × Nat} {I : Nat → Nat → Int32} {R : Nat → Nat → Option Nat} {L : Nat → Nat → Int64} {sz : Nat} {ex : Bool} {Q : Res → Mem → Prop} {x : Nat} {a0 : Int32} {a1 : Int32} : X z 196 5 ls (.int a1 :: .int a0 :: .ref x :: st) (c, n) (K, I, R, L, sz, ex) Q = ((K x).1 = 110 ∧ wsum st ≤ 8 ∧ c + 1 ≤ 1 ∧ n + 6 ≤ 6 ∧ X z 62 0 [some (.ref x), some (.int a0), some (.int a1), none] [] (0, 0) (K, I, R, L, sz, ex) (aftr (X z) mT 196 5 ls st (c + 1, n + 6) Q)) := v196_5
theorem v196_8 {z : P0} {st : List Value} {cu : Nat × Nat} {Q : Res → Mem → Prop} {σ : Mem} {x0 x1 x2 x3 x4 : Option Value} {u : Int32} : X z 196 8 [x0, x1, x2, x3, x4] (.int u :: st) cu σ Q = (X z 196 9 [x0, x1, x2, x3, x4] (.long u.toInt64 :: st) cu σ Q) := by
  rw [x196_8]
  rfl
theorem v196_9 {z : P0} {st : List Value} {cu : Nat × Nat} {Q : Res → Mem → Prop} {K : Nat → Nat × Nat} {I : Nat → Nat → Int32} {R : Nat → Nat → Option Nat} {L : Nat → Nat → Int64} {sz : Nat} {ex : Bool} {x0 x1 x2 x3 x4 : Option Value} {u : Nat} {j : Int32} {v : Int64} : X z 196 9 [x0, x1, x2, x3, x4] (.long v :: .int j :: .ref u :: st) cu (K, I, R, L, sz, ex) Q = ((K u).1 = 21 ∧ vp_in j (K u).2 ∧ X z 196 10 [x0, x1, x2, x3, x4] (st) cu (K, I, R, up2 L u j.toNatClampNeg v, sz, ex) Q) := by
  rw [x196_9]
  rfl
theorem v196_10 {z : P0} {st : List Value} {cu : Nat × Nat} {Q : Res → Mem → Prop} {σ : Mem} {x0 x1 x2 x3 x4 : Option Value} : X z 196 10 [x0, x1, x2, x3, x4] (st) cu σ Q = (X z 196 17 [x0, x1, x2, x3, x4] (st) cu σ Q) := by
  rw [x196_10]
  rfl
theorem v196_13 {z : P0} {st : List Value} {cu : Nat × Nat} {Q : Res → Mem → Prop} {σ : Mem} {x0 x1 x2 x3 x4 : Option Value} {u : Nat} : X z 196 13 [x0, x1, x2, x3, x4] (.ref u :: st) cu σ Q = (cat2 x3 = false ∧ X z 196 15 [x0, x1, x2, x3, some (.ref u)] (st) cu σ Q) := by
  rw [x196_13]
  obtain ⟨K, I, R, L, sz, ex⟩ := σ
  exact i_astore.trans sl_4
theorem v196_15 {z : P0} {st : List Value} {cu : Nat × Nat} {Q : Res → Mem → Prop} {σ : Mem} {x0 x1 x2 x3 x4 : Option Value} : X z 196 15 [x0, x1, x2, x3, x4] (st) cu σ Q = (X z 196 16 [x0, x1, x2, x3, x4] (.int (nI 1) :: st) cu σ Q) := by
  rw [x196_15]
  rfl
theorem v196_16 {z : P0} {cu : Nat × Nat} {Q : Res → Mem → Prop} {σ : Mem} {x0 x1 x2 x3 x4 : Option Value} {v : Int32} : X z 196 16 [x0, x1, x2, x3, x4] ([.int v]) cu σ Q = (Q (.inl (some (.int v))) σ) := by
  rw [x196_16]
  exact propext ⟨fun h => h.2, fun h => ⟨trivial, h⟩⟩
theorem v196_17 {z : P0} {st : List Value} {cu : Nat × Nat} {Q : Res → Mem → Prop} {σ : Mem} {x0 x1 x2 x3 x4 : Option Value} : X z 196 17 [x0, x1, x2, x3, x4] (st) cu σ Q = (X z 196 18 [x0, x1, x2, x3, x4] (.int (nI 0) :: st) cu σ Q) := by
  rw [x196_17]
  rfl
theorem v196_18 {z : P0} {cu : Nat × Nat} {Q : Res → Mem → Prop} {σ : Mem} {x0 x1 x2 x3 x4 : Option Value} {v : Int32} : X z 196 18 [x0, x1, x2, x3, x4] ([.int v]) cu σ Q = (Q (.inl (some (.int v))) σ) := by
  rw [x196_18]
  exact propext ⟨fun h => h.2, fun h => ⟨trivial, h⟩⟩
theorem v197_0 {z : P0} {st : List Value} {cu : Nat × Nat} {Q : Res → Mem → Prop} {σ : Mem} {x0 x1 x2 x4 : Option Value} {u : Nat} : X z 197 0 [x0, x1, x2, some (.ref u), x4] (st) cu σ Q = (X z 197 1 [x0, x1, x2, some (.ref u), x4] (.ref u :: st) cu σ Q) := by
  rw [x197_0]
  rfl
theorem v197_1 {z : P0} {st : List Value} {cu : Nat × Nat} {Q : Res → Mem → Prop} {σ : Mem} {x0 x1 x2 x3 x4 : Option Value} : X z 197 1 [x0, x1, x2, x3, x4] (st) cu σ Q = (X z 197 2 [x0, x1, x2, x3, x4] (.int (nI 0) :: st) cu σ Q) := by
  rw [x197_1]
  rfl
theorem v197_2 {z : P0} {st : List Value} {cu : Nat × Nat} {Q : Res → Mem → Prop} {σ : Mem} {x1 x2 x3 x4 : Option Value} {u : Nat} : X z 197 2 [some (.ref u), x1, x2, x3, x4] (st) cu σ Q = (X z 197 3 [some (.ref u), x1, x2, x3, x4] (.ref u :: st) cu σ Q) := by
  rw [x197_2]
  rfl
theorem v197_3 {z : P0} {st : List Value} {cu : Nat × Nat} {Q : Res → Mem → Prop} {σ : Mem} {x0 x2 x3 x4 : Option Value} {u : Int32} : X z 197 3 [x0, some (.int u), x2, x3, x4] (st) cu σ Q = (X z 197 4 [x0, some (.int u), x2, x3, x4] (.int u :: st) cu σ Q) := by
  rw [x197_3]
  rfl
theorem v197_4 {z : P0} {st : List Value} {cu : Nat × Nat} {Q : Res → Mem → Prop} {σ : Mem} {x0 x1 x3 x4 : Option Value} {u : Int32} : X z 197 4 [x0, x1, some (.int u), x3, x4] (st) cu σ Q = (X z 197 5 [x0, x1, some (.int u), x3, x4] (.int u :: st) cu σ Q) := by
  rw [x197_4]
  rfl
theorem u197_5 {z : P0} {ls : Lcs} {st : List Value} {c n : Nat} {K : Nat → Nat × Nat} {I : Nat → Nat → Int32} {R : Nat → Nat → Option Nat} {L : Nat → Nat → Int64} {sz : Nat} {ex : Bool} {Q : Res → Mem → Prop} {x : Nat} {a0 : Int32} {a1 : Int32} : X z 197 5 ls (.int a1 :: .int a0 :: .ref x :: st) (c, n) (K, I, R, L, sz, ex) Q = ((K x).1 = 110 ∧ wsum st ≤ 8 ∧ c + 1 ≤ 1 ∧ n + 6 ≤ 6 ∧ X z 63 0 [some (.ref x), some (.int a0), some (.int a1)] [] (0, 0) (K, I, R, L, sz, ex) (aftr (X z) mT 197 5 ls st (c + 1, n + 6) Q)) := v197_5
theorem v197_8 {z : P0} {st : List Value} {cu : Nat × Nat} {Q : Res → Mem → Prop} {σ : Mem} {x0 x1 x2 x3 x4 : Option Value} {u : Int32} : X z 197 8 [x0, x1, x2, x3, x4] (.int u :: st) cu σ Q = (X z 197 9 [x0, x1, x2, x3, x4] (.long u.toInt64 :: st) cu σ Q) := by
  rw [x197_8]
  rfl
theorem v197_9 {z : P0} {st : List Value} {cu : Nat × Nat} {Q : Res → Mem → Prop} {K : Nat → Nat × Nat} {I : Nat → Nat → Int32} {R : Nat → Nat → Option Nat} {L : Nat → Nat → Int64} {sz : Nat} {ex : Bool} {x0 x1 x2 x3 x4 : Option Value} {u : Nat} {j : Int32} {v : Int64} : X z 197 9 [x0, x1, x2, x3, x4] (.long v :: .int j :: .ref u :: st) cu (K, I, R, L, sz, ex) Q = ((K u).1 = 21 ∧ vp_in j (K u).2 ∧ X z 197 10 [x0, x1, x2, x3, x4] (st) cu (K, I, R, up2 L u j.toNatClampNeg v, sz, ex) Q) := by
  rw [x197_9]
  rfl
theorem v197_10 {z : P0} {st : List Value} {cu : Nat × Nat} {Q : Res → Mem → Prop} {σ : Mem} {x0 x1 x2 x3 x4 : Option Value} : X z 197 10 [x0, x1, x2, x3, x4] (st) cu σ Q = (X z 197 17 [x0, x1, x2, x3, x4] (st) cu σ Q) := by
  rw [x197_10]
  rfl
theorem v197_13 {z : P0} {st : List Value} {cu : Nat × Nat} {Q : Res → Mem → Prop} {σ : Mem} {x0 x1 x2 x3 x4 : Option Value} {u : Nat} : X z 197 13 [x0, x1, x2, x3, x4] (.ref u :: st) cu σ Q = (cat2 x3 = false ∧ X z 197 15 [x0, x1, x2, x3, some (.ref u)] (st) cu σ Q) := by
  rw [x197_13]
  obtain ⟨K, I, R, L, sz, ex⟩ := σ
  exact i_astore.trans sl_4
theorem v197_15 {z : P0} {st : List Value} {cu : Nat × Nat} {Q : Res → Mem → Prop} {σ : Mem} {x0 x1 x2 x3 x4 : Option Value} : X z 197 15 [x0, x1, x2, x3, x4] (st) cu σ Q = (X z 197 16 [x0, x1, x2, x3, x4] (.int (nI 1) :: st) cu σ Q) := by
  rw [x197_15]
  rfl
theorem v197_16 {z : P0} {cu : Nat × Nat} {Q : Res → Mem → Prop} {σ : Mem} {x0 x1 x2 x3 x4 : Option Value} {v : Int32} : X z 197 16 [x0, x1, x2, x3, x4] ([.int v]) cu σ Q = (Q (.inl (some (.int v))) σ) := by
  rw [x197_16]
  exact propext ⟨fun h => h.2, fun h => ⟨trivial, h⟩⟩
theorem v197_17 {z : P0} {st : List Value} {cu : Nat × Nat} {Q : Res → Mem → Prop} {σ : Mem} {x0 x1 x2 x3 x4 : Option Value} : X z 197 17 [x0, x1, x2, x3, x4] (st) cu σ Q = (X z 197 18 [x0, x1, x2, x3, x4] (.int (nI 0) :: st) cu σ Q) := by
  rw [x197_17]
  rfl
theorem v197_18 {z : P0} {cu : Nat × Nat} {Q : Res → Mem → Prop} {σ : Mem} {x0 x1 x2 x3 x4 : Option Value} {v : Int32} : X z 197 18 [x0, x1, x2, x3, x4] ([.int v]) cu σ Q = (Q (.inl (some (.int v))) σ) := by
  rw [x197_18]
  exact propext ⟨fun h => h.2, fun h => ⟨trivial, h⟩⟩
theorem v198_0 {z : P0} {st : List Value} {cu : Nat × Nat} {Q : Res → Mem → Prop} {σ : Mem} {x0 x1 x2 x4 : Option Value} {u : Nat} : X z 198 0 [x0, x1, x2, some (.ref u), x4] (st) cu σ Q = (X z 198 1 [x0, x1, x2, some (.ref u), x4] (.ref u :: st) cu σ Q) := by
  rw [x198_0]
  rfl
theorem v198_1 {z : P0} {st : List Value} {cu : Nat × Nat} {Q : Res → Mem → Prop} {σ : Mem} {x0 x1 x2 x3 x4 : Option Value} : X z 198 1 [x0, x1, x2, x3, x4] (st) cu σ Q = (X z 198 2 [x0, x1, x2, x3, x4] (.int (nI 0) :: st) cu σ Q) := by
  rw [x198_1]
  rfl
theorem v198_2 {z : P0} {st : List Value} {cu : Nat × Nat} {Q : Res → Mem → Prop} {σ : Mem} {x1 x2 x3 x4 : Option Value} {u : Nat} : X z 198 2 [some (.ref u), x1, x2, x3, x4] (st) cu σ Q = (X z 198 3 [some (.ref u), x1, x2, x3, x4] (.ref u :: st) cu σ Q) := by
  rw [x198_2]
  rfl
theorem v198_3 {z : P0} {st : List Value} {cu : Nat × Nat} {Q : Res → Mem → Prop} {σ : Mem} {x0 x2 x3 x4 : Option Value} {u : Int32} : X z 198 3 [x0, some (.int u), x2, x3, x4] (st) cu σ Q = (X z 198 4 [x0, some (.int u), x2, x3, x4] (.int u :: st) cu σ Q) := by
  rw [x198_3]
  rfl
theorem v198_4 {z : P0} {st : List Value} {cu : Nat × Nat} {Q : Res → Mem → Prop} {σ : Mem} {x0 x1 x3 x4 : Option Value} {u : Int32} : X z 198 4 [x0, x1, some (.int u), x3, x4] (st) cu σ Q = (X z 198 5 [x0, x1, some (.int u), x3, x4] (.int u :: st) cu σ Q) := by
  rw [x198_4]
  rfl
theorem u198_5 {z : P0} {ls : Lcs} {st : List Value} {c n : Nat} {K : Nat → Nat × Nat} {I : Nat → Nat → Int32} {R : Nat → Nat → Option Nat} {L : Nat → Nat → Int64} {sz : Nat} {ex : Bool} {Q : Res → Mem → Prop} {x : Nat} {a0 : Int32} {a1 : Int32} : X z 198 5 ls (.int a1 :: .int a0 :: .ref x :: st) (c, n) (K, I, R, L, sz, ex) Q = ((K x).1 = 110 ∧ wsum st ≤ 8 ∧ c + 1 ≤ 1 ∧ n + 6 ≤ 6 ∧ X z 64 0 [some (.ref x), some (.int a0), some (.int a1), none] [] (0, 0) (K, I, R, L, sz, ex) (aftr (X z) mT 198 5 ls st (c + 1, n + 6) Q)) := v198_5
theorem v198_8 {z : P0} {st : List Value} {cu : Nat × Nat} {Q : Res → Mem → Prop} {σ : Mem} {x0 x1 x2 x3 x4 : Option Value} {u : Int32} : X z 198 8 [x0, x1, x2, x3, x4] (.int u :: st) cu σ Q = (X z 198 9 [x0, x1, x2, x3, x4] (.long u.toInt64 :: st) cu σ Q) := by
  rw [x198_8]
  rfl
theorem v198_9 {z : P0} {st : List Value} {cu : Nat × Nat} {Q : Res → Mem → Prop} {K : Nat → Nat × Nat} {I : Nat → Nat → Int32} {R : Nat → Nat → Option Nat} {L : Nat → Nat → Int64} {sz : Nat} {ex : Bool} {x0 x1 x2 x3 x4 : Option Value} {u : Nat} {j : Int32} {v : Int64} : X z 198 9 [x0, x1, x2, x3, x4] (.long v :: .int j :: .ref u :: st) cu (K, I, R, L, sz, ex) Q = ((K u).1 = 21 ∧ vp_in j (K u).2 ∧ X z 198 10 [x0, x1, x2, x3, x4] (st) cu (K, I, R, up2 L u j.toNatClampNeg v, sz, ex) Q) := by
  rw [x198_9]
  rfl
theorem v198_10 {z : P0} {st : List Value} {cu : Nat × Nat} {Q : Res → Mem → Prop} {σ : Mem} {x0 x1 x2 x3 x4 : Option Value} : X z 198 10 [x0, x1, x2, x3, x4] (st) cu σ Q = (X z 198 21 [x0, x1, x2, x3, x4] (st) cu σ Q) := by
  rw [x198_10]
  rfl
theorem v198_13 {z : P0} {st : List Value} {cu : Nat × Nat} {Q : Res → Mem → Prop} {σ : Mem} {x0 x1 x2 x3 x4 : Option Value} {u : Nat} : X z 198 13 [x0, x1, x2, x3, x4] (.ref u :: st) cu σ Q = (cat2 x3 = false ∧ X z 198 15 [x0, x1, x2, x3, some (.ref u)] (st) cu σ Q) := by
  rw [x198_13]
  obtain ⟨K, I, R, L, sz, ex⟩ := σ
  exact i_astore.trans sl_4
theorem v198_15 {z : P0} {st : List Value} {cu : Nat × Nat} {Q : Res → Mem → Prop} {σ : Mem} {x0 x1 x2 x3 x4 : Option Value} : X z 198 15 [x0, x1, x2, x3, x4] (st) cu σ Q = (X z 198 16 [x0, x1, x2, x3, x4] (.int (nI 1) :: st) cu σ Q) := by
  rw [x198_15]
  rfl
theorem v198_16 {z : P0} {cu : Nat × Nat} {Q : Res → Mem → Prop} {σ : Mem} {x0 x1 x2 x3 x4 : Option Value} {v : Int32} : X z 198 16 [x0, x1, x2, x3, x4] ([.int v]) cu σ Q = (Q (.inl (some (.int v))) σ) := by
  rw [x198_16]
  exact propext ⟨fun h => h.2, fun h => ⟨trivial, h⟩⟩
theorem v198_17 {z : P0} {st : List Value} {cu : Nat × Nat} {Q : Res → Mem → Prop} {σ : Mem} {x0 x1 x2 x3 x4 : Option Value} {u : Nat} : X z 198 17 [x0, x1, x2, x3, x4] (.ref u :: st) cu σ Q = (cat2 x3 = false ∧ X z 198 19 [x0, x1, x2, x3, some (.ref u)] (st) cu σ Q) := by
  rw [x198_17]
  obtain ⟨K, I, R, L, sz, ex⟩ := σ
  exact i_astore.trans sl_4
theorem v198_19 {z : P0} {st : List Value} {cu : Nat × Nat} {Q : Res → Mem → Prop} {σ : Mem} {x0 x1 x2 x3 x4 : Option Value} : X z 198 19 [x0, x1, x2, x3, x4] (st) cu σ Q = (X z 198 20 [x0, x1, x2, x3, x4] (.int (nI 2) :: st) cu σ Q) := by
  rw [x198_19]
  rfl
theorem v198_20 {z : P0} {cu : Nat × Nat} {Q : Res → Mem → Prop} {σ : Mem} {x0 x1 x2 x3 x4 : Option Value} {v : Int32} : X z 198 20 [x0, x1, x2, x3, x4] ([.int v]) cu σ Q = (Q (.inl (some (.int v))) σ) := by
  rw [x198_20]
  exact propext ⟨fun h => h.2, fun h => ⟨trivial, h⟩⟩
theorem v198_21 {z : P0} {st : List Value} {cu : Nat × Nat} {Q : Res → Mem → Prop} {σ : Mem} {x0 x1 x2 x3 x4 : Option Value} : X z 198 21 [x0, x1, x2, x3, x4] (st) cu σ Q = (X z 198 22 [x0, x1, x2, x3, x4] (.int (nI 0) :: st) cu σ Q) := by
  rw [x198_21]
  rfl
theorem v198_22 {z : P0} {cu : Nat × Nat} {Q : Res → Mem → Prop} {σ : Mem} {x0 x1 x2 x3 x4 : Option Value} {v : Int32} : X z 198 22 [x0, x1, x2, x3, x4] ([.int v]) cu σ Q = (Q (.inl (some (.int v))) σ) := by
  rw [x198_22]
  exact propext ⟨fun h => h.2, fun h => ⟨trivial, h⟩⟩
theorem v199_0 {z : P0} {st : List Value} {cu : Nat × Nat} {Q : Res → Mem → Prop} {σ : Mem} {x0 x2 : Option Value} {u : Nat} : X z 199 0 [x0, some (.ref u), x2] (st) cu σ Q = (X z 199 1 [x0, some (.ref u), x2] (.ref u :: st) cu σ Q) := by
  rw [x199_0]
  rfl
theorem v199_1 {z : P0} {st : List Value} {cu : Nat × Nat} {Q : Res → Mem → Prop} {σ : Mem} {x0 x1 x2 : Option Value} : X z 199 1 [x0, x1, x2] (st) cu σ Q = (X z 199 2 [x0, x1, x2] (.int (nI 0) :: st) cu σ Q) := by
  rw [x199_1]
  rfl
theorem v199_2 {z : P0} {st : List Value} {cu : Nat × Nat} {Q : Res → Mem → Prop} {σ : Mem} {x1 x2 : Option Value} {u : Nat} : X z 199 2 [some (.ref u), x1, x2] (st) cu σ Q = (X z 199 3 [some (.ref u), x1, x2] (.ref u :: st) cu σ Q) := by
  rw [x199_2]
  rfl
theorem u199_3 {z : P0} {ls : Lcs} {st : List Value} {c n : Nat} {K : Nat → Nat × Nat} {I : Nat → Nat → Int32} {R : Nat → Nat → Option Nat} {L : Nat → Nat → Int64} {sz : Nat} {ex : Bool} {Q : Res → Mem → Prop} {x : Nat} : X z 199 3 ls (.ref x :: st) (c, n) (K, I, R, L, sz, ex) Q = ((K x).1 = 110 ∧ wsum st ≤ 8 ∧ c + 1 ≤ 1 ∧ n + 6 ≤ 6 ∧ X z 65 0 [some (.ref x), none] [] (0, 0) (K, I, R, L, sz, ex) (aftr (X z) mT 199 3 ls st (c + 1, n + 6) Q)) := v199_3
theorem v199_6 {z : P0} {st : List Value} {cu : Nat × Nat} {Q : Res → Mem → Prop} {σ : Mem} {x0 x1 x2 : Option Value} {u : Int32} : X z 199 6 [x0, x1, x2] (.int u :: st) cu σ Q = (X z 199 7 [x0, x1, x2] (.long u.toInt64 :: st) cu σ Q) := by
  rw [x199_6]
  rfl
theorem v199_7 {z : P0} {st : List Value} {cu : Nat × Nat} {Q : Res → Mem → Prop} {K : Nat → Nat × Nat} {I : Nat → Nat → Int32} {R : Nat → Nat → Option Nat} {L : Nat → Nat → Int64} {sz : Nat} {ex : Bool} {x0 x1 x2 : Option Value} {u : Nat} {j : Int32} {v : Int64} : X z 199 7 [x0, x1, x2] (.long v :: .int j :: .ref u :: st) cu (K, I, R, L, sz, ex) Q = ((K u).1 = 21 ∧ vp_in j (K u).2 ∧ X z 199 8 [x0, x1, x2] (st) cu (K, I, R, up2 L u j.toNatClampNeg v, sz, ex) Q) := by
  rw [x199_7]
  rfl
theorem v199_8 {z : P0} {st : List Value} {cu : Nat × Nat} {Q : Res → Mem → Prop} {σ : Mem} {x0 x1 x2 : Option Value} : X z 199 8 [x0, x1, x2] (st) cu σ Q = (X z 199 14 [x0, x1, x2] (st) cu σ Q) := by
  rw [x199_8]
  rfl
theorem v199_11 {z : P0} {st : List Value} {cu : Nat × Nat} {Q : Res → Mem → Prop} {σ : Mem} {x0 x1 x2 : Option Value} {u : Nat} : X z 199 11 [x0, x1, x2] (.ref u :: st) cu σ Q = (cat2 x1 = false ∧ X z 199 12 [x0, x1, some (.ref u)] (st) cu σ Q) := by
  rw [x199_11]
  obtain ⟨K, I, R, L, sz, ex⟩ := σ
  exact i_astore_n.trans sl_2
theorem v199_12 {z : P0} {st : List Value} {cu : Nat × Nat} {Q : Res → Mem → Prop} {σ : Mem} {x0 x1 x2 : Option Value} : X z 199 12 [x0, x1, x2] (st) cu σ Q = (X z 199 13 [x0, x1, x2] (.int (nI 1) :: st) cu σ Q) := by
  rw [x199_12]
  rfl
theorem v199_13 {z : P0} {cu : Nat × Nat} {Q : Res → Mem → Prop} {σ : Mem} {x0 x1 x2 : Option Value} {v : Int32} : X z 199 13 [x0, x1, x2] ([.int v]) cu σ Q = (Q (.inl (some (.int v))) σ) := by
  rw [x199_13]
  exact propext ⟨fun h => h.2, fun h => ⟨trivial, h⟩⟩
theorem v199_14 {z : P0} {st : List Value} {cu : Nat × Nat} {Q : Res → Mem → Prop} {σ : Mem} {x0 x1 x2 : Option Value} : X z 199 14 [x0, x1, x2] (st) cu σ Q = (X z 199 15 [x0, x1, x2] (.int (nI 0) :: st) cu σ Q) := by
  rw [x199_14]
  rfl
theorem v199_15 {z : P0} {cu : Nat × Nat} {Q : Res → Mem → Prop} {σ : Mem} {x0 x1 x2 : Option Value} {v : Int32} : X z 199 15 [x0, x1, x2] ([.int v]) cu σ Q = (Q (.inl (some (.int v))) σ) := by
  rw [x199_15]
  exact propext ⟨fun h => h.2, fun h => ⟨trivial, h⟩⟩
theorem v200_0 {z : P0} {st : List Value} {cu : Nat × Nat} {Q : Res → Mem → Prop} {σ : Mem} {x0 x1 x3 : Option Value} {u : Nat} : X z 200 0 [x0, x1, some (.ref u), x3] (st) cu σ Q = (X z 200 1 [x0, x1, some (.ref u), x3] (.ref u :: st) cu σ Q) := by
  rw [x200_0]
  rfl
theorem v200_1 {z : P0} {st : List Value} {cu : Nat × Nat} {Q : Res → Mem → Prop} {σ : Mem} {x0 x1 x2 x3 : Option Value} : X z 200 1 [x0, x1, x2, x3] (st) cu σ Q = (X z 200 2 [x0, x1, x2, x3] (.int (nI 0) :: st) cu σ Q) := by
  rw [x200_1]
  rfl
theorem v200_2 {z : P0} {st : List Value} {cu : Nat × Nat} {Q : Res → Mem → Prop} {σ : Mem} {x1 x2 x3 : Option Value} {u : Nat} : X z 200 2 [some (.ref u), x1, x2, x3] (st) cu σ Q = (X z 200 3 [some (.ref u), x1, x2, x3] (.ref u :: st) cu σ Q) := by
  rw [x200_2]
  rfl
theorem v200_3 {z : P0} {st : List Value} {cu : Nat × Nat} {Q : Res → Mem → Prop} {σ : Mem} {x0 x2 x3 : Option Value} {u : Int32} : X z 200 3 [x0, some (.int u), x2, x3] (st) cu σ Q = (X z 200 4 [x0, some (.int u), x2, x3] (.int u :: st) cu σ Q) := by
  rw [x200_3]
  rfl
theorem u200_4 {z : P0} {ls : Lcs} {st : List Value} {c n : Nat} {K : Nat → Nat × Nat} {I : Nat → Nat → Int32} {R : Nat → Nat → Option Nat} {L : Nat → Nat → Int64} {sz : Nat} {ex : Bool} {Q : Res → Mem → Prop} {x : Nat} {a0 : Int32} : X z 200 4 ls (.int a0 :: .ref x :: st) (c, n) (K, I, R, L, sz, ex) Q = ((K x).1 = 110 ∧ wsum st ≤ 8 ∧ c + 1 ≤ 1 ∧ n + 6 ≤ 6 ∧ X z 66 0 [some (.ref x), some (.int a0)] [] (0, 0) (K, I, R, L, sz, ex) (aftr (X z) mT 200 4 ls st (c + 1, n + 6) Q)) := v200_4
theorem v200_7 {z : P0} {st : List Value} {cu : Nat × Nat} {Q : Res → Mem → Prop} {σ : Mem} {x0 x1 x2 x3 : Option Value} {u : Int32} : X z 200 7 [x0, x1, x2, x3] (.int u :: st) cu σ Q = (X z 200 8 [x0, x1, x2, x3] (.long u.toInt64 :: st) cu σ Q) := by
  rw [x200_7]
  rfl
theorem v200_8 {z : P0} {st : List Value} {cu : Nat × Nat} {Q : Res → Mem → Prop} {K : Nat → Nat × Nat} {I : Nat → Nat → Int32} {R : Nat → Nat → Option Nat} {L : Nat → Nat → Int64} {sz : Nat} {ex : Bool} {x0 x1 x2 x3 : Option Value} {u : Nat} {j : Int32} {v : Int64} : X z 200 8 [x0, x1, x2, x3] (.long v :: .int j :: .ref u :: st) cu (K, I, R, L, sz, ex) Q = ((K u).1 = 21 ∧ vp_in j (K u).2 ∧ X z 200 9 [x0, x1, x2, x3] (st) cu (K, I, R, up2 L u j.toNatClampNeg v, sz, ex) Q) := by
  rw [x200_8]
  rfl
theorem v200_9 {z : P0} {st : List Value} {cu : Nat × Nat} {Q : Res → Mem → Prop} {σ : Mem} {x0 x1 x2 x3 : Option Value} : X z 200 9 [x0, x1, x2, x3] (st) cu σ Q = (X z 200 18 [x0, x1, x2, x3] (st) cu σ Q) := by
  rw [x200_9]
  rfl
theorem v200_12 {z : P0} {st : List Value} {cu : Nat × Nat} {Q : Res → Mem → Prop} {σ : Mem} {x0 x1 x2 x3 : Option Value} {u : Nat} : X z 200 12 [x0, x1, x2, x3] (.ref u :: st) cu σ Q = (cat2 x2 = false ∧ X z 200 13 [x0, x1, x2, some (.ref u)] (st) cu σ Q) := by
  rw [x200_12]
  obtain ⟨K, I, R, L, sz, ex⟩ := σ
  exact i_astore_n.trans sl_3
theorem v200_13 {z : P0} {st : List Value} {cu : Nat × Nat} {Q : Res → Mem → Prop} {σ : Mem} {x0 x1 x2 x3 : Option Value} : X z 200 13 [x0, x1, x2, x3] (st) cu σ Q = (X z 200 14 [x0, x1, x2, x3] (.int (nI 1) :: st) cu σ Q) := by
  rw [x200_13]
  rfl
theorem v200_14 {z : P0} {cu : Nat × Nat} {Q : Res → Mem → Prop} {σ : Mem} {x0 x1 x2 x3 : Option Value} {v : Int32} : X z 200 14 [x0, x1, x2, x3] ([.int v]) cu σ Q = (Q (.inl (some (.int v))) σ) := by
  rw [x200_14]
  exact propext ⟨fun h => h.2, fun h => ⟨trivial, h⟩⟩
theorem v200_15 {z : P0} {st : List Value} {cu : Nat × Nat} {Q : Res → Mem → Prop} {σ : Mem} {x0 x1 x2 x3 : Option Value} {u : Nat} : X z 200 15 [x0, x1, x2, x3] (.ref u :: st) cu σ Q = (cat2 x2 = false ∧ X z 200 16 [x0, x1, x2, some (.ref u)] (st) cu σ Q) := by
  rw [x200_15]
  obtain ⟨K, I, R, L, sz, ex⟩ := σ
  exact i_astore_n.trans sl_3
theorem v200_16 {z : P0} {st : List Value} {cu : Nat × Nat} {Q : Res → Mem → Prop} {σ : Mem} {x0 x1 x2 x3 : Option Value} : X z 200 16 [x0, x1, x2, x3] (st) cu σ Q = (X z 200 17 [x0, x1, x2, x3] (.int (nI 2) :: st) cu σ Q) := by
  rw [x200_16]
  rfl
theorem v200_17 {z : P0} {cu : Nat × Nat} {Q : Res → Mem → Prop} {σ : Mem} {x0 x1 x2 x3 : Option Value} {v : Int32} : X z 200 17 [x0, x1, x2, x3] ([.int v]) cu σ Q = (Q (.inl (some (.int v))) σ) := by
  rw [x200_17]
  exact propext ⟨fun h => h.2, fun h => ⟨trivial, h⟩⟩
theorem v200_18 {z : P0} {st : List Value} {cu : Nat × Nat} {Q : Res → Mem → Prop} {σ : Mem} {x0 x1 x2 x3 : Option Value} : X z 200 18 [x0, x1, x2, x3] (st) cu σ Q = (X z 200 19 [x0, x1, x2, x3] (.int (nI 0) :: st) cu σ Q) := by
  rw [x200_18]
  rfl
theorem v200_19 {z : P0} {cu : Nat × Nat} {Q : Res → Mem → Prop} {σ : Mem} {x0 x1 x2 x3 : Option Value} {v : Int32} : X z 200 19 [x0, x1, x2, x3] ([.int v]) cu σ Q = (Q (.inl (some (.int v))) σ) := by
  rw [x200_19]
  exact propext ⟨fun h => h.2, fun h => ⟨trivial, h⟩⟩
theorem v201_0 {z : P0} {st : List Value} {cu : Nat × Nat} {Q : Res → Mem → Prop} {σ : Mem} {x0 x1 x3 : Option Value} {u : Nat} : X z 201 0 [x0, x1, some (.ref u), x3] (st) cu σ Q = (X z 201 1 [x0, x1, some (.ref u), x3] (.ref u :: st) cu σ Q) := by
  rw [x201_0]
  rfl
theorem v201_1 {z : P0} {st : List Value} {cu : Nat × Nat} {Q : Res → Mem → Prop} {σ : Mem} {x0 x1 x2 x3 : Option Value} : X z 201 1 [x0, x1, x2, x3] (st) cu σ Q = (X z 201 2 [x0, x1, x2, x3] (.int (nI 0) :: st) cu σ Q) := by
  rw [x201_1]
  rfl
theorem v201_2 {z : P0} {st : List Value} {cu : Nat × Nat} {Q : Res → Mem → Prop} {σ : Mem} {x1 x2 x3 : Option Value} {u : Nat} : X z 201 2 [some (.ref u), x1, x2, x3] (st) cu σ Q = (X z 201 3 [some (.ref u), x1, x2, x3] (.ref u :: st) cu σ Q) := by
  rw [x201_2]
  rfl
theorem v201_3 {z : P0} {st : List Value} {cu : Nat × Nat} {Q : Res → Mem → Prop} {σ : Mem} {x0 x2 x3 : Option Value} {u : Int32} : X z 201 3 [x0, some (.int u), x2, x3] (st) cu σ Q = (X z 201 4 [x0, some (.int u), x2, x3] (.int u :: st) cu σ Q) := by
  rw [x201_3]
  rfl
theorem u201_4 {z : P0} {ls : Lcs} {st : List Value} {c n : Nat} {K : Nat → Nat × Nat} {I : Nat → Nat → Int32} {R : Nat → Nat → Option Nat} {L : Nat → Nat → Int64} {sz : Nat} {ex : Bool} {Q : Res → Mem → Prop} {x : Nat} {a0 : Int32} : X z 201 4 ls (.int a0 :: .ref x :: st) (c, n) (K, I, R, L, sz, ex) Q = ((K x).1 = 110 ∧ wsum st ≤ 8 ∧ c + 1 ≤ 1 ∧ n + 6 ≤ 6 ∧ X z 67 0 [some (.ref x), some (.int a0)] [] (0, 0) (K, I, R, L, sz, ex) (aftr (X z) mT 201 4 ls st (c + 1, n + 6) Q)) := v201_4
theorem v201_7 {z : P0} {st : List Value} {cu : Nat × Nat} {Q : Res → Mem → Prop} {σ : Mem} {x0 x1 x2 x3 : Option Value} {u : Int32} : X z 201 7 [x0, x1, x2, x3] (.int u :: st) cu σ Q = (X z 201 8 [x0, x1, x2, x3] (.long u.toInt64 :: st) cu σ Q) := by
  rw [x201_7]
  rfl
theorem v201_8 {z : P0} {st : List Value} {cu : Nat × Nat} {Q : Res → Mem → Prop} {K : Nat → Nat × Nat} {I : Nat → Nat → Int32} {R : Nat → Nat → Option Nat} {L : Nat → Nat → Int64} {sz : Nat} {ex : Bool} {x0 x1 x2 x3 : Option Value} {u : Nat} {j : Int32} {v : Int64} : X z 201 8 [x0, x1, x2, x3] (.long v :: .int j :: .ref u :: st) cu (K, I, R, L, sz, ex) Q = ((K u).1 = 21 ∧ vp_in j (K u).2 ∧ X z 201 9 [x0, x1, x2, x3] (st) cu (K, I, R, up2 L u j.toNatClampNeg v, sz, ex) Q) := by
  rw [x201_8]
  rfl
theorem v201_9 {z : P0} {st : List Value} {cu : Nat × Nat} {Q : Res → Mem → Prop} {σ : Mem} {x0 x1 x2 x3 : Option Value} : X z 201 9 [x0, x1, x2, x3] (st) cu σ Q = (X z 201 18 [x0, x1, x2, x3] (st) cu σ Q) := by
  rw [x201_9]
  rfl
theorem v201_12 {z : P0} {st : List Value} {cu : Nat × Nat} {Q : Res → Mem → Prop} {σ : Mem} {x0 x1 x2 x3 : Option Value} {u : Nat} : X z 201 12 [x0, x1, x2, x3] (.ref u :: st) cu σ Q = (cat2 x2 = false ∧ X z 201 13 [x0, x1, x2, some (.ref u)] (st) cu σ Q) := by
  rw [x201_12]
  obtain ⟨K, I, R, L, sz, ex⟩ := σ
  exact i_astore_n.trans sl_3
theorem v201_13 {z : P0} {st : List Value} {cu : Nat × Nat} {Q : Res → Mem → Prop} {σ : Mem} {x0 x1 x2 x3 : Option Value} : X z 201 13 [x0, x1, x2, x3] (st) cu σ Q = (X z 201 14 [x0, x1, x2, x3] (.int (nI 1) :: st) cu σ Q) := by
  rw [x201_13]
  rfl
theorem v201_14 {z : P0} {cu : Nat × Nat} {Q : Res → Mem → Prop} {σ : Mem} {x0 x1 x2 x3 : Option Value} {v : Int32} : X z 201 14 [x0, x1, x2, x3] ([.int v]) cu σ Q = (Q (.inl (some (.int v))) σ) := by
  rw [x201_14]
  exact propext ⟨fun h => h.2, fun h => ⟨trivial, h⟩⟩
theorem v201_15 {z : P0} {st : List Value} {cu : Nat × Nat} {Q : Res → Mem → Prop} {σ : Mem} {x0 x1 x2 x3 : Option Value} {u : Nat} : X z 201 15 [x0, x1, x2, x3] (.ref u :: st) cu σ Q = (cat2 x2 = false ∧ X z 201 16 [x0, x1, x2, some (.ref u)] (st) cu σ Q) := by
  rw [x201_15]
  obtain ⟨K, I, R, L, sz, ex⟩ := σ
  exact i_astore_n.trans sl_3
theorem v201_16 {z : P0} {st : List Value} {cu : Nat × Nat} {Q : Res → Mem → Prop} {σ : Mem} {x0 x1 x2 x3 : Option Value} : X z 201 16 [x0, x1, x2, x3] (st) cu σ Q = (X z 201 17 [x0, x1, x2, x3] (.int (nI 2) :: st) cu σ Q) := by
  rw [x201_16]
  rfl
theorem v201_17 {z : P0} {cu : Nat × Nat} {Q : Res → Mem → Prop} {σ : Mem} {x0 x1 x2 x3 : Option Value} {v : Int32} : X z 201 17 [x0, x1, x2, x3] ([.int v]) cu σ Q = (Q (.inl (some (.int v))) σ) := by
  rw [x201_17]
  exact propext ⟨fun h => h.2, fun h => ⟨trivial, h⟩⟩
theorem v201_18 {z : P0} {st : List Value} {cu : Nat × Nat} {Q : Res → Mem → Prop} {σ : Mem} {x0 x1 x2 x3 : Option Value} : X z 201 18 [x0, x1, x2, x3] (st) cu σ Q = (X z 201 19 [x0, x1, x2, x3] (.int (nI 0) :: st) cu σ Q) := by
  rw [x201_18]
  rfl
theorem v201_19 {z : P0} {cu : Nat × Nat} {Q : Res → Mem → Prop} {σ : Mem} {x0 x1 x2 x3 : Option Value} {v : Int32} : X z 201 19 [x0, x1, x2, x3] ([.int v]) cu σ Q = (Q (.inl (some (.int v))) σ) := by
  rw [x201_19]
  exact propext ⟨fun h => h.2, fun h => ⟨trivial, h⟩⟩
theorem v202_0 {z : P0} {st : List Value} {cu : Nat × Nat} {Q : Res → Mem → Prop} {σ : Mem} {x0 x1 x3 : Option Value} {u : Nat} : X z 202 0 [x0, x1, some (.ref u), x3] (st) cu σ Q = (X z 202 1 [x0, x1, some (.ref u), x3] (.ref u :: st) cu σ Q) := by
  rw [x202_0]
  rfl
theorem v202_1 {z : P0} {st : List Value} {cu : Nat × Nat} {Q : Res → Mem → Prop} {σ : Mem} {x0 x1 x2 x3 : Option Value} : X z 202 1 [x0, x1, x2, x3] (st) cu σ Q = (X z 202 2 [x0, x1, x2, x3] (.int (nI 0) :: st) cu σ Q) := by
  rw [x202_1]
  rfl
theorem v202_2 {z : P0} {st : List Value} {cu : Nat × Nat} {Q : Res → Mem → Prop} {σ : Mem} {x1 x2 x3 : Option Value} {u : Nat} : X z 202 2 [some (.ref u), x1, x2, x3] (st) cu σ Q = (X z 202 3 [some (.ref u), x1, x2, x3] (.ref u :: st) cu σ Q) := by
  rw [x202_2]
  rfl
theorem v202_3 {z : P0} {st : List Value} {cu : Nat × Nat} {Q : Res → Mem → Prop} {σ : Mem} {x0 x2 x3 : Option Value} {u : Int32} : X z 202 3 [x0, some (.int u), x2, x3] (st) cu σ Q = (X z 202 4 [x0, some (.int u), x2, x3] (.int u :: st) cu σ Q) := by
  rw [x202_3]
  rfl
theorem u202_4 {z : P0} {ls : Lcs} {st : List Value} {c n : Nat} {K : Nat → Nat × Nat} {I : Nat → Nat → Int32} {R : Nat → Nat → Option Nat} {L : Nat → Nat → Int64} {sz : Nat} {ex : Bool} {Q : Res → Mem → Prop} {x : Nat} {a0 : Int32} : X z 202 4 ls (.int a0 :: .ref x :: st) (c, n) (K, I, R, L, sz, ex) Q = ((K x).1 = 110 ∧ wsum st ≤ 8 ∧ c + 1 ≤ 1 ∧ n + 6 ≤ 6 ∧ X z 69 0 [some (.ref x), some (.int a0)] [] (0, 0) (K, I, R, L, sz, ex) (aftr (X z) mT 202 4 ls st (c + 1, n + 6) Q)) := v202_4
theorem v202_7 {z : P0} {st : List Value} {cu : Nat × Nat} {Q : Res → Mem → Prop} {σ : Mem} {x0 x1 x2 x3 : Option Value} {u : Int32} : X z 202 7 [x0, x1, x2, x3] (.int u :: st) cu σ Q = (X z 202 8 [x0, x1, x2, x3] (.long u.toInt64 :: st) cu σ Q) := by
  rw [x202_7]
  rfl
theorem v202_8 {z : P0} {st : List Value} {cu : Nat × Nat} {Q : Res → Mem → Prop} {K : Nat → Nat × Nat} {I : Nat → Nat → Int32} {R : Nat → Nat → Option Nat} {L : Nat → Nat → Int64} {sz : Nat} {ex : Bool} {x0 x1 x2 x3 : Option Value} {u : Nat} {j : Int32} {v : Int64} : X z 202 8 [x0, x1, x2, x3] (.long v :: .int j :: .ref u :: st) cu (K, I, R, L, sz, ex) Q = ((K u).1 = 21 ∧ vp_in j (K u).2 ∧ X z 202 9 [x0, x1, x2, x3] (st) cu (K, I, R, up2 L u j.toNatClampNeg v, sz, ex) Q) := by
  rw [x202_8]
  rfl
theorem v202_9 {z : P0} {st : List Value} {cu : Nat × Nat} {Q : Res → Mem → Prop} {σ : Mem} {x0 x1 x2 x3 : Option Value} : X z 202 9 [x0, x1, x2, x3] (st) cu σ Q = (X z 202 15 [x0, x1, x2, x3] (st) cu σ Q) := by
  rw [x202_9]
  rfl
theorem v202_12 {z : P0} {st : List Value} {cu : Nat × Nat} {Q : Res → Mem → Prop} {σ : Mem} {x0 x1 x2 x3 : Option Value} {u : Nat} : X z 202 12 [x0, x1, x2, x3] (.ref u :: st) cu σ Q = (cat2 x2 = false ∧ X z 202 13 [x0, x1, x2, some (.ref u)] (st) cu σ Q) := by
  rw [x202_12]
  obtain ⟨K, I, R, L, sz, ex⟩ := σ
  exact i_astore_n.trans sl_3
theorem v202_13 {z : P0} {st : List Value} {cu : Nat × Nat} {Q : Res → Mem → Prop} {σ : Mem} {x0 x1 x2 x3 : Option Value} : X z 202 13 [x0, x1, x2, x3] (st) cu σ Q = (X z 202 14 [x0, x1, x2, x3] (.int (nI 1) :: st) cu σ Q) := by
  rw [x202_13]
  rfl
theorem v202_14 {z : P0} {cu : Nat × Nat} {Q : Res → Mem → Prop} {σ : Mem} {x0 x1 x2 x3 : Option Value} {v : Int32} : X z 202 14 [x0, x1, x2, x3] ([.int v]) cu σ Q = (Q (.inl (some (.int v))) σ) := by
  rw [x202_14]
  exact propext ⟨fun h => h.2, fun h => ⟨trivial, h⟩⟩
theorem v202_15 {z : P0} {st : List Value} {cu : Nat × Nat} {Q : Res → Mem → Prop} {σ : Mem} {x0 x1 x2 x3 : Option Value} : X z 202 15 [x0, x1, x2, x3] (st) cu σ Q = (X z 202 16 [x0, x1, x2, x3] (.int (nI 0) :: st) cu σ Q) := by
  rw [x202_15]
  rfl
theorem v202_16 {z : P0} {cu : Nat × Nat} {Q : Res → Mem → Prop} {σ : Mem} {x0 x1 x2 x3 : Option Value} {v : Int32} : X z 202 16 [x0, x1, x2, x3] ([.int v]) cu σ Q = (Q (.inl (some (.int v))) σ) := by
  rw [x202_16]
  exact propext ⟨fun h => h.2, fun h => ⟨trivial, h⟩⟩
theorem v203_0 {z : P0} {st : List Value} {cu : Nat × Nat} {Q : Res → Mem → Prop} {σ : Mem} {x0 x2 : Option Value} {u : Nat} : X z 203 0 [x0, some (.ref u), x2] (st) cu σ Q = (X z 203 1 [x0, some (.ref u), x2] (.ref u :: st) cu σ Q) := by
  rw [x203_0]
  rfl
theorem v203_1 {z : P0} {st : List Value} {cu : Nat × Nat} {Q : Res → Mem → Prop} {σ : Mem} {x0 x1 x2 : Option Value} : X z 203 1 [x0, x1, x2] (st) cu σ Q = (X z 203 2 [x0, x1, x2] (.int (nI 0) :: st) cu σ Q) := by
  rw [x203_1]
  rfl
theorem v203_2 {z : P0} {st : List Value} {cu : Nat × Nat} {Q : Res → Mem → Prop} {σ : Mem} {x1 x2 : Option Value} {u : Nat} : X z 203 2 [some (.ref u), x1, x2] (st) cu σ Q = (X z 203 3 [some (.ref u), x1, x2] (.ref u :: st) cu σ Q) := by
  rw [x203_2]
  rfl
theorem u203_3 {z : P0} {ls : Lcs} {st : List Value} {c n : Nat} {K : Nat → Nat × Nat} {I : Nat → Nat → Int32} {R : Nat → Nat → Option Nat} {L : Nat → Nat → Int64} {sz : Nat} {ex : Bool} {Q : Res → Mem → Prop} {x : Nat} : X z 203 3 ls (.ref x :: st) (c, n) (K, I, R, L, sz, ex) Q = ((K x).1 = 110 ∧ wsum st ≤ 8 ∧ c + 1 ≤ 1 ∧ n + 6 ≤ 6 ∧ X z 70 0 [some (.ref x)] [] (0, 0) (K, I, R, L, sz, ex) (aftr (X z) mT 203 3 ls st (c + 1, n + 6) Q)) := v203_3
theorem v203_6 {z : P0} {st : List Value} {cu : Nat × Nat} {Q : Res → Mem → Prop} {σ : Mem} {x0 x1 x2 : Option Value} {u : Int32} : X z 203 6 [x0, x1, x2] (.int u :: st) cu σ Q = (X z 203 7 [x0, x1, x2] (.long u.toInt64 :: st) cu σ Q) := by
  rw [x203_6]
  rfl
theorem v203_7 {z : P0} {st : List Value} {cu : Nat × Nat} {Q : Res → Mem → Prop} {K : Nat → Nat × Nat} {I : Nat → Nat → Int32} {R : Nat → Nat → Option Nat} {L : Nat → Nat → Int64} {sz : Nat} {ex : Bool} {x0 x1 x2 : Option Value} {u : Nat} {j : Int32} {v : Int64} : X z 203 7 [x0, x1, x2] (.long v :: .int j :: .ref u :: st) cu (K, I, R, L, sz, ex) Q = ((K u).1 = 21 ∧ vp_in j (K u).2 ∧ X z 203 8 [x0, x1, x2] (st) cu (K, I, R, up2 L u j.toNatClampNeg v, sz, ex) Q) := by
  rw [x203_7]
  rfl
theorem v203_8 {z : P0} {st : List Value} {cu : Nat × Nat} {Q : Res → Mem → Prop} {σ : Mem} {x0 x1 x2 : Option Value} : X z 203 8 [x0, x1, x2] (st) cu σ Q = (X z 203 14 [x0, x1, x2] (st) cu σ Q) := by
  rw [x203_8]
  rfl
theorem v203_11 {z : P0} {st : List Value} {cu : Nat × Nat} {Q : Res → Mem → Prop} {σ : Mem} {x0 x1 x2 : Option Value} {u : Nat} : X z 203 11 [x0, x1, x2] (.ref u :: st) cu σ Q = (cat2 x1 = false ∧ X z 203 12 [x0, x1, some (.ref u)] (st) cu σ Q) := by
  rw [x203_11]
  obtain ⟨K, I, R, L, sz, ex⟩ := σ
  exact i_astore_n.trans sl_2
theorem v203_12 {z : P0} {st : List Value} {cu : Nat × Nat} {Q : Res → Mem → Prop} {σ : Mem} {x0 x1 x2 : Option Value} : X z 203 12 [x0, x1, x2] (st) cu σ Q = (X z 203 13 [x0, x1, x2] (.int (nI 1) :: st) cu σ Q) := by
  rw [x203_12]
  rfl
theorem v203_13 {z : P0} {cu : Nat × Nat} {Q : Res → Mem → Prop} {σ : Mem} {x0 x1 x2 : Option Value} {v : Int32} : X z 203 13 [x0, x1, x2] ([.int v]) cu σ Q = (Q (.inl (some (.int v))) σ) := by
  rw [x203_13]
  exact propext ⟨fun h => h.2, fun h => ⟨trivial, h⟩⟩
theorem v203_14 {z : P0} {st : List Value} {cu : Nat × Nat} {Q : Res → Mem → Prop} {σ : Mem} {x0 x1 x2 : Option Value} : X z 203 14 [x0, x1, x2] (st) cu σ Q = (X z 203 15 [x0, x1, x2] (.int (nI 0) :: st) cu σ Q) := by
  rw [x203_14]
  rfl
theorem v203_15 {z : P0} {cu : Nat × Nat} {Q : Res → Mem → Prop} {σ : Mem} {x0 x1 x2 : Option Value} {v : Int32} : X z 203 15 [x0, x1, x2] ([.int v]) cu σ Q = (Q (.inl (some (.int v))) σ) := by
  rw [x203_15]
  exact propext ⟨fun h => h.2, fun h => ⟨trivial, h⟩⟩
theorem v204_0 {z : P0} {st : List Value} {cu : Nat × Nat} {Q : Res → Mem → Prop} {σ : Mem} {x0 x1 x2 x4 : Option Value} {u : Nat} : X z 204 0 [x0, x1, x2, some (.ref u), x4] (st) cu σ Q = (X z 204 1 [x0, x1, x2, some (.ref u), x4] (.ref u :: st) cu σ Q) := by
  rw [x204_0]
  rfl
theorem v204_1 {z : P0} {st : List Value} {cu : Nat × Nat} {Q : Res → Mem → Prop} {σ : Mem} {x0 x1 x2 x3 x4 : Option Value} : X z 204 1 [x0, x1, x2, x3, x4] (st) cu σ Q = (X z 204 2 [x0, x1, x2, x3, x4] (.int (nI 0) :: st) cu σ Q) := by
  rw [x204_1]
  rfl
theorem v204_2 {z : P0} {st : List Value} {cu : Nat × Nat} {Q : Res → Mem → Prop} {σ : Mem} {x1 x2 x3 x4 : Option Value} {u : Nat} : X z 204 2 [some (.ref u), x1, x2, x3, x4] (st) cu σ Q = (X z 204 3 [some (.ref u), x1, x2, x3, x4] (.ref u :: st) cu σ Q) := by
  rw [x204_2]
  rfl
theorem v204_3 {z : P0} {st : List Value} {cu : Nat × Nat} {Q : Res → Mem → Prop} {σ : Mem} {x0 x2 x3 x4 : Option Value} {u : Int32} : X z 204 3 [x0, some (.int u), x2, x3, x4] (st) cu σ Q = (X z 204 4 [x0, some (.int u), x2, x3, x4] (.int u :: st) cu σ Q) := by
  rw [x204_3]
  rfl
theorem v204_4 {z : P0} {st : List Value} {cu : Nat × Nat} {Q : Res → Mem → Prop} {σ : Mem} {x0 x1 x3 x4 : Option Value} {u : Int32} : X z 204 4 [x0, x1, some (.int u), x3, x4] (st) cu σ Q = (X z 204 5 [x0, x1, some (.int u), x3, x4] (.int u :: st) cu σ Q) := by
  rw [x204_4]
  rfl
theorem u204_5 {z : P0} {ls : Lcs} {st : List Value} {c n : Nat} {K : Nat → Nat × Nat} {I : Nat → Nat → Int32} {R : Nat → Nat → Option Nat} {L : Nat → Nat → Int64} {sz : Nat} {ex : Bool} {Q : Res → Mem → Prop} {x : Nat} {a0 : Int32} {a1 : Int32} : X z 204 5 ls (.int a1 :: .int a0 :: .ref x :: st) (c, n) (K, I, R, L, sz, ex) Q = ((K x).1 = 110 ∧ wsum st ≤ 8 ∧ c + 1 ≤ 1 ∧ n + 6 ≤ 6 ∧ X z 71 0 [some (.ref x), some (.int a0), some (.int a1)] [] (0, 0) (K, I, R, L, sz, ex) (aftr (X z) mT 204 5 ls st (c + 1, n + 6) Q)) := v204_5
theorem v204_8 {z : P0} {st : List Value} {cu : Nat × Nat} {Q : Res → Mem → Prop} {σ : Mem} {x0 x1 x2 x3 x4 : Option Value} {u : Int32} : X z 204 8 [x0, x1, x2, x3, x4] (.int u :: st) cu σ Q = (X z 204 9 [x0, x1, x2, x3, x4] (.long u.toInt64 :: st) cu σ Q) := by
  rw [x204_8]
  rfl
theorem v204_9 {z : P0} {st : List Value} {cu : Nat × Nat} {Q : Res → Mem → Prop} {K : Nat → Nat × Nat} {I : Nat → Nat → Int32} {R : Nat → Nat → Option Nat} {L : Nat → Nat → Int64} {sz : Nat} {ex : Bool} {x0 x1 x2 x3 x4 : Option Value} {u : Nat} {j : Int32} {v : Int64} : X z 204 9 [x0, x1, x2, x3, x4] (.long v :: .int j :: .ref u :: st) cu (K, I, R, L, sz, ex) Q = ((K u).1 = 21 ∧ vp_in j (K u).2 ∧ X z 204 10 [x0, x1, x2, x3, x4] (st) cu (K, I, R, up2 L u j.toNatClampNeg v, sz, ex) Q) := by
  rw [x204_9]
  rfl
theorem v204_10 {z : P0} {st : List Value} {cu : Nat × Nat} {Q : Res → Mem → Prop} {σ : Mem} {x0 x1 x2 x3 x4 : Option Value} : X z 204 10 [x0, x1, x2, x3, x4] (st) cu σ Q = (X z 204 21 [x0, x1, x2, x3, x4] (st) cu σ Q) := by
  rw [x204_10]
  rfl
theorem v204_13 {z : P0} {st : List Value} {cu : Nat × Nat} {Q : Res → Mem → Prop} {σ : Mem} {x0 x1 x2 x3 x4 : Option Value} {u : Nat} : X z 204 13 [x0, x1, x2, x3, x4] (.ref u :: st) cu σ Q = (cat2 x3 = false ∧ X z 204 15 [x0, x1, x2, x3, some (.ref u)] (st) cu σ Q) := by
  rw [x204_13]
  obtain ⟨K, I, R, L, sz, ex⟩ := σ
  exact i_astore.trans sl_4
theorem v204_15 {z : P0} {st : List Value} {cu : Nat × Nat} {Q : Res → Mem → Prop} {σ : Mem} {x0 x1 x2 x3 x4 : Option Value} : X z 204 15 [x0, x1, x2, x3, x4] (st) cu σ Q = (X z 204 16 [x0, x1, x2, x3, x4] (.int (nI 1) :: st) cu σ Q) := by
  rw [x204_15]
  rfl
theorem v204_16 {z : P0} {cu : Nat × Nat} {Q : Res → Mem → Prop} {σ : Mem} {x0 x1 x2 x3 x4 : Option Value} {v : Int32} : X z 204 16 [x0, x1, x2, x3, x4] ([.int v]) cu σ Q = (Q (.inl (some (.int v))) σ) := by
  rw [x204_16]
  exact propext ⟨fun h => h.2, fun h => ⟨trivial, h⟩⟩
theorem v204_17 {z : P0} {st : List Value} {cu : Nat × Nat} {Q : Res → Mem → Prop} {σ : Mem} {x0 x1 x2 x3 x4 : Option Value} {u : Nat} : X z 204 17 [x0, x1, x2, x3, x4] (.ref u :: st) cu σ Q = (cat2 x3 = false ∧ X z 204 19 [x0, x1, x2, x3, some (.ref u)] (st) cu σ Q) := by
  rw [x204_17]
  obtain ⟨K, I, R, L, sz, ex⟩ := σ
  exact i_astore.trans sl_4
theorem v204_19 {z : P0} {st : List Value} {cu : Nat × Nat} {Q : Res → Mem → Prop} {σ : Mem} {x0 x1 x2 x3 x4 : Option Value} : X z 204 19 [x0, x1, x2, x3, x4] (st) cu σ Q = (X z 204 20 [x0, x1, x2, x3, x4] (.int (nI 2) :: st) cu σ Q) := by
  rw [x204_19]
  rfl
theorem v204_20 {z : P0} {cu : Nat × Nat} {Q : Res → Mem → Prop} {σ : Mem} {x0 x1 x2 x3 x4 : Option Value} {v : Int32} : X z 204 20 [x0, x1, x2, x3, x4] ([.int v]) cu σ Q = (Q (.inl (some (.int v))) σ) := by
  rw [x204_20]
  exact propext ⟨fun h => h.2, fun h => ⟨trivial, h⟩⟩
theorem v204_21 {z : P0} {st : List Value} {cu : Nat × Nat} {Q : Res → Mem → Prop} {σ : Mem} {x0 x1 x2 x3 x4 : Option Value} : X z 204 21 [x0, x1, x2, x3, x4] (st) cu σ Q = (X z 204 22 [x0, x1, x2, x3, x4] (.int (nI 0) :: st) cu σ Q) := by
  rw [x204_21]
  rfl
theorem v204_22 {z : P0} {cu : Nat × Nat} {Q : Res → Mem → Prop} {σ : Mem} {x0 x1 x2 x3 x4 : Option Value} {v : Int32} : X z 204 22 [x0, x1, x2, x3, x4] ([.int v]) cu σ Q = (Q (.inl (some (.int v))) σ) := by
  rw [x204_22]
  exact propext ⟨fun h => h.2, fun h => ⟨trivial, h⟩⟩
theorem v205_0 {z : P0} {st : List Value} {cu : Nat × Nat} {Q : Res → Mem → Prop} {σ : Mem} {x0 x1 x2 x4 : Option Value} {u : Nat} : X z 205 0 [x0, x1, x2, some (.ref u), x4] (st) cu σ Q = (X z 205 1 [x0, x1, x2, some (.ref u), x4] (.ref u :: st) cu σ Q) := by
  rw [x205_0]
  rfl
theorem v205_1 {z : P0} {st : List Value} {cu : Nat × Nat} {Q : Res → Mem → Prop} {σ : Mem} {x0 x1 x2 x3 x4 : Option Value} : X z 205 1 [x0, x1, x2, x3, x4] (st) cu σ Q = (X z 205 2 [x0, x1, x2, x3, x4] (.int (nI 0) :: st) cu σ Q) := by
  rw [x205_1]
  rfl
theorem v205_2 {z : P0} {st : List Value} {cu : Nat × Nat} {Q : Res → Mem → Prop} {σ : Mem} {x1 x2 x3 x4 : Option Value} {u : Nat} : X z 205 2 [some (.ref u), x1, x2, x3, x4] (st) cu σ Q = (X z 205 3 [some (.ref u), x1, x2, x3, x4] (.ref u :: st) cu σ Q) := by
  rw [x205_2]
  rfl
theorem v205_3 {z : P0} {st : List Value} {cu : Nat × Nat} {Q : Res → Mem → Prop} {σ : Mem} {x0 x2 x3 x4 : Option Value} {u : Int32} : X z 205 3 [x0, some (.int u), x2, x3, x4] (st) cu σ Q = (X z 205 4 [x0, some (.int u), x2, x3, x4] (.int u :: st) cu σ Q) := by
  rw [x205_3]
  rfl
theorem v205_4 {z : P0} {st : List Value} {cu : Nat × Nat} {Q : Res → Mem → Prop} {σ : Mem} {x0 x1 x3 x4 : Option Value} {u : Int32} : X z 205 4 [x0, x1, some (.int u), x3, x4] (st) cu σ Q = (X z 205 5 [x0, x1, some (.int u), x3, x4] (.int u :: st) cu σ Q) := by
  rw [x205_4]
  rfl
theorem u205_5 {z : P0} {ls : Lcs} {st : List Value} {c n : Nat} {K : Nat → Nat × Nat} {I : Nat → Nat → Int32} {R : Nat → Nat → Option Nat} {L : Nat → Nat → Int64} {sz : Nat} {ex : Bool} {Q : Res → Mem → Prop} {x : Nat} {a0 : Int32} {a1 : Int32} : X z 205 5 ls (.int a1 :: .int a0 :: .ref x :: st) (c, n) (K, I, R, L, sz, ex) Q = ((K x).1 = 110 ∧ wsum st ≤ 8 ∧ c + 1 ≤ 1 ∧ n + 6 ≤ 6 ∧ X z 72 0 [some (.ref x), some (.int a0), some (.int a1)] [] (0, 0) (K, I, R, L, sz, ex) (aftr (X z) mT 205 5 ls st (c + 1, n + 6) Q)) := v205_5
theorem v205_8 {z : P0} {st : List Value} {cu : Nat × Nat} {Q : Res → Mem → Prop} {σ : Mem} {x0 x1 x2 x3 x4 : Option Value} {u : Int32} : X z 205 8 [x0, x1, x2, x3, x4] (.int u :: st) cu σ Q = (X z 205 9 [x0, x1, x2, x3, x4] (.long u.toInt64 :: st) cu σ Q) := by
  rw [x205_8]
  rfl
theorem v205_9 {z : P0} {st : List Value} {cu : Nat × Nat} {Q : Res → Mem → Prop} {K : Nat → Nat × Nat} {I : Nat → Nat → Int32} {R : Nat → Nat → Option Nat} {L : Nat → Nat → Int64} {sz : Nat} {ex : Bool} {x0 x1 x2 x3 x4 : Option Value} {u : Nat} {j : Int32} {v : Int64} : X z 205 9 [x0, x1, x2, x3, x4] (.long v :: .int j :: .ref u :: st) cu (K, I, R, L, sz, ex) Q = ((K u).1 = 21 ∧ vp_in j (K u).2 ∧ X z 205 10 [x0, x1, x2, x3, x4] (st) cu (K, I, R, up2 L u j.toNatClampNeg v, sz, ex) Q) := by
  rw [x205_9]
  rfl
theorem v205_10 {z : P0} {st : List Value} {cu : Nat × Nat} {Q : Res → Mem → Prop} {σ : Mem} {x0 x1 x2 x3 x4 : Option Value} : X z 205 10 [x0, x1, x2, x3, x4] (st) cu σ Q = (X z 205 17 [x0, x1, x2, x3, x4] (st) cu σ Q) := by
  rw [x205_10]
  rfl
theorem v205_13 {z : P0} {st : List Value} {cu : Nat × Nat} {Q : Res → Mem → Prop} {σ : Mem} {x0 x1 x2 x3 x4 : Option Value} {u : Nat} : X z 205 13 [x0, x1, x2, x3, x4] (.ref u :: st) cu σ Q = (cat2 x3 = false ∧ X z 205 15 [x0, x1, x2, x3, some (.ref u)] (st) cu σ Q) := by
  rw [x205_13]
  obtain ⟨K, I, R, L, sz, ex⟩ := σ
  exact i_astore.trans sl_4
theorem v205_15 {z : P0} {st : List Value} {cu : Nat × Nat} {Q : Res → Mem → Prop} {σ : Mem} {x0 x1 x2 x3 x4 : Option Value} : X z 205 15 [x0, x1, x2, x3, x4] (st) cu σ Q = (X z 205 16 [x0, x1, x2, x3, x4] (.int (nI 1) :: st) cu σ Q) := by
  rw [x205_15]
  rfl
theorem v205_16 {z : P0} {cu : Nat × Nat} {Q : Res → Mem → Prop} {σ : Mem} {x0 x1 x2 x3 x4 : Option Value} {v : Int32} : X z 205 16 [x0, x1, x2, x3, x4] ([.int v]) cu σ Q = (Q (.inl (some (.int v))) σ) := by
  rw [x205_16]
  exact propext ⟨fun h => h.2, fun h => ⟨trivial, h⟩⟩
theorem v205_17 {z : P0} {st : List Value} {cu : Nat × Nat} {Q : Res → Mem → Prop} {σ : Mem} {x0 x1 x2 x3 x4 : Option Value} : X z 205 17 [x0, x1, x2, x3, x4] (st) cu σ Q = (X z 205 18 [x0, x1, x2, x3, x4] (.int (nI 0) :: st) cu σ Q) := by
  rw [x205_17]
  rfl
theorem v205_18 {z : P0} {cu : Nat × Nat} {Q : Res → Mem → Prop} {σ : Mem} {x0 x1 x2 x3 x4 : Option Value} {v : Int32} : X z 205 18 [x0, x1, x2, x3, x4] ([.int v]) cu σ Q = (Q (.inl (some (.int v))) σ) := by
  rw [x205_18]
  exact propext ⟨fun h => h.2, fun h => ⟨trivial, h⟩⟩
theorem v206_0 {z : P0} {st : List Value} {cu : Nat × Nat} {Q : Res → Mem → Prop} {σ : Mem} {x0 x1 x2 x4 : Option Value} {u : Nat} : X z 206 0 [x0, x1, x2, some (.ref u), x4] (st) cu σ Q = (X z 206 1 [x0, x1, x2, some (.ref u), x4] (.ref u :: st) cu σ Q) := by
  rw [x206_0]
  rfl
theorem v206_1 {z : P0} {st : List Value} {cu : Nat × Nat} {Q : Res → Mem → Prop} {σ : Mem} {x0 x1 x2 x3 x4 : Option Value} : X z 206 1 [x0, x1, x2, x3, x4] (st) cu σ Q = (X z 206 2 [x0, x1, x2, x3, x4] (.int (nI 0) :: st) cu σ Q) := by
  rw [x206_1]
  rfl
theorem v206_2 {z : P0} {st : List Value} {cu : Nat × Nat} {Q : Res → Mem → Prop} {σ : Mem} {x1 x2 x3 x4 : Option Value} {u : Nat} : X z 206 2 [some (.ref u), x1, x2, x3, x4] (st) cu σ Q = (X z 206 3 [some (.ref u), x1, x2, x3, x4] (.ref u :: st) cu σ Q) := by
  rw [x206_2]
  rfl
theorem v206_3 {z : P0} {st : List Value} {cu : Nat × Nat} {Q : Res → Mem → Prop} {σ : Mem} {x0 x2 x3 x4 : Option Value} {u : Int32} : X z 206 3 [x0, some (.int u), x2, x3, x4] (st) cu σ Q = (X z 206 4 [x0, some (.int u), x2, x3, x4] (.int u :: st) cu σ Q) := by
  rw [x206_3]
  rfl
theorem v206_4 {z : P0} {st : List Value} {cu : Nat × Nat} {Q : Res → Mem → Prop} {σ : Mem} {x0 x1 x3 x4 : Option Value} {u : Int32} : X z 206 4 [x0, x1, some (.int u), x3, x4] (st) cu σ Q = (X z 206 5 [x0, x1, some (.int u), x3, x4] (.int u :: st) cu σ Q) := by
  rw [x206_4]
  rfl
theorem u206_5 {z : P0} {ls : Lcs} {st : List Value} {c n : Nat} {K : Nat → Nat × Nat} {I : Nat → Nat → Int32} {R : Nat → Nat → Option Nat} {L : Nat → Nat → Int64} {sz : Nat} {ex : Bool} {Q : Res → Mem → Prop} {x : Nat} {a0 : Int32} {a1 : Int32} : X z 206 5 ls (.int a1 :: .int a0 :: .ref x :: st) (c, n) (K, I, R, L, sz, ex) Q = ((K x).1 = 110 ∧ wsum st ≤ 8 ∧ c + 1 ≤ 1 ∧ n + 6 ≤ 6 ∧ X z 73 0 [some (.ref x), some (.int a0), some (.int a1), none] [] (0, 0) (K, I, R, L, sz, ex) (aftr (X z) mT 206 5 ls st (c + 1, n + 6) Q)) := v206_5
theorem v206_8 {z : P0} {st : List Value} {cu : Nat × Nat} {Q : Res → Mem → Prop} {σ : Mem} {x0 x1 x2 x3 x4 : Option Value} {u : Int32} : X z 206 8 [x0, x1, x2, x3, x4] (.int u :: st) cu σ Q = (X z 206 9 [x0, x1, x2, x3, x4] (.long u.toInt64 :: st) cu σ Q) := by
  rw [x206_8]
  rfl
theorem v206_9 {z : P0} {st : List Value} {cu : Nat × Nat} {Q : Res → Mem → Prop} {K : Nat → Nat × Nat} {I : Nat → Nat → Int32} {R : Nat → Nat → Option Nat} {L : Nat → Nat → Int64} {sz : Nat} {ex : Bool} {x0 x1 x2 x3 x4 : Option Value} {u : Nat} {j : Int32} {v : Int64} : X z 206 9 [x0, x1, x2, x3, x4] (.long v :: .int j :: .ref u :: st) cu (K, I, R, L, sz, ex) Q = ((K u).1 = 21 ∧ vp_in j (K u).2 ∧ X z 206 10 [x0, x1, x2, x3, x4] (st) cu (K, I, R, up2 L u j.toNatClampNeg v, sz, ex) Q) := by
  rw [x206_9]
  rfl
theorem v206_10 {z : P0} {st : List Value} {cu : Nat × Nat} {Q : Res → Mem → Prop} {σ : Mem} {x0 x1 x2 x3 x4 : Option Value} : X z 206 10 [x0, x1, x2, x3, x4] (st) cu σ Q = (X z 206 21 [x0, x1, x2, x3, x4] (st) cu σ Q) := by
  rw [x206_10]
  rfl
theorem v206_13 {z : P0} {st : List Value} {cu : Nat × Nat} {Q : Res → Mem → Prop} {σ : Mem} {x0 x1 x2 x3 x4 : Option Value} {u : Nat} : X z 206 13 [x0, x1, x2, x3, x4] (.ref u :: st) cu σ Q = (cat2 x3 = false ∧ X z 206 15 [x0, x1, x2, x3, some (.ref u)] (st) cu σ Q) := by
  rw [x206_13]
  obtain ⟨K, I, R, L, sz, ex⟩ := σ
  exact i_astore.trans sl_4
theorem v206_15 {z : P0} {st : List Value} {cu : Nat × Nat} {Q : Res → Mem → Prop} {σ : Mem} {x0 x1 x2 x3 x4 : Option Value} : X z 206 15 [x0, x1, x2, x3, x4] (st) cu σ Q = (X z 206 16 [x0, x1, x2, x3, x4] (.int (nI 1) :: st) cu σ Q) := by
  rw [x206_15]
  rfl
theorem v206_16 {z : P0} {cu : Nat × Nat} {Q : Res → Mem → Prop} {σ : Mem} {x0 x1 x2 x3 x4 : Option Value} {v : Int32} : X z 206 16 [x0, x1, x2, x3, x4] ([.int v]) cu σ Q = (Q (.inl (some (.int v))) σ) := by
  rw [x206_16]
  exact propext ⟨fun h => h.2, fun h => ⟨trivial, h⟩⟩
theorem v206_17 {z : P0} {st : List Value} {cu : Nat × Nat} {Q : Res → Mem → Prop} {σ : Mem} {x0 x1 x2 x3 x4 : Option Value} {u : Nat} : X z 206 17 [x0, x1, x2, x3, x4] (.ref u :: st) cu σ Q = (cat2 x3 = false ∧ X z 206 19 [x0, x1, x2, x3, some (.ref u)] (st) cu σ Q) := by
  rw [x206_17]
  obtain ⟨K, I, R, L, sz, ex⟩ := σ
  exact i_astore.trans sl_4
theorem v206_19 {z : P0} {st : List Value} {cu : Nat × Nat} {Q : Res → Mem → Prop} {σ : Mem} {x0 x1 x2 x3 x4 : Option Value} : X z 206 19 [x0, x1, x2, x3, x4] (st) cu σ Q = (X z 206 20 [x0, x1, x2, x3, x4] (.int (nI 2) :: st) cu σ Q) := by
  rw [x206_19]
  rfl
theorem v206_20 {z : P0} {cu : Nat × Nat} {Q : Res → Mem → Prop} {σ : Mem} {x0 x1 x2 x3 x4 : Option Value} {v : Int32} : X z 206 20 [x0, x1, x2, x3, x4] ([.int v]) cu σ Q = (Q (.inl (some (.int v))) σ) := by
  rw [x206_20]
  exact propext ⟨fun h => h.2, fun h => ⟨trivial, h⟩⟩
theorem v206_21 {z : P0} {st : List Value} {cu : Nat × Nat} {Q : Res → Mem → Prop} {σ : Mem} {x0 x1 x2 x3 x4 : Option Value} : X z 206 21 [x0, x1, x2, x3, x4] (st) cu σ Q = (X z 206 22 [x0, x1, x2, x3, x4] (.int (nI 0) :: st) cu σ Q) := by
  rw [x206_21]
  rfl
theorem v206_22 {z : P0} {cu : Nat × Nat} {Q : Res → Mem → Prop} {σ : Mem} {x0 x1 x2 x3 x4 : Option Value} {v : Int32} : X z 206 22 [x0, x1, x2, x3, x4] ([.int v]) cu σ Q = (Q (.inl (some (.int v))) σ) := by
  rw [x206_22]
  exact propext ⟨fun h => h.2, fun h => ⟨trivial, h⟩⟩
theorem v207_0 {z : P0} {st : List Value} {cu : Nat × Nat} {Q : Res → Mem → Prop} {σ : Mem} {x0 x1 x2 x4 : Option Value} {u : Nat} : X z 207 0 [x0, x1, x2, some (.ref u), x4] (st) cu σ Q = (X z 207 1 [x0, x1, x2, some (.ref u), x4] (.ref u :: st) cu σ Q) := by
  rw [x207_0]
  rfl
theorem v207_1 {z : P0} {st : List Value} {cu : Nat × Nat} {Q : Res → Mem → Prop} {σ : Mem} {x0 x1 x2 x3 x4 : Option Value} : X z 207 1 [x0, x1, x2, x3, x4] (st) cu σ Q = (X z 207 2 [x0, x1, x2, x3, x4] (.int (nI 0) :: st) cu σ Q) := by
  rw [x207_1]
  rfl
theorem v207_2 {z : P0} {st : List Value} {cu : Nat × Nat} {Q : Res → Mem → Prop} {σ : Mem} {x1 x2 x3 x4 : Option Value} {u : Nat} : X z 207 2 [some (.ref u), x1, x2, x3, x4] (st) cu σ Q = (X z 207 3 [some (.ref u), x1, x2, x3, x4] (.ref u :: st) cu σ Q) := by
  rw [x207_2]
  rfl
theorem v207_3 {z : P0} {st : List Value} {cu : Nat × Nat} {Q : Res → Mem → Prop} {σ : Mem} {x0 x2 x3 x4 : Option Value} {u : Int32} : X z 207 3 [x0, some (.int u), x2, x3, x4] (st) cu σ Q = (X z 207 4 [x0, some (.int u), x2, x3, x4] (.int u :: st) cu σ Q) := by
  rw [x207_3]
  rfl
theorem v207_4 {z : P0} {st : List Value} {cu : Nat × Nat} {Q : Res → Mem → Prop} {σ : Mem} {x0 x1 x3 x4 : Option Value} {u : Int32} : X z 207 4 [x0, x1, some (.int u), x3, x4] (st) cu σ Q = (X z 207 5 [x0, x1, some (.int u), x3, x4] (.int u :: st) cu σ Q) := by
  rw [x207_4]
  rfl
theorem u207_5 {z : P0} {ls : Lcs} {st : List Value} {c n : Nat} {K : Nat → Nat × Nat} {I : Nat → Nat → Int32} {R : Nat → Nat → Option Nat} {L : Nat → Nat → Int64} {sz : Nat} {ex : Bool} {Q : Res → Mem → Prop} {x : Nat} {a0 : Int32} {a1 : Int32} : X z 207 5 ls (.int a1 :: .int a0 :: .ref x :: st) (c, n) (K, I, R, L, sz, ex) Q = ((K x).1 = 110 ∧ wsum st ≤ 8 ∧ c + 1 ≤ 1 ∧ n + 6 ≤ 6 ∧ X z 74 0 [some (.ref x), some (.int a0), some (.int a1)] [] (0, 0) (K, I, R, L, sz, ex) (aftr (X z) mT 207 5 ls st (c + 1, n + 6) Q)) := v207_5
theorem v207_8 {z : P0} {st : List Value} {cu : Nat × Nat} {Q : Res → Mem → Prop} {σ : Mem} {x0 x1 x2 x3 x4 : Option Value} {u : Int32} : X z 207 8 [x0, x1, x2, x3, x4] (.int u :: st) cu σ Q = (X z 207 9 [x0, x1, x2, x3, x4] (.long u.toInt64 :: st) cu σ Q) := by
  rw [x207_8]
  rfl
theorem v207_9 {z : P0} {st : List Value} {cu : Nat × Nat} {Q : Res → Mem → Prop} {K : Nat → Nat × Nat} {I : Nat → Nat → Int32} {R : Nat → Nat → Option Nat} {L : Nat → Nat → Int64} {sz : Nat} {ex : Bool} {x0 x1 x2 x3 x4 : Option Value} {u : Nat} {j : Int32} {v : Int64} : X z 207 9 [x0, x1, x2, x3, x4] (.long v :: .int j :: .ref u :: st) cu (K, I, R, L, sz, ex) Q = ((K u).1 = 21 ∧ vp_in j (K u).2 ∧ X z 207 10 [x0, x1, x2, x3, x4] (st) cu (K, I, R, up2 L u j.toNatClampNeg v, sz, ex) Q) := by
  rw [x207_9]
  rfl
theorem v207_10 {z : P0} {st : List Value} {cu : Nat × Nat} {Q : Res → Mem → Prop} {σ : Mem} {x0 x1 x2 x3 x4 : Option Value} : X z 207 10 [x0, x1, x2, x3, x4] (st) cu σ Q = (X z 207 21 [x0, x1, x2, x3, x4] (st) cu σ Q) := by
  rw [x207_10]
  rfl
theorem v207_13 {z : P0} {st : List Value} {cu : Nat × Nat} {Q : Res → Mem → Prop} {σ : Mem} {x0 x1 x2 x3 x4 : Option Value} {u : Nat} : X z 207 13 [x0, x1, x2, x3, x4] (.ref u :: st) cu σ Q = (cat2 x3 = false ∧ X z 207 15 [x0, x1, x2, x3, some (.ref u)] (st) cu σ Q) := by
  rw [x207_13]
  obtain ⟨K, I, R, L, sz, ex⟩ := σ
  exact i_astore.trans sl_4
theorem v207_15 {z : P0} {st : List Value} {cu : Nat × Nat} {Q : Res → Mem → Prop} {σ : Mem} {x0 x1 x2 x3 x4 : Option Value} : X z 207 15 [x0, x1, x2, x3, x4] (st) cu σ Q = (X z 207 16 [x0, x1, x2, x3, x4] (.int (nI 1) :: st) cu σ Q) := by
  rw [x207_15]
  rfl
theorem v207_16 {z : P0} {cu : Nat × Nat} {Q : Res → Mem → Prop} {σ : Mem} {x0 x1 x2 x3 x4 : Option Value} {v : Int32} : X z 207 16 [x0, x1, x2, x3, x4] ([.int v]) cu σ Q = (Q (.inl (some (.int v))) σ) := by
  rw [x207_16]
  exact propext ⟨fun h => h.2, fun h => ⟨trivial, h⟩⟩
theorem v207_17 {z : P0} {st : List Value} {cu : Nat × Nat} {Q : Res → Mem → Prop} {σ : Mem} {x0 x1 x2 x3 x4 : Option Value} {u : Nat} : X z 207 17 [x0, x1, x2, x3, x4] (.ref u :: st) cu σ Q = (cat2 x3 = false ∧ X z 207 19 [x0, x1, x2, x3, some (.ref u)] (st) cu σ Q) := by
  rw [x207_17]
  obtain ⟨K, I, R, L, sz, ex⟩ := σ
  exact i_astore.trans sl_4
theorem v207_19 {z : P0} {st : List Value} {cu : Nat × Nat} {Q : Res → Mem → Prop} {σ : Mem} {x0 x1 x2 x3 x4 : Option Value} : X z 207 19 [x0, x1, x2, x3, x4] (st) cu σ Q = (X z 207 20 [x0, x1, x2, x3, x4] (.int (nI 2) :: st) cu σ Q) := by
  rw [x207_19]
  rfl
theorem v207_20 {z : P0} {cu : Nat × Nat} {Q : Res → Mem → Prop} {σ : Mem} {x0 x1 x2 x3 x4 : Option Value} {v : Int32} : X z 207 20 [x0, x1, x2, x3, x4] ([.int v]) cu σ Q = (Q (.inl (some (.int v))) σ) := by
  rw [x207_20]
  exact propext ⟨fun h => h.2, fun h => ⟨trivial, h⟩⟩
theorem v207_21 {z : P0} {st : List Value} {cu : Nat × Nat} {Q : Res → Mem → Prop} {σ : Mem} {x0 x1 x2 x3 x4 : Option Value} : X z 207 21 [x0, x1, x2, x3, x4] (st) cu σ Q = (X z 207 22 [x0, x1, x2, x3, x4] (.int (nI 0) :: st) cu σ Q) := by
  rw [x207_21]
  rfl
theorem v207_22 {z : P0} {cu : Nat × Nat} {Q : Res → Mem → Prop} {σ : Mem} {x0 x1 x2 x3 x4 : Option Value} {v : Int32} : X z 207 22 [x0, x1, x2, x3, x4] ([.int v]) cu σ Q = (Q (.inl (some (.int v))) σ) := by
  rw [x207_22]
  exact propext ⟨fun h => h.2, fun h => ⟨trivial, h⟩⟩
theorem v208_0 {z : P0} {st : List Value} {cu : Nat × Nat} {Q : Res → Mem → Prop} {σ : Mem} {x0 x1 x2 x4 : Option Value} {u : Nat} : X z 208 0 [x0, x1, x2, some (.ref u), x4] (st) cu σ Q = (X z 208 1 [x0, x1, x2, some (.ref u), x4] (.ref u :: st) cu σ Q) := by
  rw [x208_0]
  rfl
theorem v208_1 {z : P0} {st : List Value} {cu : Nat × Nat} {Q : Res → Mem → Prop} {σ : Mem} {x0 x1 x2 x3 x4 : Option Value} : X z 208 1 [x0, x1, x2, x3, x4] (st) cu σ Q = (X z 208 2 [x0, x1, x2, x3, x4] (.int (nI 0) :: st) cu σ Q) := by
  rw [x208_1]
  rfl
theorem v208_2 {z : P0} {st : List Value} {cu : Nat × Nat} {Q : Res → Mem → Prop} {σ : Mem} {x1 x2 x3 x4 : Option Value} {u : Nat} : X z 208 2 [some (.ref u), x1, x2, x3, x4] (st) cu σ Q = (X z 208 3 [some (.ref u), x1, x2, x3, x4] (.ref u :: st) cu σ Q) := by
  rw [x208_2]
  rfl
theorem v208_3 {z : P0} {st : List Value} {cu : Nat × Nat} {Q : Res → Mem → Prop} {σ : Mem} {x0 x2 x3 x4 : Option Value} {u : Int32} : X z 208 3 [x0, some (.int u), x2, x3, x4] (st) cu σ Q = (X z 208 4 [x0, some (.int u), x2, x3, x4] (.int u :: st) cu σ Q) := by
  rw [x208_3]
  rfl
theorem v208_4 {z : P0} {st : List Value} {cu : Nat × Nat} {Q : Res → Mem → Prop} {σ : Mem} {x0 x1 x3 x4 : Option Value} {u : Int32} : X z 208 4 [x0, x1, some (.int u), x3, x4] (st) cu σ Q = (X z 208 5 [x0, x1, some (.int u), x3, x4] (.int u :: st) cu σ Q) := by
  rw [x208_4]
  rfl
theorem u208_5 {z : P0} {ls : Lcs} {st : List Value} {c n : Nat} {K : Nat → Nat × Nat} {I : Nat → Nat → Int32} {R : Nat → Nat → Option Nat} {L : Nat → Nat → Int64} {sz : Nat} {ex : Bool} {Q : Res → Mem → Prop} {x : Nat} {a0 : Int32} {a1 : Int32} : X z 208 5 ls (.int a1 :: .int a0 :: .ref x :: st) (c, n) (K, I, R, L, sz, ex) Q = ((K x).1 = 110 ∧ wsum st ≤ 8 ∧ c + 1 ≤ 1 ∧ n + 6 ≤ 6 ∧ X z 75 0 [some (.ref x), some (.int a0), some (.int a1)] [] (0, 0) (K, I, R, L, sz, ex) (aftr (X z) mT 208 5 ls st (c + 1, n + 6) Q)) := v208_5
theorem v208_8 {z : P0} {st : List Value} {cu : Nat × Nat} {Q : Res → Mem → Prop} {σ : Mem} {x0 x1 x2 x3 x4 : Option Value} {u : Int32} : X z 208 8 [x0, x1, x2, x3, x4] (.int u :: st) cu σ Q = (X z 208 9 [x0, x1, x2, x3, x4] (.long u.toInt64 :: st) cu σ Q) := by
  rw [x208_8]
  rfl
theorem v208_9 {z : P0} {st : List Value} {cu : Nat × Nat} {Q : Res → Mem → Prop} {K : Nat → Nat × Nat} {I : Nat → Nat → Int32} {R : Nat → Nat → Option Nat} {L : Nat → Nat → Int64} {sz : Nat} {ex : Bool} {x0 x1 x2 x3 x4 : Option Value} {u : Nat} {j : Int32} {v : Int64} : X z 208 9 [x0, x1, x2, x3, x4] (.long v :: .int j :: .ref u :: st) cu (K, I, R, L, sz, ex) Q = ((K u).1 = 21 ∧ vp_in j (K u).2 ∧ X z 208 10 [x0, x1, x2, x3, x4] (st) cu (K, I, R, up2 L u j.toNatClampNeg v, sz, ex) Q) := by
  rw [x208_9]
  rfl
theorem v208_10 {z : P0} {st : List Value} {cu : Nat × Nat} {Q : Res → Mem → Prop} {σ : Mem} {x0 x1 x2 x3 x4 : Option Value} : X z 208 10 [x0, x1, x2, x3, x4] (st) cu σ Q = (X z 208 17 [x0, x1, x2, x3, x4] (st) cu σ Q) := by
  rw [x208_10]
  rfl
theorem v208_13 {z : P0} {st : List Value} {cu : Nat × Nat} {Q : Res → Mem → Prop} {σ : Mem} {x0 x1 x2 x3 x4 : Option Value} {u : Nat} : X z 208 13 [x0, x1, x2, x3, x4] (.ref u :: st) cu σ Q = (cat2 x3 = false ∧ X z 208 15 [x0, x1, x2, x3, some (.ref u)] (st) cu σ Q) := by
  rw [x208_13]
  obtain ⟨K, I, R, L, sz, ex⟩ := σ
  exact i_astore.trans sl_4
theorem v208_15 {z : P0} {st : List Value} {cu : Nat × Nat} {Q : Res → Mem → Prop} {σ : Mem} {x0 x1 x2 x3 x4 : Option Value} : X z 208 15 [x0, x1, x2, x3, x4] (st) cu σ Q = (X z 208 16 [x0, x1, x2, x3, x4] (.int (nI 1) :: st) cu σ Q) := by
  rw [x208_15]
  rfl
theorem v208_16 {z : P0} {cu : Nat × Nat} {Q : Res → Mem → Prop} {σ : Mem} {x0 x1 x2 x3 x4 : Option Value} {v : Int32} : X z 208 16 [x0, x1, x2, x3, x4] ([.int v]) cu σ Q = (Q (.inl (some (.int v))) σ) := by
  rw [x208_16]
  exact propext ⟨fun h => h.2, fun h => ⟨trivial, h⟩⟩
theorem v208_17 {z : P0} {st : List Value} {cu : Nat × Nat} {Q : Res → Mem → Prop} {σ : Mem} {x0 x1 x2 x3 x4 : Option Value} : X z 208 17 [x0, x1, x2, x3, x4] (st) cu σ Q = (X z 208 18 [x0, x1, x2, x3, x4] (.int (nI 0) :: st) cu σ Q) := by
  rw [x208_17]
  rfl
theorem v208_18 {z : P0} {cu : Nat × Nat} {Q : Res → Mem → Prop} {σ : Mem} {x0 x1 x2 x3 x4 : Option Value} {v : Int32} : X z 208 18 [x0, x1, x2, x3, x4] ([.int v]) cu σ Q = (Q (.inl (some (.int v))) σ) := by
  rw [x208_18]
  exact propext ⟨fun h => h.2, fun h => ⟨trivial, h⟩⟩
theorem v209_0 {z : P0} {st : List Value} {cu : Nat × Nat} {Q : Res → Mem → Prop} {σ : Mem} {x0 x1 x3 : Option Value} {u : Nat} : X z 209 0 [x0, x1, some (.ref u), x3] (st) cu σ Q = (X z 209 1 [x0, x1, some (.ref u), x3] (.ref u :: st) cu σ Q) := by
  rw [x209_0]
  rfl
theorem v209_1 {z : P0} {st : List Value} {cu : Nat × Nat} {Q : Res → Mem → Prop} {σ : Mem} {x0 x1 x2 x3 : Option Value} : X z 209 1 [x0, x1, x2, x3] (st) cu σ Q = (X z 209 2 [x0, x1, x2, x3] (.int (nI 0) :: st) cu σ Q) := by
  rw [x209_1]
  rfl
theorem v209_2 {z : P0} {st : List Value} {cu : Nat × Nat} {Q : Res → Mem → Prop} {σ : Mem} {x1 x2 x3 : Option Value} {u : Nat} : X z 209 2 [some (.ref u), x1, x2, x3] (st) cu σ Q = (X z 209 3 [some (.ref u), x1, x2, x3] (.ref u :: st) cu σ Q) := by
  rw [x209_2]
  rfl
theorem v209_3 {z : P0} {st : List Value} {cu : Nat × Nat} {Q : Res → Mem → Prop} {σ : Mem} {x0 x2 x3 : Option Value} {u : Int32} : X z 209 3 [x0, some (.int u), x2, x3] (st) cu σ Q = (X z 209 4 [x0, some (.int u), x2, x3] (.int u :: st) cu σ Q) := by
  rw [x209_3]
  rfl
theorem u209_4 {z : P0} {ls : Lcs} {st : List Value} {c n : Nat} {K : Nat → Nat × Nat} {I : Nat → Nat → Int32} {R : Nat → Nat → Option Nat} {L : Nat → Nat → Int64} {sz : Nat} {ex : Bool} {Q : Res → Mem → Prop} {x : Nat} {a0 : Int32} : X z 209 4 ls (.int a0 :: .ref x :: st) (c, n) (K, I, R, L, sz, ex) Q = ((K x).1 = 110 ∧ wsum st ≤ 8 ∧ c + 1 ≤ 1 ∧ n + 6 ≤ 6 ∧ X z 76 0 [some (.ref x), some (.int a0)] [] (0, 0) (K, I, R, L, sz, ex) (aftr (X z) mT 209 4 ls st (c + 1, n + 6) Q)) := v209_4
theorem v209_7 {z : P0} {st : List Value} {cu : Nat × Nat} {Q : Res → Mem → Prop} {σ : Mem} {x0 x1 x2 x3 : Option Value} {u : Int32} : X z 209 7 [x0, x1, x2, x3] (.int u :: st) cu σ Q = (X z 209 8 [x0, x1, x2, x3] (.long u.toInt64 :: st) cu σ Q) := by
  rw [x209_7]
  rfl
theorem v209_8 {z : P0} {st : List Value} {cu : Nat × Nat} {Q : Res → Mem → Prop} {K : Nat → Nat × Nat} {I : Nat → Nat → Int32} {R : Nat → Nat → Option Nat} {L : Nat → Nat → Int64} {sz : Nat} {ex : Bool} {x0 x1 x2 x3 : Option Value} {u : Nat} {j : Int32} {v : Int64} : X z 209 8 [x0, x1, x2, x3] (.long v :: .int j :: .ref u :: st) cu (K, I, R, L, sz, ex) Q = ((K u).1 = 21 ∧ vp_in j (K u).2 ∧ X z 209 9 [x0, x1, x2, x3] (st) cu (K, I, R, up2 L u j.toNatClampNeg v, sz, ex) Q) := by
  rw [x209_8]
  rfl
theorem v209_9 {z : P0} {st : List Value} {cu : Nat × Nat} {Q : Res → Mem → Prop} {σ : Mem} {x0 x1 x2 x3 : Option Value} : X z 209 9 [x0, x1, x2, x3] (st) cu σ Q = (X z 209 15 [x0, x1, x2, x3] (st) cu σ Q) := by
  rw [x209_9]
  rfl
theorem v209_12 {z : P0} {st : List Value} {cu : Nat × Nat} {Q : Res → Mem → Prop} {σ : Mem} {x0 x1 x2 x3 : Option Value} {u : Nat} : X z 209 12 [x0, x1, x2, x3] (.ref u :: st) cu σ Q = (cat2 x2 = false ∧ X z 209 13 [x0, x1, x2, some (.ref u)] (st) cu σ Q) := by
  rw [x209_12]
  obtain ⟨K, I, R, L, sz, ex⟩ := σ
  exact i_astore_n.trans sl_3
theorem v209_13 {z : P0} {st : List Value} {cu : Nat × Nat} {Q : Res → Mem → Prop} {σ : Mem} {x0 x1 x2 x3 : Option Value} : X z 209 13 [x0, x1, x2, x3] (st) cu σ Q = (X z 209 14 [x0, x1, x2, x3] (.int (nI 1) :: st) cu σ Q) := by
  rw [x209_13]
  rfl
theorem v209_14 {z : P0} {cu : Nat × Nat} {Q : Res → Mem → Prop} {σ : Mem} {x0 x1 x2 x3 : Option Value} {v : Int32} : X z 209 14 [x0, x1, x2, x3] ([.int v]) cu σ Q = (Q (.inl (some (.int v))) σ) := by
  rw [x209_14]
  exact propext ⟨fun h => h.2, fun h => ⟨trivial, h⟩⟩
theorem v209_15 {z : P0} {st : List Value} {cu : Nat × Nat} {Q : Res → Mem → Prop} {σ : Mem} {x0 x1 x2 x3 : Option Value} : X z 209 15 [x0, x1, x2, x3] (st) cu σ Q = (X z 209 16 [x0, x1, x2, x3] (.int (nI 0) :: st) cu σ Q) := by
  rw [x209_15]
  rfl
theorem v209_16 {z : P0} {cu : Nat × Nat} {Q : Res → Mem → Prop} {σ : Mem} {x0 x1 x2 x3 : Option Value} {v : Int32} : X z 209 16 [x0, x1, x2, x3] ([.int v]) cu σ Q = (Q (.inl (some (.int v))) σ) := by
  rw [x209_16]
  exact propext ⟨fun h => h.2, fun h => ⟨trivial, h⟩⟩
theorem v210_0 {z : P0} {st : List Value} {cu : Nat × Nat} {Q : Res → Mem → Prop} {σ : Mem} {x0 x1 x3 : Option Value} {u : Nat} : X z 210 0 [x0, x1, some (.ref u), x3] (st) cu σ Q = (X z 210 1 [x0, x1, some (.ref u), x3] (.ref u :: st) cu σ Q) := by
  rw [x210_0]
  rfl
theorem v210_1 {z : P0} {st : List Value} {cu : Nat × Nat} {Q : Res → Mem → Prop} {σ : Mem} {x0 x1 x2 x3 : Option Value} : X z 210 1 [x0, x1, x2, x3] (st) cu σ Q = (X z 210 2 [x0, x1, x2, x3] (.int (nI 0) :: st) cu σ Q) := by
  rw [x210_1]
  rfl
theorem v210_2 {z : P0} {st : List Value} {cu : Nat × Nat} {Q : Res → Mem → Prop} {σ : Mem} {x1 x2 x3 : Option Value} {u : Nat} : X z 210 2 [some (.ref u), x1, x2, x3] (st) cu σ Q = (X z 210 3 [some (.ref u), x1, x2, x3] (.ref u :: st) cu σ Q) := by
  rw [x210_2]
  rfl
theorem v210_3 {z : P0} {st : List Value} {cu : Nat × Nat} {Q : Res → Mem → Prop} {σ : Mem} {x0 x2 x3 : Option Value} {u : Int32} : X z 210 3 [x0, some (.int u), x2, x3] (st) cu σ Q = (X z 210 4 [x0, some (.int u), x2, x3] (.int u :: st) cu σ Q) := by
  rw [x210_3]
  rfl
theorem u210_4 {z : P0} {ls : Lcs} {st : List Value} {c n : Nat} {K : Nat → Nat × Nat} {I : Nat → Nat → Int32} {R : Nat → Nat → Option Nat} {L : Nat → Nat → Int64} {sz : Nat} {ex : Bool} {Q : Res → Mem → Prop} {x : Nat} {a0 : Int32} : X z 210 4 ls (.int a0 :: .ref x :: st) (c, n) (K, I, R, L, sz, ex) Q = ((K x).1 = 110 ∧ wsum st ≤ 8 ∧ c + 1 ≤ 1 ∧ n + 6 ≤ 6 ∧ X z 77 0 [some (.ref x), some (.int a0)] [] (0, 0) (K, I, R, L, sz, ex) (aftr (X z) mT 210 4 ls st (c + 1, n + 6) Q)) := v210_4
theorem v210_7 {z : P0} {st : List Value} {cu : Nat × Nat} {Q : Res → Mem → Prop} {σ : Mem} {x0 x1 x2 x3 : Option Value} {u : Int32} : X z 210 7 [x0, x1, x2, x3] (.int u :: st) cu σ Q = (X z 210 8 [x0, x1, x2, x3] (.long u.toInt64 :: st) cu σ Q) := by
  rw [x210_7]
  rfl
theorem v210_8 {z : P0} {st : List Value} {cu : Nat × Nat} {Q : Res → Mem → Prop} {K : Nat → Nat × Nat} {I : Nat → Nat → Int32} {R : Nat → Nat → Option Nat} {L : Nat → Nat → Int64} {sz : Nat} {ex : Bool} {x0 x1 x2 x3 : Option Value} {u : Nat} {j : Int32} {v : Int64} : X z 210 8 [x0, x1, x2, x3] (.long v :: .int j :: .ref u :: st) cu (K, I, R, L, sz, ex) Q = ((K u).1 = 21 ∧ vp_in j (K u).2 ∧ X z 210 9 [x0, x1, x2, x3] (st) cu (K, I, R, up2 L u j.toNatClampNeg v, sz, ex) Q) := by
  rw [x210_8]
  rfl
theorem v210_9 {z : P0} {st : List Value} {cu : Nat × Nat} {Q : Res → Mem → Prop} {σ : Mem} {x0 x1 x2 x3 : Option Value} : X z 210 9 [x0, x1, x2, x3] (st) cu σ Q = (X z 210 15 [x0, x1, x2, x3] (st) cu σ Q) := by
  rw [x210_9]
  rfl
theorem v210_12 {z : P0} {st : List Value} {cu : Nat × Nat} {Q : Res → Mem → Prop} {σ : Mem} {x0 x1 x2 x3 : Option Value} {u : Nat} : X z 210 12 [x0, x1, x2, x3] (.ref u :: st) cu σ Q = (cat2 x2 = false ∧ X z 210 13 [x0, x1, x2, some (.ref u)] (st) cu σ Q) := by
  rw [x210_12]
  obtain ⟨K, I, R, L, sz, ex⟩ := σ
  exact i_astore_n.trans sl_3
theorem v210_13 {z : P0} {st : List Value} {cu : Nat × Nat} {Q : Res → Mem → Prop} {σ : Mem} {x0 x1 x2 x3 : Option Value} : X z 210 13 [x0, x1, x2, x3] (st) cu σ Q = (X z 210 14 [x0, x1, x2, x3] (.int (nI 1) :: st) cu σ Q) := by
  rw [x210_13]
  rfl
theorem v210_14 {z : P0} {cu : Nat × Nat} {Q : Res → Mem → Prop} {σ : Mem} {x0 x1 x2 x3 : Option Value} {v : Int32} : X z 210 14 [x0, x1, x2, x3] ([.int v]) cu σ Q = (Q (.inl (some (.int v))) σ) := by
  rw [x210_14]
  exact propext ⟨fun h => h.2, fun h => ⟨trivial, h⟩⟩
theorem v210_15 {z : P0} {st : List Value} {cu : Nat × Nat} {Q : Res → Mem → Prop} {σ : Mem} {x0 x1 x2 x3 : Option Value} : X z 210 15 [x0, x1, x2, x3] (st) cu σ Q = (X z 210 16 [x0, x1, x2, x3] (.int (nI 0) :: st) cu σ Q) := by
  rw [x210_15]
  rfl
theorem v210_16 {z : P0} {cu : Nat × Nat} {Q : Res → Mem → Prop} {σ : Mem} {x0 x1 x2 x3 : Option Value} {v : Int32} : X z 210 16 [x0, x1, x2, x3] ([.int v]) cu σ Q = (Q (.inl (some (.int v))) σ) := by
  rw [x210_16]
  exact propext ⟨fun h => h.2, fun h => ⟨trivial, h⟩⟩
theorem v211_0 {z : P0} {st : List Value} {cu : Nat × Nat} {Q : Res → Mem → Prop} {σ : Mem} {x0 x1 x3 : Option Value} {u : Nat} : X z 211 0 [x0, x1, some (.ref u), x3] (st) cu σ Q = (X z 211 1 [x0, x1, some (.ref u), x3] (.ref u :: st) cu σ Q) := by
  rw [x211_0]
  rfl
theorem v211_1 {z : P0} {st : List Value} {cu : Nat × Nat} {Q : Res → Mem → Prop} {σ : Mem} {x0 x1 x2 x3 : Option Value} : X z 211 1 [x0, x1, x2, x3] (st) cu σ Q = (X z 211 2 [x0, x1, x2, x3] (.int (nI 0) :: st) cu σ Q) := by
  rw [x211_1]
  rfl
theorem v211_2 {z : P0} {st : List Value} {cu : Nat × Nat} {Q : Res → Mem → Prop} {σ : Mem} {x1 x2 x3 : Option Value} {u : Nat} : X z 211 2 [some (.ref u), x1, x2, x3] (st) cu σ Q = (X z 211 3 [some (.ref u), x1, x2, x3] (.ref u :: st) cu σ Q) := by
  rw [x211_2]
  rfl
theorem v211_3 {z : P0} {st : List Value} {cu : Nat × Nat} {Q : Res → Mem → Prop} {σ : Mem} {x0 x2 x3 : Option Value} {u : Int32} : X z 211 3 [x0, some (.int u), x2, x3] (st) cu σ Q = (X z 211 4 [x0, some (.int u), x2, x3] (.int u :: st) cu σ Q) := by
  rw [x211_3]
  rfl
theorem u211_4 {z : P0} {ls : Lcs} {st : List Value} {c n : Nat} {K : Nat → Nat × Nat} {I : Nat → Nat → Int32} {R : Nat → Nat → Option Nat} {L : Nat → Nat → Int64} {sz : Nat} {ex : Bool} {Q : Res → Mem → Prop} {x : Nat} {a0 : Int32} : X z 211 4 ls (.int a0 :: .ref x :: st) (c, n) (K, I, R, L, sz, ex) Q = ((K x).1 = 110 ∧ wsum st ≤ 8 ∧ c + 1 ≤ 1 ∧ n + 6 ≤ 6 ∧ X z 78 0 [some (.ref x), some (.int a0)] [] (0, 0) (K, I, R, L, sz, ex) (aftr (X z) mT 211 4 ls st (c + 1, n + 6) Q)) := v211_4
theorem v211_7 {z : P0} {st : List Value} {cu : Nat × Nat} {Q : Res → Mem → Prop} {σ : Mem} {x0 x1 x2 x3 : Option Value} {u : Int32} : X z 211 7 [x0, x1, x2, x3] (.int u :: st) cu σ Q = (X z 211 8 [x0, x1, x2, x3] (.long u.toInt64 :: st) cu σ Q) := by
  rw [x211_7]
  rfl
theorem v211_8 {z : P0} {st : List Value} {cu : Nat × Nat} {Q : Res → Mem → Prop} {K : Nat → Nat × Nat} {I : Nat → Nat → Int32} {R : Nat → Nat → Option Nat} {L : Nat → Nat → Int64} {sz : Nat} {ex : Bool} {x0 x1 x2 x3 : Option Value} {u : Nat} {j : Int32} {v : Int64} : X z 211 8 [x0, x1, x2, x3] (.long v :: .int j :: .ref u :: st) cu (K, I, R, L, sz, ex) Q = ((K u).1 = 21 ∧ vp_in j (K u).2 ∧ X z 211 9 [x0, x1, x2, x3] (st) cu (K, I, R, up2 L u j.toNatClampNeg v, sz, ex) Q) := by
  rw [x211_8]
  rfl
theorem v211_9 {z : P0} {st : List Value} {cu : Nat × Nat} {Q : Res → Mem → Prop} {σ : Mem} {x0 x1 x2 x3 : Option Value} : X z 211 9 [x0, x1, x2, x3] (st) cu σ Q = (X z 211 15 [x0, x1, x2, x3] (st) cu σ Q) := by
  rw [x211_9]
  rfl
theorem v211_12 {z : P0} {st : List Value} {cu : Nat × Nat} {Q : Res → Mem → Prop} {σ : Mem} {x0 x1 x2 x3 : Option Value} {u : Nat} : X z 211 12 [x0, x1, x2, x3] (.ref u :: st) cu σ Q = (cat2 x2 = false ∧ X z 211 13 [x0, x1, x2, some (.ref u)] (st) cu σ Q) := by
  rw [x211_12]
  obtain ⟨K, I, R, L, sz, ex⟩ := σ
  exact i_astore_n.trans sl_3
theorem v211_13 {z : P0} {st : List Value} {cu : Nat × Nat} {Q : Res → Mem → Prop} {σ : Mem} {x0 x1 x2 x3 : Option Value} : X z 211 13 [x0, x1, x2, x3] (st) cu σ Q = (X z 211 14 [x0, x1, x2, x3] (.int (nI 1) :: st) cu σ Q) := by
  rw [x211_13]
  rfl
theorem v211_14 {z : P0} {cu : Nat × Nat} {Q : Res → Mem → Prop} {σ : Mem} {x0 x1 x2 x3 : Option Value} {v : Int32} : X z 211 14 [x0, x1, x2, x3] ([.int v]) cu σ Q = (Q (.inl (some (.int v))) σ) := by
  rw [x211_14]
  exact propext ⟨fun h => h.2, fun h => ⟨trivial, h⟩⟩
theorem v211_15 {z : P0} {st : List Value} {cu : Nat × Nat} {Q : Res → Mem → Prop} {σ : Mem} {x0 x1 x2 x3 : Option Value} : X z 211 15 [x0, x1, x2, x3] (st) cu σ Q = (X z 211 16 [x0, x1, x2, x3] (.int (nI 0) :: st) cu σ Q) := by
  rw [x211_15]
  rfl
theorem v211_16 {z : P0} {cu : Nat × Nat} {Q : Res → Mem → Prop} {σ : Mem} {x0 x1 x2 x3 : Option Value} {v : Int32} : X z 211 16 [x0, x1, x2, x3] ([.int v]) cu σ Q = (Q (.inl (some (.int v))) σ) := by
  rw [x211_16]
  exact propext ⟨fun h => h.2, fun h => ⟨trivial, h⟩⟩
theorem v212_0 {z : P0} {st : List Value} {cu : Nat × Nat} {Q : Res → Mem → Prop} {σ : Mem} {x0 x1 x2 x3 x5 : Option Value} {u : Nat} : X z 212 0 [x0, x1, x2, x3, some (.ref u), x5] (st) cu σ Q = (X z 212 2 [x0, x1, x2, x3, some (.ref u), x5] (.ref u :: st) cu σ Q) := by
  rw [x212_0]
  rfl
theorem v212_2 {z : P0} {st : List Value} {cu : Nat × Nat} {Q : Res → Mem → Prop} {σ : Mem} {x0 x1 x2 x3 x4 x5 : Option Value} : X z 212 2 [x0, x1, x2, x3, x4, x5] (st) cu σ Q = (X z 212 3 [x0, x1, x2, x3, x4, x5] (.int (nI 0) :: st) cu σ Q) := by
  rw [x212_2]
  rfl
theorem v212_3 {z : P0} {st : List Value} {cu : Nat × Nat} {Q : Res → Mem → Prop} {σ : Mem} {x1 x2 x3 x4 x5 : Option Value} {u : Nat} : X z 212 3 [some (.ref u), x1, x2, x3, x4, x5] (st) cu σ Q = (X z 212 4 [some (.ref u), x1, x2, x3, x4, x5] (.ref u :: st) cu σ Q) := by
  rw [x212_3]
  rfl
theorem v212_4 {z : P0} {st : List Value} {cu : Nat × Nat} {Q : Res → Mem → Prop} {σ : Mem} {x0 x2 x3 x4 x5 : Option Value} {u : Int32} : X z 212 4 [x0, some (.int u), x2, x3, x4, x5] (st) cu σ Q = (X z 212 5 [x0, some (.int u), x2, x3, x4, x5] (.int u :: st) cu σ Q) := by
  rw [x212_4]
  rfl
theorem v212_5 {z : P0} {st : List Value} {cu : Nat × Nat} {Q : Res → Mem → Prop} {σ : Mem} {x0 x1 x3 x4 x5 : Option Value} {u : Int32} : X z 212 5 [x0, x1, some (.int u), x3, x4, x5] (st) cu σ Q = (X z 212 6 [x0, x1, some (.int u), x3, x4, x5] (.int u :: st) cu σ Q) := by
  rw [x212_5]
  rfl
theorem v212_6 {z : P0} {st : List Value} {cu : Nat × Nat} {Q : Res → Mem → Prop} {σ : Mem} {x0 x1 x2 x4 x5 : Option Value} {u : Int32} : X z 212 6 [x0, x1, x2, some (.int u), x4, x5] (st) cu σ Q = (X z 212 7 [x0, x1, x2, some (.int u), x4, x5] (.int u :: st) cu σ Q) := by
  rw [x212_6]
  rfl
theorem u212_7 {z : P0} {ls : Lcs} {st : List Value} {c n : Nat} {K : Nat → Nat × Nat} {I : Nat → Nat → Int32} {R : Nat → Nat → Option Nat} {L : Nat → Nat → Int64} {sz : Nat} {ex : Bool} {Q : Res → Mem → Prop} {x : Nat} {a0 : Int32} {a1 : Int32} {a2 : Int32} : X z 212 7 ls (.int a2 :: .int a1 :: .int a0 :: .ref x :: st) (c, n) (K, I, R, L, sz, ex) Q = ((K x).1 = 110 ∧ wsum st ≤ 8 ∧ c + 1 ≤ 1 ∧ n + 6 ≤ 6 ∧ X z 79 0 [some (.ref x), some (.int a0), some (.int a1), some (.int a2)] [] (0, 0) (K, I, R, L, sz, ex) (aftr (X z) mT 212 7 ls st (c + 1, n + 6) Q)) := v212_7
theorem v212_10 {z : P0} {st : List Value} {cu : Nat × Nat} {Q : Res → Mem → Prop} {σ : Mem} {x0 x1 x2 x3 x4 x5 : Option Value} {u : Int32} : X z 212 10 [x0, x1, x2, x3, x4, x5] (.int u :: st) cu σ Q = (X z 212 11 [x0, x1, x2, x3, x4, x5] (.long u.toInt64 :: st) cu σ Q) := by
  rw [x212_10]
  rfl
theorem v212_11 {z : P0} {st : List Value} {cu : Nat × Nat} {Q : Res → Mem → Prop} {K : Nat → Nat × Nat} {I : Nat → Nat → Int32} {R : Nat → Nat → Option Nat} {L : Nat → Nat → Int64} {sz : Nat} {ex : Bool} {x0 x1 x2 x3 x4 x5 : Option Value} {u : Nat} {j : Int32} {v : Int64} : X z 212 11 [x0, x1, x2, x3, x4, x5] (.long v :: .int j :: .ref u :: st) cu (K, I, R, L, sz, ex) Q = ((K u).1 = 21 ∧ vp_in j (K u).2 ∧ X z 212 12 [x0, x1, x2, x3, x4, x5] (st) cu (K, I, R, up2 L u j.toNatClampNeg v, sz, ex) Q) := by
  rw [x212_11]
  rfl
theorem v212_12 {z : P0} {st : List Value} {cu : Nat × Nat} {Q : Res → Mem → Prop} {σ : Mem} {x0 x1 x2 x3 x4 x5 : Option Value} : X z 212 12 [x0, x1, x2, x3, x4, x5] (st) cu σ Q = (X z 212 23 [x0, x1, x2, x3, x4, x5] (st) cu σ Q) := by
  rw [x212_12]
  rfl
theorem v212_15 {z : P0} {st : List Value} {cu : Nat × Nat} {Q : Res → Mem → Prop} {σ : Mem} {x0 x1 x2 x3 x4 x5 : Option Value} {u : Nat} : X z 212 15 [x0, x1, x2, x3, x4, x5] (.ref u :: st) cu σ Q = (cat2 x4 = false ∧ X z 212 17 [x0, x1, x2, x3, x4, some (.ref u)] (st) cu σ Q) := by
  rw [x212_15]
  obtain ⟨K, I, R, L, sz, ex⟩ := σ
  exact i_astore.trans sl_5
theorem v212_17 {z : P0} {st : List Value} {cu : Nat × Nat} {Q : Res → Mem → Prop} {σ : Mem} {x0 x1 x2 x3 x4 x5 : Option Value} : X z 212 17 [x0, x1, x2, x3, x4, x5] (st) cu σ Q = (X z 212 18 [x0, x1, x2, x3, x4, x5] (.int (nI 1) :: st) cu σ Q) := by
  rw [x212_17]
  rfl
theorem v212_18 {z : P0} {cu : Nat × Nat} {Q : Res → Mem → Prop} {σ : Mem} {x0 x1 x2 x3 x4 x5 : Option Value} {v : Int32} : X z 212 18 [x0, x1, x2, x3, x4, x5] ([.int v]) cu σ Q = (Q (.inl (some (.int v))) σ) := by
  rw [x212_18]
  exact propext ⟨fun h => h.2, fun h => ⟨trivial, h⟩⟩
theorem v212_19 {z : P0} {st : List Value} {cu : Nat × Nat} {Q : Res → Mem → Prop} {σ : Mem} {x0 x1 x2 x3 x4 x5 : Option Value} {u : Nat} : X z 212 19 [x0, x1, x2, x3, x4, x5] (.ref u :: st) cu σ Q = (cat2 x4 = false ∧ X z 212 21 [x0, x1, x2, x3, x4, some (.ref u)] (st) cu σ Q) := by
  rw [x212_19]
  obtain ⟨K, I, R, L, sz, ex⟩ := σ
  exact i_astore.trans sl_5
theorem v212_21 {z : P0} {st : List Value} {cu : Nat × Nat} {Q : Res → Mem → Prop} {σ : Mem} {x0 x1 x2 x3 x4 x5 : Option Value} : X z 212 21 [x0, x1, x2, x3, x4, x5] (st) cu σ Q = (X z 212 22 [x0, x1, x2, x3, x4, x5] (.int (nI 2) :: st) cu σ Q) := by
  rw [x212_21]
  rfl
theorem v212_22 {z : P0} {cu : Nat × Nat} {Q : Res → Mem → Prop} {σ : Mem} {x0 x1 x2 x3 x4 x5 : Option Value} {v : Int32} : X z 212 22 [x0, x1, x2, x3, x4, x5] ([.int v]) cu σ Q = (Q (.inl (some (.int v))) σ) := by
  rw [x212_22]
  exact propext ⟨fun h => h.2, fun h => ⟨trivial, h⟩⟩
theorem v212_23 {z : P0} {st : List Value} {cu : Nat × Nat} {Q : Res → Mem → Prop} {σ : Mem} {x0 x1 x2 x3 x4 x5 : Option Value} : X z 212 23 [x0, x1, x2, x3, x4, x5] (st) cu σ Q = (X z 212 24 [x0, x1, x2, x3, x4, x5] (.int (nI 0) :: st) cu σ Q) := by
  rw [x212_23]
  rfl
theorem v212_24 {z : P0} {cu : Nat × Nat} {Q : Res → Mem → Prop} {σ : Mem} {x0 x1 x2 x3 x4 x5 : Option Value} {v : Int32} : X z 212 24 [x0, x1, x2, x3, x4, x5] ([.int v]) cu σ Q = (Q (.inl (some (.int v))) σ) := by
  rw [x212_24]
  exact propext ⟨fun h => h.2, fun h => ⟨trivial, h⟩⟩
theorem v213_0 {z : P0} {st : List Value} {cu : Nat × Nat} {Q : Res → Mem → Prop} {σ : Mem} {x0 x1 x3 : Option Value} {u : Nat} : X z 213 0 [x0, x1, some (.ref u), x3] (st) cu σ Q = (X z 213 1 [x0, x1, some (.ref u), x3] (.ref u :: st) cu σ Q) := by
  rw [x213_0]
  rfl
theorem v213_1 {z : P0} {st : List Value} {cu : Nat × Nat} {Q : Res → Mem → Prop} {σ : Mem} {x0 x1 x2 x3 : Option Value} : X z 213 1 [x0, x1, x2, x3] (st) cu σ Q = (X z 213 2 [x0, x1, x2, x3] (.int (nI 0) :: st) cu σ Q) := by
  rw [x213_1]
  rfl
theorem v213_2 {z : P0} {st : List Value} {cu : Nat × Nat} {Q : Res → Mem → Prop} {σ : Mem} {x1 x2 x3 : Option Value} {u : Nat} : X z 213 2 [some (.ref u), x1, x2, x3] (st) cu σ Q = (X z 213 3 [some (.ref u), x1, x2, x3] (.ref u :: st) cu σ Q) := by
  rw [x213_2]
  rfl
theorem v213_3 {z : P0} {st : List Value} {cu : Nat × Nat} {Q : Res → Mem → Prop} {σ : Mem} {x0 x2 x3 : Option Value} {u : Int32} : X z 213 3 [x0, some (.int u), x2, x3] (st) cu σ Q = (X z 213 4 [x0, some (.int u), x2, x3] (.int u :: st) cu σ Q) := by
  rw [x213_3]
  rfl
theorem u213_4 {z : P0} {ls : Lcs} {st : List Value} {c n : Nat} {K : Nat → Nat × Nat} {I : Nat → Nat → Int32} {R : Nat → Nat → Option Nat} {L : Nat → Nat → Int64} {sz : Nat} {ex : Bool} {Q : Res → Mem → Prop} {x : Nat} {a0 : Int32} : X z 213 4 ls (.int a0 :: .ref x :: st) (c, n) (K, I, R, L, sz, ex) Q = ((K x).1 = 110 ∧ wsum st ≤ 8 ∧ c + 1 ≤ 1 ∧ n + 6 ≤ 6 ∧ X z 82 0 [some (.ref x), some (.int a0)] [] (0, 0) (K, I, R, L, sz, ex) (aftr (X z) mT 213 4 ls st (c + 1, n + 6) Q)) := v213_4
theorem v213_7 {z : P0} {st : List Value} {cu : Nat × Nat} {Q : Res → Mem → Prop} {σ : Mem} {x0 x1 x2 x3 : Option Value} {u : Int32} : X z 213 7 [x0, x1, x2, x3] (.int u :: st) cu σ Q = (X z 213 8 [x0, x1, x2, x3] (.long u.toInt64 :: st) cu σ Q) := by
  rw [x213_7]
  rfl
theorem v213_8 {z : P0} {st : List Value} {cu : Nat × Nat} {Q : Res → Mem → Prop} {K : Nat → Nat × Nat} {I : Nat → Nat → Int32} {R : Nat → Nat → Option Nat} {L : Nat → Nat → Int64} {sz : Nat} {ex : Bool} {x0 x1 x2 x3 : Option Value} {u : Nat} {j : Int32} {v : Int64} : X z 213 8 [x0, x1, x2, x3] (.long v :: .int j :: .ref u :: st) cu (K, I, R, L, sz, ex) Q = ((K u).1 = 21 ∧ vp_in j (K u).2 ∧ X z 213 9 [x0, x1, x2, x3] (st) cu (K, I, R, up2 L u j.toNatClampNeg v, sz, ex) Q) := by
  rw [x213_8]
  rfl
theorem v213_9 {z : P0} {st : List Value} {cu : Nat × Nat} {Q : Res → Mem → Prop} {σ : Mem} {x0 x1 x2 x3 : Option Value} : X z 213 9 [x0, x1, x2, x3] (st) cu σ Q = (X z 213 15 [x0, x1, x2, x3] (st) cu σ Q) := by
  rw [x213_9]
  rfl
theorem v213_12 {z : P0} {st : List Value} {cu : Nat × Nat} {Q : Res → Mem → Prop} {σ : Mem} {x0 x1 x2 x3 : Option Value} {u : Nat} : X z 213 12 [x0, x1, x2, x3] (.ref u :: st) cu σ Q = (cat2 x2 = false ∧ X z 213 13 [x0, x1, x2, some (.ref u)] (st) cu σ Q) := by
  rw [x213_12]
  obtain ⟨K, I, R, L, sz, ex⟩ := σ
  exact i_astore_n.trans sl_3
theorem v213_13 {z : P0} {st : List Value} {cu : Nat × Nat} {Q : Res → Mem → Prop} {σ : Mem} {x0 x1 x2 x3 : Option Value} : X z 213 13 [x0, x1, x2, x3] (st) cu σ Q = (X z 213 14 [x0, x1, x2, x3] (.int (nI 1) :: st) cu σ Q) := by
  rw [x213_13]
  rfl
theorem v213_14 {z : P0} {cu : Nat × Nat} {Q : Res → Mem → Prop} {σ : Mem} {x0 x1 x2 x3 : Option Value} {v : Int32} : X z 213 14 [x0, x1, x2, x3] ([.int v]) cu σ Q = (Q (.inl (some (.int v))) σ) := by
  rw [x213_14]
  exact propext ⟨fun h => h.2, fun h => ⟨trivial, h⟩⟩
theorem v213_15 {z : P0} {st : List Value} {cu : Nat × Nat} {Q : Res → Mem → Prop} {σ : Mem} {x0 x1 x2 x3 : Option Value} : X z 213 15 [x0, x1, x2, x3] (st) cu σ Q = (X z 213 16 [x0, x1, x2, x3] (.int (nI 0) :: st) cu σ Q) := by
  rw [x213_15]
  rfl
theorem v213_16 {z : P0} {cu : Nat × Nat} {Q : Res → Mem → Prop} {σ : Mem} {x0 x1 x2 x3 : Option Value} {v : Int32} : X z 213 16 [x0, x1, x2, x3] ([.int v]) cu σ Q = (Q (.inl (some (.int v))) σ) := by
  rw [x213_16]
  exact propext ⟨fun h => h.2, fun h => ⟨trivial, h⟩⟩
theorem v214_0 {z : P0} {st : List Value} {Q : Res → Mem → Prop} {K : Nat → Nat × Nat} {I : Nat → Nat → Int32} {R : Nat → Nat → Option Nat} {L : Nat → Nat → Int64} {sz : Nat} {ex : Bool} {x0 x1 x2 x3 x4 x5 x6 x7 x8 : Option Value} {c n : Nat} : X z 214 0 [x0, x1, x2, x3, x4, x5, x6, x7, x8] (st) (c, n) (K, I, R, L, sz, ex) Q = (ex = true ∧ (c + 1 ≤ 601024 ∧ n + 6 ≤ 7293034) ∧ X z 214 3 [x0, x1, x2, x3, x4, x5, x6, x7, x8] (.ref sz :: st) (c + 1, n + 6) (upK K sz (110, 0), I, R, L, sz + 1, ex) Q) := by
  rw [x214_0]
  rfl
theorem v214_3 {z : P0} {st : List Value} {cu : Nat × Nat} {Q : Res → Mem → Prop} {σ : Mem} {x0 x1 x2 x3 x4 x5 x6 x7 x8 : Option Value} {u : Nat} : X z 214 3 [x0, x1, x2, x3, x4, x5, x6, x7, x8] (.ref u :: st) cu σ Q = (X z 214 4 [x0, x1, x2, x3, x4, x5, x6, x7, x8] (.ref u :: .ref u :: st) cu σ Q) := by
  rw [x214_3]
  exact propext ⟨fun h => h.2, fun h => ⟨rfl, h⟩⟩
theorem v214_3i {z : P0} {st : List Value} {cu : Nat × Nat} {Q : Res → Mem → Prop} {σ : Mem} {x0 x1 x2 x3 x4 x5 x6 x7 x8 : Option Value} {u : Int32} : X z 214 3 [x0, x1, x2, x3, x4, x5, x6, x7, x8] (.int u :: st) cu σ Q = (X z 214 4 [x0, x1, x2, x3, x4, x5, x6, x7, x8] (.int u :: .int u :: st) cu σ Q) := by
  rw [x214_3]
  exact propext ⟨fun h => h.2, fun h => ⟨rfl, h⟩⟩
theorem u214_4 {z : P0} {ls : Lcs} {st : List Value} {c n : Nat} {K : Nat → Nat × Nat} {I : Nat → Nat → Int32} {R : Nat → Nat → Option Nat} {L : Nat → Nat → Int64} {sz : Nat} {ex : Bool} {Q : Res → Mem → Prop} {x : Nat} : X z 214 4 ls (.ref x :: st) (c, n) (K, I, R, L, sz, ex) Q = ((K x).1 = 110 ∧ wsum st ≤ 8 ∧ c + 565 ≤ 601024 ∧ n + 6546 ≤ 7293034 ∧ X z 57 0 [some (.ref x), none, none] [] (0, 0) (K, I, R, L, sz, ex) (aftr (X z) mT 214 4 ls st (c + 565, n + 6546) Q)) := v214_4
theorem v214_7 {z : P0} {st : List Value} {cu : Nat × Nat} {Q : Res → Mem → Prop} {σ : Mem} {x0 x1 x2 x3 x4 x5 x6 x7 x8 : Option Value} {u : Nat} : X z 214 7 [x0, x1, x2, x3, x4, x5, x6, x7, x8] (.ref u :: st) cu σ Q = (cat2 x0 = false ∧ X z 214 8 [x0, some (.ref u), x2, x3, x4, x5, x6, x7, x8] (st) cu σ Q) := by
  rw [x214_7]
  obtain ⟨K, I, R, L, sz, ex⟩ := σ
  exact i_astore_n.trans sl_1
theorem v214_8 {z : P0} {st : List Value} {Q : Res → Mem → Prop} {K : Nat → Nat × Nat} {I : Nat → Nat → Int32} {R : Nat → Nat → Option Nat} {L : Nat → Nat → Int64} {sz : Nat} {ex : Bool} {x0 x1 x2 x3 x4 x5 x6 x7 x8 : Option Value} {c n : Nat} : X z 214 8 [x0, x1, x2, x3, x4, x5, x6, x7, x8] (st) (c, n) (K, I, R, L, sz, ex) Q = (ex = true ∧ (c + 1 ≤ 601024 ∧ n + 23 ≤ 7293034) ∧ X z 214 11 [x0, x1, x2, x3, x4, x5, x6, x7, x8] (.ref sz :: st) (c + 1, n + 23) (upK K sz (111, 0), I, R, L, sz + 1, ex) Q) := by
  rw [x214_8]
  rfl
theorem v214_11 {z : P0} {st : List Value} {cu : Nat × Nat} {Q : Res → Mem → Prop} {σ : Mem} {x0 x1 x2 x3 x4 x5 x6 x7 x8 : Option Value} {u : Nat} : X z 214 11 [x0, x1, x2, x3, x4, x5, x6, x7, x8] (.ref u :: st) cu σ Q = (X z 214 12 [x0, x1, x2, x3, x4, x5, x6, x7, x8] (.ref u :: .ref u :: st) cu σ Q) := by
  rw [x214_11]
  exact propext ⟨fun h => h.2, fun h => ⟨rfl, h⟩⟩
theorem v214_11i {z : P0} {st : List Value} {cu : Nat × Nat} {Q : Res → Mem → Prop} {σ : Mem} {x0 x1 x2 x3 x4 x5 x6 x7 x8 : Option Value} {u : Int32} : X z 214 11 [x0, x1, x2, x3, x4, x5, x6, x7, x8] (.int u :: st) cu σ Q = (X z 214 12 [x0, x1, x2, x3, x4, x5, x6, x7, x8] (.int u :: .int u :: st) cu σ Q) := by
  rw [x214_11]
  exact propext ⟨fun h => h.2, fun h => ⟨rfl, h⟩⟩
theorem u214_12 {z : P0} {ls : Lcs} {st : List Value} {c n : Nat} {K : Nat → Nat × Nat} {I : Nat → Nat → Int32} {R : Nat → Nat → Option Nat} {L : Nat → Nat → Int64} {sz : Nat} {ex : Bool} {Q : Res → Mem → Prop} {x : Nat} : X z 214 12 ls (.ref x :: st) (c, n) (K, I, R, L, sz, ex) Q = ((K x).1 = 111 ∧ wsum st ≤ 8 ∧ c + 10 ≤ 601024 ∧ n + 5891 ≤ 7293034 ∧ X z 104 0 [some (.ref x)] [] (0, 0) (K, I, R, L, sz, ex) (aftr (X z) mT 214 12 ls st (c + 10, n + 5891) Q)) := v214_12
theorem v214_15 {z : P0} {st : List Value} {cu : Nat × Nat} {Q : Res → Mem → Prop} {σ : Mem} {x0 x1 x2 x3 x4 x5 x6 x7 x8 : Option Value} {u : Nat} : X z 214 15 [x0, x1, x2, x3, x4, x5, x6, x7, x8] (.ref u :: st) cu σ Q = (cat2 x1 = false ∧ X z 214 16 [x0, x1, some (.ref u), x3, x4, x5, x6, x7, x8] (st) cu σ Q) := by
  rw [x214_15]
  obtain ⟨K, I, R, L, sz, ex⟩ := σ
  exact i_astore_n.trans sl_2
theorem v214_16 {z : P0} {st : List Value} {cu : Nat × Nat} {Q : Res → Mem → Prop} {σ : Mem} {x0 x1 x2 x3 x4 x5 x6 x7 x8 : Option Value} : X z 214 16 [x0, x1, x2, x3, x4, x5, x6, x7, x8] (st) cu σ Q = (X z 214 17 [x0, x1, x2, x3, x4, x5, x6, x7, x8] (.int (nI 1) :: st) cu σ Q) := by
  rw [x214_16]
  rfl
theorem v214_17 {z : P0} {st : List Value} {Q : Res → Mem → Prop} {K : Nat → Nat × Nat} {I : Nat → Nat → Int32} {R : Nat → Nat → Option Nat} {L : Nat → Nat → Int64} {sz : Nat} {ex : Bool} {x0 x1 x2 x3 x4 x5 x6 x7 x8 : Option Value} {c n : Nat} {v : Int32} : X z 214 17 [x0, x1, x2, x3, x4, x5, x6, x7, x8] (.int v :: st) (c, n) (K, I, R, L, sz, ex) Q = (ex = true ∧ ¬ v < 0 ∧ v.toNatClampNeg ≤ 3000 ∧ (c + 1 ≤ 601024 ∧ n + v.toNatClampNeg ≤ 7293034) ∧ X z 214 19 [x0, x1, x2, x3, x4, x5, x6, x7, x8] (.ref sz :: st) (c + 1, n + v.toNatClampNeg) (upK K sz (21, v.toNatClampNeg), I, R, L, sz + 1, ex) Q) := by
  rw [x214_17]
  rfl
theorem v214_19 {z : P0} {st : List Value} {cu : Nat × Nat} {Q : Res → Mem → Prop} {σ : Mem} {x0 x1 x2 x3 x4 x5 x6 x7 x8 : Option Value} {u : Nat} : X z 214 19 [x0, x1, x2, x3, x4, x5, x6, x7, x8] (.ref u :: st) cu σ Q = (cat2 x2 = false ∧ X z 214 20 [x0, x1, x2, some (.ref u), x4, x5, x6, x7, x8] (st) cu σ Q) := by
  rw [x214_19]
  obtain ⟨K, I, R, L, sz, ex⟩ := σ
  exact i_astore_n.trans sl_3
theorem v214_20 {z : P0} {st : List Value} {cu : Nat × Nat} {Q : Res → Mem → Prop} {σ : Mem} {x0 x1 x2 x3 x4 x5 x6 x7 x8 : Option Value} : X z 214 20 [x0, x1, x2, x3, x4, x5, x6, x7, x8] (st) cu σ Q = (X z 214 21 [x0, x1, x2, x3, x4, x5, x6, x7, x8] (.int (nI 0) :: st) cu σ Q) := by
  rw [x214_20]
  rfl
theorem v214_21 {z : P0} {st : List Value} {cu : Nat × Nat} {Q : Res → Mem → Prop} {σ : Mem} {x0 x1 x2 x3 x4 x5 x6 x7 x8 : Option Value} {u : Int32} : X z 214 21 [x0, x1, x2, x3, x4, x5, x6, x7, x8] (.int u :: st) cu σ Q = (cat2 x3 = false ∧ X z 214 23 [x0, x1, x2, x3, some (.int u), x5, x6, x7, x8] (st) cu σ Q) := by
  rw [x214_21]
  obtain ⟨K, I, R, L, sz, ex⟩ := σ
  exact i_istore.trans sl_4
theorem v214_23 {z : P0} {st : List Value} {cu : Nat × Nat} {Q : Res → Mem → Prop} {σ : Mem} {x0 x1 x2 x3 x5 x6 x7 x8 : Option Value} {u : Int32} : X z 214 23 [x0, x1, x2, x3, some (.int u), x5, x6, x7, x8] (st) cu σ Q = (X z 214 25 [x0, x1, x2, x3, some (.int u), x5, x6, x7, x8] (.int u :: st) cu σ Q) := by
  rw [x214_23]
  rfl
theorem v214_25 {z : P0} {st : List Value} {cu : Nat × Nat} {Q : Res → Mem → Prop} {σ : Mem} {x1 x2 x3 x4 x5 x6 x7 x8 : Option Value} {u : Nat} : X z 214 25 [some (.ref u), x1, x2, x3, x4, x5, x6, x7, x8] (st) cu σ Q = (X z 214 26 [some (.ref u), x1, x2, x3, x4, x5, x6, x7, x8] (.ref u :: st) cu σ Q) := by
  rw [x214_25]
  rfl
theorem v214_26 {z : P0} {st : List Value} {cu : Nat × Nat} {Q : Res → Mem → Prop} {K : Nat → Nat × Nat} {I : Nat → Nat → Int32} {R : Nat → Nat → Option Nat} {L : Nat → Nat → Int64} {sz : Nat} {ex : Bool} {x0 x1 x2 x3 x4 x5 x6 x7 x8 : Option Value} {u : Nat} : X z 214 26 [x0, x1, x2, x3, x4, x5, x6, x7, x8] (.ref u :: st) cu (K, I, R, L, sz, ex) Q = (isArr (K u).1 = true ∧ X z 214 27 [x0, x1, x2, x3, x4, x5, x6, x7, x8] (.int (nI (K u).2) :: st) cu (K, I, R, L, sz, ex) Q) := by
  rw [x214_26]
  rfl
theorem v214_27 {z : P0} {st : List Value} {cu : Nat × Nat} {Q : Res → Mem → Prop} {σ : Mem} {x0 x1 x2 x3 x4 x5 x6 x7 x8 : Option Value} : X z 214 27 [x0, x1, x2, x3, x4, x5, x6, x7, x8] (st) cu σ Q = (X z 214 28 [x0, x1, x2, x3, x4, x5, x6, x7, x8] (.int (nI 4) :: st) cu σ Q) := by
  rw [x214_27]
  rfl
theorem v214_28 {z : P0} {st : List Value} {cu : Nat × Nat} {Q : Res → Mem → Prop} {σ : Mem} {x0 x1 x2 x3 x4 x5 x6 x7 x8 : Option Value} {u v : Int32} : X z 214 28 [x0, x1, x2, x3, x4, x5, x6, x7, x8] (.int v :: .int u :: st) cu σ Q = (X z 214 29 [x0, x1, x2, x3, x4, x5, x6, x7, x8] (.int (u - v) :: st) cu σ Q) := by
  rw [x214_28]
  rfl
theorem v214_29 {z : P0} {st : List Value} {cu : Nat × Nat} {Q : Res → Mem → Prop} {σ : Mem} {x0 x1 x2 x3 x4 x5 x6 x7 x8 : Option Value} {u v : Int32} : X z 214 29 [x0, x1, x2, x3, x4, x5, x6, x7, x8] (.int v :: .int u :: st) cu σ Q = (if v < u then X z 214 1604 [x0, x1, x2, x3, x4, x5, x6, x7, x8] (st) cu σ Q else X z 214 32 [x0, x1, x2, x3, x4, x5, x6, x7, x8] (st) cu σ Q) := by
  rw [x214_29]
  obtain ⟨K, I, R, L, sz, ex⟩ := σ
  exact br_ite
theorem v214_32 {z : P0} {st : List Value} {cu : Nat × Nat} {Q : Res → Mem → Prop} {σ : Mem} {x1 x2 x3 x4 x5 x6 x7 x8 : Option Value} {u : Nat} : X z 214 32 [some (.ref u), x1, x2, x3, x4, x5, x6, x7, x8] (st) cu σ Q = (X z 214 33 [some (.ref u), x1, x2, x3, x4, x5, x6, x7, x8] (.ref u :: st) cu σ Q) := by
  rw [x214_32]
  rfl
theorem v214_33 {z : P0} {st : List Value} {cu : Nat × Nat} {Q : Res → Mem → Prop} {σ : Mem} {x0 x1 x2 x3 x5 x6 x7 x8 : Option Value} {u : Int32} : X z 214 33 [x0, x1, x2, x3, some (.int u), x5, x6, x7, x8] (st) cu σ Q = (X z 214 35 [x0, x1, x2, x3, some (.int u), x5, x6, x7, x8] (.int u :: st) cu σ Q) := by
  rw [x214_33]
  rfl
theorem v214_35 {z : P0} {st : List Value} {cu : Nat × Nat} {Q : Res → Mem → Prop} {K : Nat → Nat × Nat} {I : Nat → Nat → Int32} {R : Nat → Nat → Option Nat} {L : Nat → Nat → Int64} {sz : Nat} {ex : Bool} {x0 x1 x2 x3 x4 x5 x6 x7 x8 : Option Value} {u : Nat} {v : Int32} : X z 214 35 [x0, x1, x2, x3, x4, x5, x6, x7, x8] (.int v :: .ref u :: st) cu (K, I, R, L, sz, ex) Q = (((K u).1 = 20 ∨ (K u).1 = 50) ∧ vp_in v (K u).2 ∧ X z 214 36 [x0, x1, x2, x3, x4, x5, x6, x7, x8] (.int (I u v.toNatClampNeg) :: st) cu (K, I, R, L, sz, ex) Q) := by
  rw [x214_35]
  rfl
theorem v214_36 {z : P0} {st : List Value} {cu : Nat × Nat} {Q : Res → Mem → Prop} {σ : Mem} {x0 x1 x2 x3 x4 x5 x6 x7 x8 : Option Value} : X z 214 36 [x0, x1, x2, x3, x4, x5, x6, x7, x8] (st) cu σ Q = (X z 214 38 [x0, x1, x2, x3, x4, x5, x6, x7, x8] (.int (nI 31) :: st) cu σ Q) := by
  rw [x214_36]
  rfl
theorem v214_38 {z : P0} {st : List Value} {cu : Nat × Nat} {Q : Res → Mem → Prop} {σ : Mem} {x0 x1 x2 x3 x4 x5 x6 x7 x8 : Option Value} {u v : Int32} : X z 214 38 [x0, x1, x2, x3, x4, x5, x6, x7, x8] (.int v :: .int u :: st) cu σ Q = (X z 214 39 [x0, x1, x2, x3, x4, x5, x6, x7, x8] (.int (u &&& v) :: st) cu σ Q) := by
  rw [x214_38]
  rfl
theorem w214_39_0 {z : P0} {st : List Value} {cu : Nat × Nat} {Q : Res → Mem → Prop} {σ : Mem} {x0 x1 x2 x3 x4 x5 x6 x7 x8 : Option Value} : X z 214 39 [x0, x1, x2, x3, x4, x5, x6, x7, x8] (.int (nI 0) :: st) cu σ Q = (X z 214 160 [x0, x1, x2, x3, x4, x5, x6, x7, x8] (st) cu σ Q) := by
  rw [x214_39]
  exact tsw_in (j := 0) (by decide) (by decide) (by decide) rfl
theorem w214_39_1 {z : P0} {st : List Value} {cu : Nat × Nat} {Q : Res → Mem → Prop} {σ : Mem} {x0 x1 x2 x3 x4 x5 x6 x7 x8 : Option Value} : X z 214 39 [x0, x1, x2, x3, x4, x5, x6, x7, x8] (.int (nI 1) :: st) cu σ Q = (X z 214 228 [x0, x1, x2, x3, x4, x5, x6, x7, x8] (st) cu σ Q) := by
  rw [x214_39]
  exact tsw_in (j := 1) (by decide) (by decide) (by decide) rfl
theorem w214_39_2 {z : P0} {st : List Value} {cu : Nat × Nat} {Q : Res → Mem → Prop} {σ : Mem} {x0 x1 x2 x3 x4 x5 x6 x7 x8 : Option Value} : X z 214 39 [x0, x1, x2, x3, x4, x5, x6, x7, x8] (.int (nI 2) :: st) cu σ Q = (X z 214 272 [x0, x1, x2, x3, x4, x5, x6, x7, x8] (st) cu σ Q) := by
  rw [x214_39]
  exact tsw_in (j := 2) (by decide) (by decide) (by decide) rfl
theorem w214_39_3 {z : P0} {st : List Value} {cu : Nat × Nat} {Q : Res → Mem → Prop} {σ : Mem} {x0 x1 x2 x3 x4 x5 x6 x7 x8 : Option Value} : X z 214 39 [x0, x1, x2, x3, x4, x5, x6, x7, x8] (.int (nI 3) :: st) cu σ Q = (X z 214 316 [x0, x1, x2, x3, x4, x5, x6, x7, x8] (st) cu σ Q) := by
  rw [x214_39]
  exact tsw_in (j := 3) (by decide) (by decide) (by decide) rfl
theorem w214_39_4 {z : P0} {st : List Value} {cu : Nat × Nat} {Q : Res → Mem → Prop} {σ : Mem} {x0 x1 x2 x3 x4 x5 x6 x7 x8 : Option Value} : X z 214 39 [x0, x1, x2, x3, x4, x5, x6, x7, x8] (.int (nI 4) :: st) cu σ Q = (X z 214 384 [x0, x1, x2, x3, x4, x5, x6, x7, x8] (st) cu σ Q) := by
  rw [x214_39]
  exact tsw_in (j := 4) (by decide) (by decide) (by decide) rfl
theorem w214_39_5 {z : P0} {st : List Value} {cu : Nat × Nat} {Q : Res → Mem → Prop} {σ : Mem} {x0 x1 x2 x3 x4 x5 x6 x7 x8 : Option Value} : X z 214 39 [x0, x1, x2, x3, x4, x5, x6, x7, x8] (.int (nI 5) :: st) cu σ Q = (X z 214 452 [x0, x1, x2, x3, x4, x5, x6, x7, x8] (st) cu σ Q) := by
  rw [x214_39]
  exact tsw_in (j := 5) (by decide) (by decide) (by decide) rfl
theorem w214_39_6 {z : P0} {st : List Value} {cu : Nat × Nat} {Q : Res → Mem → Prop} {σ : Mem} {x0 x1 x2 x3 x4 x5 x6 x7 x8 : Option Value} : X z 214 39 [x0, x1, x2, x3, x4, x5, x6, x7, x8] (.int (nI 6) :: st) cu σ Q = (X z 214 536 [x0, x1, x2, x3, x4, x5, x6, x7, x8] (st) cu σ Q) := by
  rw [x214_39]
  exact tsw_in (j := 6) (by decide) (by decide) (by decide) rfl
theorem w214_39_7 {z : P0} {st : List Value} {cu : Nat × Nat} {Q : Res → Mem → Prop} {σ : Mem} {x0 x1 x2 x3 x4 x5 x6 x7 x8 : Option Value} : X z 214 39 [x0, x1, x2, x3, x4, x5, x6, x7, x8] (.int (nI 7) :: st) cu σ Q = (X z 214 604 [x0, x1, x2, x3, x4, x5, x6, x7, x8] (st) cu σ Q) := by
  rw [x214_39]
  exact tsw_in (j := 7) (by decide) (by decide) (by decide) rfl
theorem w214_39_8 {z : P0} {st : List Value} {cu : Nat × Nat} {Q : Res → Mem → Prop} {σ : Mem} {x0 x1 x2 x3 x4 x5 x6 x7 x8 : Option Value} : X z 214 39 [x0, x1, x2, x3, x4, x5, x6, x7, x8] (.int (nI 8) :: st) cu σ Q = (X z 214 648 [x0, x1, x2, x3, x4, x5, x6, x7, x8] (st) cu σ Q) := by
  rw [x214_39]
  exact tsw_in (j := 8) (by decide) (by decide) (by decide) rfl
theorem w214_39_9 {z : P0} {st : List Value} {cu : Nat × Nat} {Q : Res → Mem → Prop} {σ : Mem} {x0 x1 x2 x3 x4 x5 x6 x7 x8 : Option Value} : X z 214 39 [x0, x1, x2, x3, x4, x5, x6, x7, x8] (.int (nI 9) :: st) cu σ Q = (X z 214 704 [x0, x1, x2, x3, x4, x5, x6, x7, x8] (st) cu σ Q) := by
  rw [x214_39]
  exact tsw_in (j := 9) (by decide) (by decide) (by decide) rfl
theorem w214_39_10 {z : P0} {st : List Value} {cu : Nat × Nat} {Q : Res → Mem → Prop} {σ : Mem} {x0 x1 x2 x3 x4 x5 x6 x7 x8 : Option Value} : X z 214 39 [x0, x1, x2, x3, x4, x5, x6, x7, x8] (.int (nI 10) :: st) cu σ Q = (X z 214 760 [x0, x1, x2, x3, x4, x5, x6, x7, x8] (st) cu σ Q) := by
  rw [x214_39]
  exact tsw_in (j := 10) (by decide) (by decide) (by decide) rfl
theorem w214_39_11 {z : P0} {st : List Value} {cu : Nat × Nat} {Q : Res → Mem → Prop} {σ : Mem} {x0 x1 x2 x3 x4 x5 x6 x7 x8 : Option Value} : X z 214 39 [x0, x1, x2, x3, x4, x5, x6, x7, x8] (.int (nI 11) :: st) cu σ Q = (X z 214 773 [x0, x1, x2, x3, x4, x5, x6, x7, x8] (st) cu σ Q) := by
  rw [x214_39]
  exact tsw_in (j := 11) (by decide) (by decide) (by decide) rfl
theorem w214_39_12 {z : P0} {st : List Value} {cu : Nat × Nat} {Q : Res → Mem → Prop} {σ : Mem} {x0 x1 x2 x3 x4 x5 x6 x7 x8 : Option Value} : X z 214 39 [x0, x1, x2, x3, x4, x5, x6, x7, x8] (.int (nI 12) :: st) cu σ Q = (X z 214 829 [x0, x1, x2, x3, x4, x5, x6, x7, x8] (st) cu σ Q) := by
  rw [x214_39]
  exact tsw_in (j := 12) (by decide) (by decide) (by decide) rfl
theorem w214_39_13 {z : P0} {st : List Value} {cu : Nat × Nat} {Q : Res → Mem → Prop} {σ : Mem} {x0 x1 x2 x3 x4 x5 x6 x7 x8 : Option Value} : X z 214 39 [x0, x1, x2, x3, x4, x5, x6, x7, x8] (.int (nI 13) :: st) cu σ Q = (X z 214 873 [x0, x1, x2, x3, x4, x5, x6, x7, x8] (st) cu σ Q) := by
  rw [x214_39]
  exact tsw_in (j := 13) (by decide) (by decide) (by decide) rfl
theorem w214_39_14 {z : P0} {st : List Value} {cu : Nat × Nat} {Q : Res → Mem → Prop} {σ : Mem} {x0 x1 x2 x3 x4 x5 x6 x7 x8 : Option Value} : X z 214 39 [x0, x1, x2, x3, x4, x5, x6, x7, x8] (.int (nI 14) :: st) cu σ Q = (X z 214 941 [x0, x1, x2, x3, x4, x5, x6, x7, x8] (st) cu σ Q) := by
  rw [x214_39]
  exact tsw_in (j := 14) (by decide) (by decide) (by decide) rfl
theorem w214_39_15 {z : P0} {st : List Value} {cu : Nat × Nat} {Q : Res → Mem → Prop} {σ : Mem} {x0 x1 x2 x3 x4 x5 x6 x7 x8 : Option Value} : X z 214 39 [x0, x1, x2, x3, x4, x5, x6, x7, x8] (.int (nI 15) :: st) cu σ Q = (X z 214 1009 [x0, x1, x2, x3, x4, x5, x6, x7, x8] (st) cu σ Q) := by
  rw [x214_39]
  exact tsw_in (j := 15) (by decide) (by decide) (by decide) rfl
theorem w214_39_16 {z : P0} {st : List Value} {cu : Nat × Nat} {Q : Res → Mem → Prop} {σ : Mem} {x0 x1 x2 x3 x4 x5 x6 x7 x8 : Option Value} : X z 214 39 [x0, x1, x2, x3, x4, x5, x6, x7, x8] (.int (nI 16) :: st) cu σ Q = (X z 214 1077 [x0, x1, x2, x3, x4, x5, x6, x7, x8] (st) cu σ Q) := by
  rw [x214_39]
  exact tsw_in (j := 16) (by decide) (by decide) (by decide) rfl
theorem w214_39_17 {z : P0} {st : List Value} {cu : Nat × Nat} {Q : Res → Mem → Prop} {σ : Mem} {x0 x1 x2 x3 x4 x5 x6 x7 x8 : Option Value} : X z 214 39 [x0, x1, x2, x3, x4, x5, x6, x7, x8] (.int (nI 17) :: st) cu σ Q = (X z 214 1145 [x0, x1, x2, x3, x4, x5, x6, x7, x8] (st) cu σ Q) := by
  rw [x214_39]
  exact tsw_in (j := 17) (by decide) (by decide) (by decide) rfl
theorem w214_39_18 {z : P0} {st : List Value} {cu : Nat × Nat} {Q : Res → Mem → Prop} {σ : Mem} {x0 x1 x2 x3 x4 x5 x6 x7 x8 : Option Value} : X z 214 39 [x0, x1, x2, x3, x4, x5, x6, x7, x8] (.int (nI 18) :: st) cu σ Q = (X z 214 1213 [x0, x1, x2, x3, x4, x5, x6, x7, x8] (st) cu σ Q) := by
  rw [x214_39]
  exact tsw_in (j := 18) (by decide) (by decide) (by decide) rfl
theorem w214_39_19 {z : P0} {st : List Value} {cu : Nat × Nat} {Q : Res → Mem → Prop} {σ : Mem} {x0 x1 x2 x3 x4 x5 x6 x7 x8 : Option Value} : X z 214 39 [x0, x1, x2, x3, x4, x5, x6, x7, x8] (.int (nI 19) :: st) cu σ Q = (X z 214 1269 [x0, x1, x2, x3, x4, x5, x6, x7, x8] (st) cu σ Q) := by
  rw [x214_39]
  exact tsw_in (j := 19) (by decide) (by decide) (by decide) rfl
theorem w214_39_20 {z : P0} {st : List Value} {cu : Nat × Nat} {Q : Res → Mem → Prop} {σ : Mem} {x0 x1 x2 x3 x4 x5 x6 x7 x8 : Option Value} : X z 214 39 [x0, x1, x2, x3, x4, x5, x6, x7, x8] (.int (nI 20) :: st) cu σ Q = (X z 214 1325 [x0, x1, x2, x3, x4, x5, x6, x7, x8] (st) cu σ Q) := by
  rw [x214_39]
  exact tsw_in (j := 20) (by decide) (by decide) (by decide) rfl
theorem w214_39_21 {z : P0} {st : List Value} {cu : Nat × Nat} {Q : Res → Mem → Prop} {σ : Mem} {x0 x1 x2 x3 x4 x5 x6 x7 x8 : Option Value} : X z 214 39 [x0, x1, x2, x3, x4, x5, x6, x7, x8] (.int (nI 21) :: st) cu σ Q = (X z 214 1381 [x0, x1, x2, x3, x4, x5, x6, x7, x8] (st) cu σ Q) := by
  rw [x214_39]
  exact tsw_in (j := 21) (by decide) (by decide) (by decide) rfl
theorem w214_39_22 {z : P0} {st : List Value} {cu : Nat × Nat} {Q : Res → Mem → Prop} {σ : Mem} {x0 x1 x2 x3 x4 x5 x6 x7 x8 : Option Value} : X z 214 39 [x0, x1, x2, x3, x4, x5, x6, x7, x8] (.int (nI 22) :: st) cu σ Q = (X z 214 1461 [x0, x1, x2, x3, x4, x5, x6, x7, x8] (st) cu σ Q) := by
  rw [x214_39]
  exact tsw_in (j := 22) (by decide) (by decide) (by decide) rfl
theorem w214_39_23 {z : P0} {st : List Value} {cu : Nat × Nat} {Q : Res → Mem → Prop} {σ : Mem} {x0 x1 x2 x3 x4 x5 x6 x7 x8 : Option Value} : X z 214 39 [x0, x1, x2, x3, x4, x5, x6, x7, x8] (.int (nI 23) :: st) cu σ Q = (X z 214 1474 [x0, x1, x2, x3, x4, x5, x6, x7, x8] (st) cu σ Q) := by
  rw [x214_39]
  exact tsw_in (j := 23) (by decide) (by decide) (by decide) rfl
theorem w214_39_24 {z : P0} {st : List Value} {cu : Nat × Nat} {Q : Res → Mem → Prop} {σ : Mem} {x0 x1 x2 x3 x4 x5 x6 x7 x8 : Option Value} : X z 214 39 [x0, x1, x2, x3, x4, x5, x6, x7, x8] (.int (nI 24) :: st) cu σ Q = (X z 214 1487 [x0, x1, x2, x3, x4, x5, x6, x7, x8] (st) cu σ Q) := by
  rw [x214_39]
  exact tsw_in (j := 24) (by decide) (by decide) (by decide) rfl
theorem w214_39_25 {z : P0} {st : List Value} {cu : Nat × Nat} {Q : Res → Mem → Prop} {σ : Mem} {x0 x1 x2 x3 x4 x5 x6 x7 x8 : Option Value} : X z 214 39 [x0, x1, x2, x3, x4, x5, x6, x7, x8] (.int (nI 25) :: st) cu σ Q = (X z 214 1543 [x0, x1, x2, x3, x4, x5, x6, x7, x8] (st) cu σ Q) := by
  rw [x214_39]
  exact tsw_in (j := 25) (by decide) (by decide) (by decide) rfl
theorem w214_39_26 {z : P0} {st : List Value} {cu : Nat × Nat} {Q : Res → Mem → Prop} {σ : Mem} {x0 x1 x2 x3 x4 x5 x6 x7 x8 : Option Value} : X z 214 39 [x0, x1, x2, x3, x4, x5, x6, x7, x8] (.int (nI 26) :: st) cu σ Q = (X z 214 1584 [x0, x1, x2, x3, x4, x5, x6, x7, x8] (st) cu σ Q) := by
  rw [x214_39]
  exact tsw_in (j := 26) (by decide) (by decide) (by decide) rfl
theorem w214_39_d {z : P0} {st : List Value} {cu : Nat × Nat} {Q : Res → Mem → Prop} {σ : Mem} {x0 x1 x2 x3 x4 x5 x6 x7 x8 : Option Value} {j : Nat} (h : 26 < j ∧ j < 2147483648) : X z 214 39 [x0, x1, x2, x3, x4, x5, x6, x7, x8] (.int (nI j) :: st) cu σ Q = (X z 214 1598 [x0, x1, x2, x3, x4, x5, x6, x7, x8] (st) cu σ Q) := by
  rw [x214_39]
  exact tsw_out (Or.inr (by rw [nI_toInt h.2]; omega))
theorem v214_160 {z : P0} {st : List Value} {cu : Nat × Nat} {Q : Res → Mem → Prop} {σ : Mem} {x0 x2 x3 x4 x5 x6 x7 x8 : Option Value} {u : Nat} : X z 214 160 [x0, some (.ref u), x2, x3, x4, x5, x6, x7, x8] (st) cu σ Q = (X z 214 161 [x0, some (.ref u), x2, x3, x4, x5, x6, x7, x8] (.ref u :: st) cu σ Q) := by
  rw [x214_160]
  rfl
theorem v214_161 {z : P0} {st : List Value} {cu : Nat × Nat} {Q : Res → Mem → Prop} {σ : Mem} {x1 x2 x3 x4 x5 x6 x7 x8 : Option Value} {u : Nat} : X z 214 161 [some (.ref u), x1, x2, x3, x4, x5, x6, x7, x8] (st) cu σ Q = (X z 214 162 [some (.ref u), x1, x2, x3, x4, x5, x6, x7, x8] (.ref u :: st) cu σ Q) := by
  rw [x214_161]
  rfl
theorem v214_162 {z : P0} {st : List Value} {cu : Nat × Nat} {Q : Res → Mem → Prop} {σ : Mem} {x0 x1 x2 x3 x5 x6 x7 x8 : Option Value} {u : Int32} : X z 214 162 [x0, x1, x2, x3, some (.int u), x5, x6, x7, x8] (st) cu σ Q = (X z 214 164 [x0, x1, x2, x3, some (.int u), x5, x6, x7, x8] (.int u :: st) cu σ Q) := by
  rw [x214_162]
  rfl
theorem v214_164 {z : P0} {st : List Value} {cu : Nat × Nat} {Q : Res → Mem → Prop} {σ : Mem} {x0 x1 x2 x3 x4 x5 x6 x7 x8 : Option Value} : X z 214 164 [x0, x1, x2, x3, x4, x5, x6, x7, x8] (st) cu σ Q = (X z 214 165 [x0, x1, x2, x3, x4, x5, x6, x7, x8] (.int (nI 1) :: st) cu σ Q) := by
  rw [x214_164]
  rfl
theorem v214_165 {z : P0} {st : List Value} {cu : Nat × Nat} {Q : Res → Mem → Prop} {σ : Mem} {x0 x1 x2 x3 x4 x5 x6 x7 x8 : Option Value} {u v : Int32} : X z 214 165 [x0, x1, x2, x3, x4, x5, x6, x7, x8] (.int v :: .int u :: st) cu σ Q = (X z 214 166 [x0, x1, x2, x3, x4, x5, x6, x7, x8] (.int (u + v) :: st) cu σ Q) := by
  rw [x214_165]
  rfl
theorem v214_166 {z : P0} {st : List Value} {cu : Nat × Nat} {Q : Res → Mem → Prop} {K : Nat → Nat × Nat} {I : Nat → Nat → Int32} {R : Nat → Nat → Option Nat} {L : Nat → Nat → Int64} {sz : Nat} {ex : Bool} {x0 x1 x2 x3 x4 x5 x6 x7 x8 : Option Value} {u : Nat} {v : Int32} : X z 214 166 [x0, x1, x2, x3, x4, x5, x6, x7, x8] (.int v :: .ref u :: st) cu (K, I, R, L, sz, ex) Q = (((K u).1 = 20 ∨ (K u).1 = 50) ∧ vp_in v (K u).2 ∧ X z 214 167 [x0, x1, x2, x3, x4, x5, x6, x7, x8] (.int (I u v.toNatClampNeg) :: st) cu (K, I, R, L, sz, ex) Q) := by
  rw [x214_166]
  rfl
theorem v214_167 {z : P0} {st : List Value} {cu : Nat × Nat} {Q : Res → Mem → Prop} {σ : Mem} {x1 x2 x3 x4 x5 x6 x7 x8 : Option Value} {u : Nat} : X z 214 167 [some (.ref u), x1, x2, x3, x4, x5, x6, x7, x8] (st) cu σ Q = (X z 214 168 [some (.ref u), x1, x2, x3, x4, x5, x6, x7, x8] (.ref u :: st) cu σ Q) := by
  rw [x214_167]
  rfl
theorem v214_168 {z : P0} {st : List Value} {cu : Nat × Nat} {Q : Res → Mem → Prop} {σ : Mem} {x0 x1 x2 x3 x5 x6 x7 x8 : Option Value} {u : Int32} : X z 214 168 [x0, x1, x2, x3, some (.int u), x5, x6, x7, x8] (st) cu σ Q = (X z 214 170 [x0, x1, x2, x3, some (.int u), x5, x6, x7, x8] (.int u :: st) cu σ Q) := by
  rw [x214_168]
  rfl
theorem v214_170 {z : P0} {st : List Value} {cu : Nat × Nat} {Q : Res → Mem → Prop} {σ : Mem} {x0 x1 x2 x3 x4 x5 x6 x7 x8 : Option Value} : X z 214 170 [x0, x1, x2, x3, x4, x5, x6, x7, x8] (st) cu σ Q = (X z 214 171 [x0, x1, x2, x3, x4, x5, x6, x7, x8] (.int (nI 2) :: st) cu σ Q) := by
  rw [x214_170]
  rfl
theorem v214_171 {z : P0} {st : List Value} {cu : Nat × Nat} {Q : Res → Mem → Prop} {σ : Mem} {x0 x1 x2 x3 x4 x5 x6 x7 x8 : Option Value} {u v : Int32} : X z 214 171 [x0, x1, x2, x3, x4, x5, x6, x7, x8] (.int v :: .int u :: st) cu σ Q = (X z 214 172 [x0, x1, x2, x3, x4, x5, x6, x7, x8] (.int (u + v) :: st) cu σ Q) := by
  rw [x214_171]
  rfl
theorem v214_172 {z : P0} {st : List Value} {cu : Nat × Nat} {Q : Res → Mem → Prop} {K : Nat → Nat × Nat} {I : Nat → Nat → Int32} {R : Nat → Nat → Option Nat} {L : Nat → Nat → Int64} {sz : Nat} {ex : Bool} {x0 x1 x2 x3 x4 x5 x6 x7 x8 : Option Value} {u : Nat} {v : Int32} : X z 214 172 [x0, x1, x2, x3, x4, x5, x6, x7, x8] (.int v :: .ref u :: st) cu (K, I, R, L, sz, ex) Q = (((K u).1 = 20 ∨ (K u).1 = 50) ∧ vp_in v (K u).2 ∧ X z 214 173 [x0, x1, x2, x3, x4, x5, x6, x7, x8] (.int (I u v.toNatClampNeg) :: st) cu (K, I, R, L, sz, ex) Q) := by
  rw [x214_172]
  rfl
theorem v214_173 {z : P0} {st : List Value} {cu : Nat × Nat} {Q : Res → Mem → Prop} {σ : Mem} {x0 x1 x2 x4 x5 x6 x7 x8 : Option Value} {u : Nat} : X z 214 173 [x0, x1, x2, some (.ref u), x4, x5, x6, x7, x8] (st) cu σ Q = (X z 214 174 [x0, x1, x2, some (.ref u), x4, x5, x6, x7, x8] (.ref u :: st) cu σ Q) := by
  rw [x214_173]
  rfl
theorem u214_174 {z : P0} {ls : Lcs} {st : List Value} {c n : Nat} {K : Nat → Nat × Nat} {I : Nat → Nat → Int32} {R : Nat → Nat → Option Nat} {L : Nat → Nat → Int64} {sz : Nat} {ex : Bool} {Q : Res → Mem → Prop} {a0 : Nat} {a1 : Int32} {a2 : Int32} {a3 : Nat} : X z 214 174 ls (.ref a3 :: .int a2 :: .int a1 :: .ref a0 :: st) (c, n) (K, I, R, L, sz, ex) Q = (wsum st ≤ 8 ∧ c + 1 ≤ 601024 ∧ n + 6 ≤ 7293034 ∧ X z 192 0 [some (.ref a0), some (.int a1), some (.int a2), some (.ref a3), none] [] (0, 0) (K, I, R, L, sz, ex) (aftr (X z) mT 214 174 ls st (c + 1, n + 6) Q)) := v214_174
theorem v214_177 {z : P0} {st : List Value} {cu : Nat × Nat} {Q : Res → Mem → Prop} {σ : Mem} {x0 x1 x2 x3 x4 x5 x6 x7 x8 : Option Value} {u : Int32} : X z 214 177 [x0, x1, x2, x3, x4, x5, x6, x7, x8] (.int u :: st) cu σ Q = (cat2 x4 = false ∧ X z 214 179 [x0, x1, x2, x3, x4, some (.int u), x6, x7, x8] (st) cu σ Q) := by
  rw [x214_177]
  obtain ⟨K, I, R, L, sz, ex⟩ := σ
  exact i_istore.trans sl_5
theorem v214_179 {z : P0} {st : List Value} {cu : Nat × Nat} {Q : Res → Mem → Prop} {σ : Mem} {x0 x1 x3 x4 x5 x6 x7 x8 : Option Value} {u : Nat} : X z 214 179 [x0, x1, some (.ref u), x3, x4, x5, x6, x7, x8] (st) cu σ Q = (X z 214 180 [x0, x1, some (.ref u), x3, x4, x5, x6, x7, x8] (.ref u :: st) cu σ Q) := by
  rw [x214_179]
  rfl
theorem v214_180 {z : P0} {st : List Value} {cu : Nat × Nat} {Q : Res → Mem → Prop} {σ : Mem} {x1 x2 x3 x4 x5 x6 x7 x8 : Option Value} {u : Nat} : X z 214 180 [some (.ref u), x1, x2, x3, x4, x5, x6, x7, x8] (st) cu σ Q = (X z 214 181 [some (.ref u), x1, x2, x3, x4, x5, x6, x7, x8] (.ref u :: st) cu σ Q) := by
  rw [x214_180]
  rfl
theorem v214_181 {z : P0} {st : List Value} {cu : Nat × Nat} {Q : Res → Mem → Prop} {σ : Mem} {x0 x1 x2 x3 x5 x6 x7 x8 : Option Value} {u : Int32} : X z 214 181 [x0, x1, x2, x3, some (.int u), x5, x6, x7, x8] (st) cu σ Q = (X z 214 183 [x0, x1, x2, x3, some (.int u), x5, x6, x7, x8] (.int u :: st) cu σ Q) := by
  rw [x214_181]
  rfl
theorem v214_183 {z : P0} {st : List Value} {cu : Nat × Nat} {Q : Res → Mem → Prop} {σ : Mem} {x0 x1 x2 x3 x4 x5 x6 x7 x8 : Option Value} : X z 214 183 [x0, x1, x2, x3, x4, x5, x6, x7, x8] (st) cu σ Q = (X z 214 184 [x0, x1, x2, x3, x4, x5, x6, x7, x8] (.int (nI 1) :: st) cu σ Q) := by
  rw [x214_183]
  rfl
theorem v214_184 {z : P0} {st : List Value} {cu : Nat × Nat} {Q : Res → Mem → Prop} {σ : Mem} {x0 x1 x2 x3 x4 x5 x6 x7 x8 : Option Value} {u v : Int32} : X z 214 184 [x0, x1, x2, x3, x4, x5, x6, x7, x8] (.int v :: .int u :: st) cu σ Q = (X z 214 185 [x0, x1, x2, x3, x4, x5, x6, x7, x8] (.int (u + v) :: st) cu σ Q) := by
  rw [x214_184]
  rfl
theorem v214_185 {z : P0} {st : List Value} {cu : Nat × Nat} {Q : Res → Mem → Prop} {K : Nat → Nat × Nat} {I : Nat → Nat → Int32} {R : Nat → Nat → Option Nat} {L : Nat → Nat → Int64} {sz : Nat} {ex : Bool} {x0 x1 x2 x3 x4 x5 x6 x7 x8 : Option Value} {u : Nat} {v : Int32} : X z 214 185 [x0, x1, x2, x3, x4, x5, x6, x7, x8] (.int v :: .ref u :: st) cu (K, I, R, L, sz, ex) Q = (((K u).1 = 20 ∨ (K u).1 = 50) ∧ vp_in v (K u).2 ∧ X z 214 186 [x0, x1, x2, x3, x4, x5, x6, x7, x8] (.int (I u v.toNatClampNeg) :: st) cu (K, I, R, L, sz, ex) Q) := by
  rw [x214_185]
  rfl
theorem v214_186 {z : P0} {st : List Value} {cu : Nat × Nat} {Q : Res → Mem → Prop} {σ : Mem} {x1 x2 x3 x4 x5 x6 x7 x8 : Option Value} {u : Nat} : X z 214 186 [some (.ref u), x1, x2, x3, x4, x5, x6, x7, x8] (st) cu σ Q = (X z 214 187 [some (.ref u), x1, x2, x3, x4, x5, x6, x7, x8] (.ref u :: st) cu σ Q) := by
  rw [x214_186]
  rfl
theorem v214_187 {z : P0} {st : List Value} {cu : Nat × Nat} {Q : Res → Mem → Prop} {σ : Mem} {x0 x1 x2 x3 x5 x6 x7 x8 : Option Value} {u : Int32} : X z 214 187 [x0, x1, x2, x3, some (.int u), x5, x6, x7, x8] (st) cu σ Q = (X z 214 189 [x0, x1, x2, x3, some (.int u), x5, x6, x7, x8] (.int u :: st) cu σ Q) := by
  rw [x214_187]
  rfl
theorem v214_189 {z : P0} {st : List Value} {cu : Nat × Nat} {Q : Res → Mem → Prop} {σ : Mem} {x0 x1 x2 x3 x4 x5 x6 x7 x8 : Option Value} : X z 214 189 [x0, x1, x2, x3, x4, x5, x6, x7, x8] (st) cu σ Q = (X z 214 190 [x0, x1, x2, x3, x4, x5, x6, x7, x8] (.int (nI 2) :: st) cu σ Q) := by
  rw [x214_189]
  rfl
theorem v214_190 {z : P0} {st : List Value} {cu : Nat × Nat} {Q : Res → Mem → Prop} {σ : Mem} {x0 x1 x2 x3 x4 x5 x6 x7 x8 : Option Value} {u v : Int32} : X z 214 190 [x0, x1, x2, x3, x4, x5, x6, x7, x8] (.int v :: .int u :: st) cu σ Q = (X z 214 191 [x0, x1, x2, x3, x4, x5, x6, x7, x8] (.int (u + v) :: st) cu σ Q) := by
  rw [x214_190]
  rfl
theorem v214_191 {z : P0} {st : List Value} {cu : Nat × Nat} {Q : Res → Mem → Prop} {K : Nat → Nat × Nat} {I : Nat → Nat → Int32} {R : Nat → Nat → Option Nat} {L : Nat → Nat → Int64} {sz : Nat} {ex : Bool} {x0 x1 x2 x3 x4 x5 x6 x7 x8 : Option Value} {u : Nat} {v : Int32} : X z 214 191 [x0, x1, x2, x3, x4, x5, x6, x7, x8] (.int v :: .ref u :: st) cu (K, I, R, L, sz, ex) Q = (((K u).1 = 20 ∨ (K u).1 = 50) ∧ vp_in v (K u).2 ∧ X z 214 192 [x0, x1, x2, x3, x4, x5, x6, x7, x8] (.int (I u v.toNatClampNeg) :: st) cu (K, I, R, L, sz, ex) Q) := by
  rw [x214_191]
  rfl
theorem u214_192 {z : P0} {ls : Lcs} {st : List Value} {c n : Nat} {K : Nat → Nat × Nat} {I : Nat → Nat → Int32} {R : Nat → Nat → Option Nat} {L : Nat → Nat → Int64} {sz : Nat} {ex : Bool} {Q : Res → Mem → Prop} {x : Nat} {a0 : Int32} {a1 : Int32} : X z 214 192 ls (.int a1 :: .int a0 :: .ref x :: st) (c, n) (K, I, R, L, sz, ex) Q = ((K x).1 = 111 ∧ wsum st ≤ 8 ∧ c + 0 ≤ 601024 ∧ n + 0 ≤ 7293034 ∧ X z 133 0 [some (.ref x), some (.int a0), some (.int a1), none, none, none] [] (0, 0) (K, I, R, L, sz, ex) (aftr (X z) mT 214 192 ls st (c + 0, n + 0) Q)) := v214_192
theorem v214_195 {z : P0} {st : List Value} {cu : Nat × Nat} {Q : Res → Mem → Prop} {σ : Mem} {x0 x1 x2 x3 x4 x5 x6 x7 x8 : Option Value} {u : Int32} : X z 214 195 [x0, x1, x2, x3, x4, x5, x6, x7, x8] (.int u :: st) cu σ Q = (cat2 x5 = false ∧ X z 214 197 [x0, x1, x2, x3, x4, x5, some (.int u), x7, x8] (st) cu σ Q) := by
  rw [x214_195]
  obtain ⟨K, I, R, L, sz, ex⟩ := σ
  exact i_istore.trans sl_6
theorem v214_197 {z : P0} {st : List Value} {cu : Nat × Nat} {Q : Res → Mem → Prop} {σ : Mem} {x0 x1 x3 x4 x5 x6 x7 x8 : Option Value} {u : Nat} : X z 214 197 [x0, x1, some (.ref u), x3, x4, x5, x6, x7, x8] (st) cu σ Q = (X z 214 198 [x0, x1, some (.ref u), x3, x4, x5, x6, x7, x8] (.ref u :: st) cu σ Q) := by
  rw [x214_197]
  rfl
theorem u214_198 {z : P0} {ls : Lcs} {st : List Value} {c n : Nat} {K : Nat → Nat × Nat} {I : Nat → Nat → Int32} {R : Nat → Nat → Option Nat} {L : Nat → Nat → Int64} {sz : Nat} {ex : Bool} {Q : Res → Mem → Prop} {x : Nat} : X z 214 198 ls (.ref x :: st) (c, n) (K, I, R, L, sz, ex) Q = ((K x).1 = 111 ∧ wsum st ≤ 8 ∧ c + 0 ≤ 601024 ∧ n + 0 ≤ 7293034 ∧ X z 105 0 [some (.ref x)] [] (0, 0) (K, I, R, L, sz, ex) (aftr (X z) mT 214 198 ls st (c + 0, n + 0) Q)) := v214_198
theorem v214_201 {z : P0} {st : List Value} {cu : Nat × Nat} {Q : Res → Mem → Prop} {σ : Mem} {x0 x1 x2 x3 x4 x6 x7 x8 : Option Value} {u : Int32} : X z 214 201 [x0, x1, x2, x3, x4, some (.int u), x6, x7, x8] (st) cu σ Q = (X z 214 203 [x0, x1, x2, x3, x4, some (.int u), x6, x7, x8] (.int u :: st) cu σ Q) := by
  rw [x214_201]
  rfl
theorem v214_203 {z : P0} {st : List Value} {cu : Nat × Nat} {Q : Res → Mem → Prop} {σ : Mem} {x0 x1 x2 x3 x4 x5 x6 x7 x8 : Option Value} {u v : Int32} : X z 214 203 [x0, x1, x2, x3, x4, x5, x6, x7, x8] (.int v :: .int u :: st) cu σ Q = (if u = v then X z 214 208 [x0, x1, x2, x3, x4, x5, x6, x7, x8] (st) cu σ Q else X z 214 206 [x0, x1, x2, x3, x4, x5, x6, x7, x8] (st) cu σ Q) := by
  rw [x214_203]
  obtain ⟨K, I, R, L, sz, ex⟩ := σ
  exact br_ite
theorem v214_206 {z : P0} {st : List Value} {cu : Nat × Nat} {Q : Res → Mem → Prop} {σ : Mem} {x0 x1 x2 x3 x4 x5 x6 x7 x8 : Option Value} : X z 214 206 [x0, x1, x2, x3, x4, x5, x6, x7, x8] (st) cu σ Q = (X z 214 207 [x0, x1, x2, x3, x4, x5, x6, x7, x8] (.int (nI 0) :: st) cu σ Q) := by
  rw [x214_206]
  rfl
theorem v214_207 {z : P0} {cu : Nat × Nat} {Q : Res → Mem → Prop} {σ : Mem} {x0 x1 x2 x3 x4 x5 x6 x7 x8 : Option Value} {v : Int32} : X z 214 207 [x0, x1, x2, x3, x4, x5, x6, x7, x8] ([.int v]) cu σ Q = ((v = nI 0 ∨ v = nI 1) ∧ Q (.inl (some (.int v))) σ) := by
  rw [x214_207]
  rw [nI_0, one1]
  rfl
theorem v214_208 {z : P0} {st : List Value} {cu : Nat × Nat} {Q : Res → Mem → Prop} {σ : Mem} {x0 x1 x2 x3 x4 x6 x7 x8 : Option Value} {u : Int32} : X z 214 208 [x0, x1, x2, x3, x4, some (.int u), x6, x7, x8] (st) cu σ Q = (X z 214 210 [x0, x1, x2, x3, x4, some (.int u), x6, x7, x8] (.int u :: st) cu σ Q) := by
  rw [x214_208]
  rfl
theorem v214_210 {z : P0} {st : List Value} {cu : Nat × Nat} {Q : Res → Mem → Prop} {σ : Mem} {x0 x1 x2 x3 x4 x5 x6 x7 x8 : Option Value} {u : Int32} : X z 214 210 [x0, x1, x2, x3, x4, x5, x6, x7, x8] (.int u :: st) cu σ Q = (if u = nI 0 then X z 214 213 [x0, x1, x2, x3, x4, x5, x6, x7, x8] (st) cu σ Q else X z 214 225 [x0, x1, x2, x3, x4, x5, x6, x7, x8] (st) cu σ Q) := by
  rw [x214_210]
  rw [nI_0]
  obtain ⟨K, I, R, L, sz, ex⟩ := σ
  exact br_ne
theorem v214_213 {z : P0} {st : List Value} {cu : Nat × Nat} {Q : Res → Mem → Prop} {σ : Mem} {x0 x1 x2 x4 x5 x6 x7 x8 : Option Value} {u : Nat} : X z 214 213 [x0, x1, x2, some (.ref u), x4, x5, x6, x7, x8] (st) cu σ Q = (X z 214 214 [x0, x1, x2, some (.ref u), x4, x5, x6, x7, x8] (.ref u :: st) cu σ Q) := by
  rw [x214_213]
  rfl
theorem v214_214 {z : P0} {st : List Value} {cu : Nat × Nat} {Q : Res → Mem → Prop} {σ : Mem} {x0 x1 x2 x3 x4 x5 x6 x7 x8 : Option Value} : X z 214 214 [x0, x1, x2, x3, x4, x5, x6, x7, x8] (st) cu σ Q = (X z 214 215 [x0, x1, x2, x3, x4, x5, x6, x7, x8] (.int (nI 0) :: st) cu σ Q) := by
  rw [x214_214]
  rfl
theorem v214_215 {z : P0} {st : List Value} {cu : Nat × Nat} {Q : Res → Mem → Prop} {K : Nat → Nat × Nat} {I : Nat → Nat → Int32} {R : Nat → Nat → Option Nat} {L : Nat → Nat → Int64} {sz : Nat} {ex : Bool} {x0 x1 x2 x3 x4 x5 x6 x7 x8 : Option Value} {u : Nat} {v : Int32} : X z 214 215 [x0, x1, x2, x3, x4, x5, x6, x7, x8] (.int v :: .ref u :: st) cu (K, I, R, L, sz, ex) Q = ((K u).1 = 21 ∧ vp_in v (K u).2 ∧ X z 214 216 [x0, x1, x2, x3, x4, x5, x6, x7, x8] (.long (L u v.toNatClampNeg) :: st) cu (K, I, R, L, sz, ex) Q) := by
  rw [x214_215]
  rfl
theorem v214_216 {z : P0} {st : List Value} {cu : Nat × Nat} {Q : Res → Mem → Prop} {σ : Mem} {x0 x1 x2 x3 x4 x5 x7 x8 : Option Value} {u : Int32} : X z 214 216 [x0, x1, x2, x3, x4, x5, some (.int u), x7, x8] (st) cu σ Q = (X z 214 218 [x0, x1, x2, x3, x4, x5, some (.int u), x7, x8] (.int u :: st) cu σ Q) := by
  rw [x214_216]
  rfl
theorem v214_218 {z : P0} {st : List Value} {cu : Nat × Nat} {Q : Res → Mem → Prop} {σ : Mem} {x0 x1 x2 x3 x4 x5 x6 x7 x8 : Option Value} {u : Int32} : X z 214 218 [x0, x1, x2, x3, x4, x5, x6, x7, x8] (.int u :: st) cu σ Q = (X z 214 219 [x0, x1, x2, x3, x4, x5, x6, x7, x8] (.long u.toInt64 :: st) cu σ Q) := by
  rw [x214_218]
  rfl
theorem v214_219 {z : P0} {st : List Value} {cu : Nat × Nat} {Q : Res → Mem → Prop} {σ : Mem} {x0 x1 x2 x3 x4 x5 x6 x7 x8 : Option Value} {u v : Int64} : X z 214 219 [x0, x1, x2, x3, x4, x5, x6, x7, x8] (.long v :: .long u :: st) cu σ Q = (X z 214 220 [x0, x1, x2, x3, x4, x5, x6, x7, x8] (.int (lg_cmp u v) :: st) cu σ Q) := by
  rw [x214_219]
  rfl
theorem v214_220 {z : P0} {st : List Value} {cu : Nat × Nat} {Q : Res → Mem → Prop} {σ : Mem} {x0 x1 x2 x3 x4 x5 x6 x7 x8 : Option Value} {u : Int32} : X z 214 220 [x0, x1, x2, x3, x4, x5, x6, x7, x8] (.int u :: st) cu σ Q = (if u = nI 0 then X z 214 225 [x0, x1, x2, x3, x4, x5, x6, x7, x8] (st) cu σ Q else X z 214 223 [x0, x1, x2, x3, x4, x5, x6, x7, x8] (st) cu σ Q) := by
  rw [x214_220]
  rw [nI_0]
  obtain ⟨K, I, R, L, sz, ex⟩ := σ
  exact br_ite
theorem v214_223 {z : P0} {st : List Value} {cu : Nat × Nat} {Q : Res → Mem → Prop} {σ : Mem} {x0 x1 x2 x3 x4 x5 x6 x7 x8 : Option Value} : X z 214 223 [x0, x1, x2, x3, x4, x5, x6, x7, x8] (st) cu σ Q = (X z 214 224 [x0, x1, x2, x3, x4, x5, x6, x7, x8] (.int (nI 0) :: st) cu σ Q) := by
  rw [x214_223]
  rfl
theorem v214_224 {z : P0} {cu : Nat × Nat} {Q : Res → Mem → Prop} {σ : Mem} {x0 x1 x2 x3 x4 x5 x6 x7 x8 : Option Value} {v : Int32} : X z 214 224 [x0, x1, x2, x3, x4, x5, x6, x7, x8] ([.int v]) cu σ Q = ((v = nI 0 ∨ v = nI 1) ∧ Q (.inl (some (.int v))) σ) := by
  rw [x214_224]
  rw [nI_0, one1]
  rfl
theorem v214_225 {z : P0} {st : List Value} {cu : Nat × Nat} {Q : Res → Mem → Prop} {σ : Mem} {x0 x1 x2 x3 x4 x5 x6 x7 x8 : Option Value} : X z 214 225 [x0, x1, x2, x3, x4, x5, x6, x7, x8] (st) cu σ Q = (X z 214 1598 [x0, x1, x2, x3, x4, x5, x6, x7, x8] (st) cu σ Q) := by
  rw [x214_225]
  rfl
theorem v214_228 {z : P0} {st : List Value} {cu : Nat × Nat} {Q : Res → Mem → Prop} {σ : Mem} {x0 x2 x3 x4 x5 x6 x7 x8 : Option Value} {u : Nat} : X z 214 228 [x0, some (.ref u), x2, x3, x4, x5, x6, x7, x8] (st) cu σ Q = (X z 214 229 [x0, some (.ref u), x2, x3, x4, x5, x6, x7, x8] (.ref u :: st) cu σ Q) := by
  rw [x214_228]
  rfl
theorem v214_229 {z : P0} {st : List Value} {cu : Nat × Nat} {Q : Res → Mem → Prop} {σ : Mem} {x0 x1 x2 x4 x5 x6 x7 x8 : Option Value} {u : Nat} : X z 214 229 [x0, x1, x2, some (.ref u), x4, x5, x6, x7, x8] (st) cu σ Q = (X z 214 230 [x0, x1, x2, some (.ref u), x4, x5, x6, x7, x8] (.ref u :: st) cu σ Q) := by
  rw [x214_229]
  rfl
theorem u214_230 {z : P0} {ls : Lcs} {st : List Value} {c n : Nat} {K : Nat → Nat × Nat} {I : Nat → Nat → Int32} {R : Nat → Nat → Option Nat} {L : Nat → Nat → Int64} {sz : Nat} {ex : Bool} {Q : Res → Mem → Prop} {a0 : Nat} {a1 : Nat} : X z 214 230 ls (.ref a1 :: .ref a0 :: st) (c, n) (K, I, R, L, sz, ex) Q = (wsum st ≤ 8 ∧ c + 1 ≤ 601024 ∧ n + 6 ≤ 7293034 ∧ X z 193 0 [some (.ref a0), some (.ref a1), none] [] (0, 0) (K, I, R, L, sz, ex) (aftr (X z) mT 214 230 ls st (c + 1, n + 6) Q)) := v214_230
theorem v214_233 {z : P0} {st : List Value} {cu : Nat × Nat} {Q : Res → Mem → Prop} {σ : Mem} {x0 x1 x2 x3 x4 x5 x6 x7 x8 : Option Value} {u : Int32} : X z 214 233 [x0, x1, x2, x3, x4, x5, x6, x7, x8] (.int u :: st) cu σ Q = (cat2 x4 = false ∧ X z 214 235 [x0, x1, x2, x3, x4, some (.int u), x6, x7, x8] (st) cu σ Q) := by
  rw [x214_233]
  obtain ⟨K, I, R, L, sz, ex⟩ := σ
  exact i_istore.trans sl_5
theorem v214_235 {z : P0} {st : List Value} {cu : Nat × Nat} {Q : Res → Mem → Prop} {σ : Mem} {x0 x1 x3 x4 x5 x6 x7 x8 : Option Value} {u : Nat} : X z 214 235 [x0, x1, some (.ref u), x3, x4, x5, x6, x7, x8] (st) cu σ Q = (X z 214 236 [x0, x1, some (.ref u), x3, x4, x5, x6, x7, x8] (.ref u :: st) cu σ Q) := by
  rw [x214_235]
  rfl
theorem u214_236 {z : P0} {ls : Lcs} {st : List Value} {c n : Nat} {K : Nat → Nat × Nat} {I : Nat → Nat → Int32} {R : Nat → Nat → Option Nat} {L : Nat → Nat → Int64} {sz : Nat} {ex : Bool} {Q : Res → Mem → Prop} {x : Nat} : X z 214 236 ls (.ref x :: st) (c, n) (K, I, R, L, sz, ex) Q = ((K x).1 = 111 ∧ wsum st ≤ 8 ∧ c + 0 ≤ 601024 ∧ n + 0 ≤ 7293034 ∧ X z 134 0 [some (.ref x), none, none, none] [] (0, 0) (K, I, R, L, sz, ex) (aftr (X z) mT 214 236 ls st (c + 0, n + 0) Q)) := v214_236
theorem v214_239 {z : P0} {st : List Value} {cu : Nat × Nat} {Q : Res → Mem → Prop} {σ : Mem} {x0 x1 x2 x3 x4 x5 x6 x7 x8 : Option Value} {u : Int32} : X z 214 239 [x0, x1, x2, x3, x4, x5, x6, x7, x8] (.int u :: st) cu σ Q = (cat2 x5 = false ∧ X z 214 241 [x0, x1, x2, x3, x4, x5, some (.int u), x7, x8] (st) cu σ Q) := by
  rw [x214_239]
  obtain ⟨K, I, R, L, sz, ex⟩ := σ
  exact i_istore.trans sl_6
theorem v214_241 {z : P0} {st : List Value} {cu : Nat × Nat} {Q : Res → Mem → Prop} {σ : Mem} {x0 x1 x3 x4 x5 x6 x7 x8 : Option Value} {u : Nat} : X z 214 241 [x0, x1, some (.ref u), x3, x4, x5, x6, x7, x8] (st) cu σ Q = (X z 214 242 [x0, x1, some (.ref u), x3, x4, x5, x6, x7, x8] (.ref u :: st) cu σ Q) := by
  rw [x214_241]
  rfl
theorem u214_242 {z : P0} {ls : Lcs} {st : List Value} {c n : Nat} {K : Nat → Nat × Nat} {I : Nat → Nat → Int32} {R : Nat → Nat → Option Nat} {L : Nat → Nat → Int64} {sz : Nat} {ex : Bool} {Q : Res → Mem → Prop} {x : Nat} : X z 214 242 ls (.ref x :: st) (c, n) (K, I, R, L, sz, ex) Q = ((K x).1 = 111 ∧ wsum st ≤ 8 ∧ c + 0 ≤ 601024 ∧ n + 0 ≤ 7293034 ∧ X z 105 0 [some (.ref x)] [] (0, 0) (K, I, R, L, sz, ex) (aftr (X z) mT 214 242 ls st (c + 0, n + 0) Q)) := v214_242
theorem v214_245 {z : P0} {st : List Value} {cu : Nat × Nat} {Q : Res → Mem → Prop} {σ : Mem} {x0 x1 x2 x3 x4 x6 x7 x8 : Option Value} {u : Int32} : X z 214 245 [x0, x1, x2, x3, x4, some (.int u), x6, x7, x8] (st) cu σ Q = (X z 214 247 [x0, x1, x2, x3, x4, some (.int u), x6, x7, x8] (.int u :: st) cu σ Q) := by
  rw [x214_245]
  rfl
theorem v214_247 {z : P0} {st : List Value} {cu : Nat × Nat} {Q : Res → Mem → Prop} {σ : Mem} {x0 x1 x2 x3 x4 x5 x6 x7 x8 : Option Value} {u v : Int32} : X z 214 247 [x0, x1, x2, x3, x4, x5, x6, x7, x8] (.int v :: .int u :: st) cu σ Q = (if u = v then X z 214 252 [x0, x1, x2, x3, x4, x5, x6, x7, x8] (st) cu σ Q else X z 214 250 [x0, x1, x2, x3, x4, x5, x6, x7, x8] (st) cu σ Q) := by
  rw [x214_247]
  obtain ⟨K, I, R, L, sz, ex⟩ := σ
  exact br_ite
theorem v214_250 {z : P0} {st : List Value} {cu : Nat × Nat} {Q : Res → Mem → Prop} {σ : Mem} {x0 x1 x2 x3 x4 x5 x6 x7 x8 : Option Value} : X z 214 250 [x0, x1, x2, x3, x4, x5, x6, x7, x8] (st) cu σ Q = (X z 214 251 [x0, x1, x2, x3, x4, x5, x6, x7, x8] (.int (nI 0) :: st) cu σ Q) := by
  rw [x214_250]
  rfl
theorem v214_251 {z : P0} {cu : Nat × Nat} {Q : Res → Mem → Prop} {σ : Mem} {x0 x1 x2 x3 x4 x5 x6 x7 x8 : Option Value} {v : Int32} : X z 214 251 [x0, x1, x2, x3, x4, x5, x6, x7, x8] ([.int v]) cu σ Q = ((v = nI 0 ∨ v = nI 1) ∧ Q (.inl (some (.int v))) σ) := by
  rw [x214_251]
  rw [nI_0, one1]
  rfl
theorem v214_252 {z : P0} {st : List Value} {cu : Nat × Nat} {Q : Res → Mem → Prop} {σ : Mem} {x0 x1 x2 x3 x4 x6 x7 x8 : Option Value} {u : Int32} : X z 214 252 [x0, x1, x2, x3, x4, some (.int u), x6, x7, x8] (st) cu σ Q = (X z 214 254 [x0, x1, x2, x3, x4, some (.int u), x6, x7, x8] (.int u :: st) cu σ Q) := by
  rw [x214_252]
  rfl
theorem v214_254 {z : P0} {st : List Value} {cu : Nat × Nat} {Q : Res → Mem → Prop} {σ : Mem} {x0 x1 x2 x3 x4 x5 x6 x7 x8 : Option Value} {u : Int32} : X z 214 254 [x0, x1, x2, x3, x4, x5, x6, x7, x8] (.int u :: st) cu σ Q = (if u = nI 0 then X z 214 257 [x0, x1, x2, x3, x4, x5, x6, x7, x8] (st) cu σ Q else X z 214 269 [x0, x1, x2, x3, x4, x5, x6, x7, x8] (st) cu σ Q) := by
  rw [x214_254]
  rw [nI_0]
  obtain ⟨K, I, R, L, sz, ex⟩ := σ
  exact br_ne
theorem v214_257 {z : P0} {st : List Value} {cu : Nat × Nat} {Q : Res → Mem → Prop} {σ : Mem} {x0 x1 x2 x4 x5 x6 x7 x8 : Option Value} {u : Nat} : X z 214 257 [x0, x1, x2, some (.ref u), x4, x5, x6, x7, x8] (st) cu σ Q = (X z 214 258 [x0, x1, x2, some (.ref u), x4, x5, x6, x7, x8] (.ref u :: st) cu σ Q) := by
  rw [x214_257]
  rfl
theorem v214_258 {z : P0} {st : List Value} {cu : Nat × Nat} {Q : Res → Mem → Prop} {σ : Mem} {x0 x1 x2 x3 x4 x5 x6 x7 x8 : Option Value} : X z 214 258 [x0, x1, x2, x3, x4, x5, x6, x7, x8] (st) cu σ Q = (X z 214 259 [x0, x1, x2, x3, x4, x5, x6, x7, x8] (.int (nI 0) :: st) cu σ Q) := by
  rw [x214_258]
  rfl
theorem v214_259 {z : P0} {st : List Value} {cu : Nat × Nat} {Q : Res → Mem → Prop} {K : Nat → Nat × Nat} {I : Nat → Nat → Int32} {R : Nat → Nat → Option Nat} {L : Nat → Nat → Int64} {sz : Nat} {ex : Bool} {x0 x1 x2 x3 x4 x5 x6 x7 x8 : Option Value} {u : Nat} {v : Int32} : X z 214 259 [x0, x1, x2, x3, x4, x5, x6, x7, x8] (.int v :: .ref u :: st) cu (K, I, R, L, sz, ex) Q = ((K u).1 = 21 ∧ vp_in v (K u).2 ∧ X z 214 260 [x0, x1, x2, x3, x4, x5, x6, x7, x8] (.long (L u v.toNatClampNeg) :: st) cu (K, I, R, L, sz, ex) Q) := by
  rw [x214_259]
  rfl
theorem v214_260 {z : P0} {st : List Value} {cu : Nat × Nat} {Q : Res → Mem → Prop} {σ : Mem} {x0 x1 x2 x3 x4 x5 x7 x8 : Option Value} {u : Int32} : X z 214 260 [x0, x1, x2, x3, x4, x5, some (.int u), x7, x8] (st) cu σ Q = (X z 214 262 [x0, x1, x2, x3, x4, x5, some (.int u), x7, x8] (.int u :: st) cu σ Q) := by
  rw [x214_260]
  rfl
theorem v214_262 {z : P0} {st : List Value} {cu : Nat × Nat} {Q : Res → Mem → Prop} {σ : Mem} {x0 x1 x2 x3 x4 x5 x6 x7 x8 : Option Value} {u : Int32} : X z 214 262 [x0, x1, x2, x3, x4, x5, x6, x7, x8] (.int u :: st) cu σ Q = (X z 214 263 [x0, x1, x2, x3, x4, x5, x6, x7, x8] (.long u.toInt64 :: st) cu σ Q) := by
  rw [x214_262]
  rfl
theorem v214_263 {z : P0} {st : List Value} {cu : Nat × Nat} {Q : Res → Mem → Prop} {σ : Mem} {x0 x1 x2 x3 x4 x5 x6 x7 x8 : Option Value} {u v : Int64} : X z 214 263 [x0, x1, x2, x3, x4, x5, x6, x7, x8] (.long v :: .long u :: st) cu σ Q = (X z 214 264 [x0, x1, x2, x3, x4, x5, x6, x7, x8] (.int (lg_cmp u v) :: st) cu σ Q) := by
  rw [x214_263]
  rfl
theorem v214_264 {z : P0} {st : List Value} {cu : Nat × Nat} {Q : Res → Mem → Prop} {σ : Mem} {x0 x1 x2 x3 x4 x5 x6 x7 x8 : Option Value} {u : Int32} : X z 214 264 [x0, x1, x2, x3, x4, x5, x6, x7, x8] (.int u :: st) cu σ Q = (if u = nI 0 then X z 214 269 [x0, x1, x2, x3, x4, x5, x6, x7, x8] (st) cu σ Q else X z 214 267 [x0, x1, x2, x3, x4, x5, x6, x7, x8] (st) cu σ Q) := by
  rw [x214_264]
  rw [nI_0]
  obtain ⟨K, I, R, L, sz, ex⟩ := σ
  exact br_ite
theorem v214_267 {z : P0} {st : List Value} {cu : Nat × Nat} {Q : Res → Mem → Prop} {σ : Mem} {x0 x1 x2 x3 x4 x5 x6 x7 x8 : Option Value} : X z 214 267 [x0, x1, x2, x3, x4, x5, x6, x7, x8] (st) cu σ Q = (X z 214 268 [x0, x1, x2, x3, x4, x5, x6, x7, x8] (.int (nI 0) :: st) cu σ Q) := by
  rw [x214_267]
  rfl
theorem v214_268 {z : P0} {cu : Nat × Nat} {Q : Res → Mem → Prop} {σ : Mem} {x0 x1 x2 x3 x4 x5 x6 x7 x8 : Option Value} {v : Int32} : X z 214 268 [x0, x1, x2, x3, x4, x5, x6, x7, x8] ([.int v]) cu σ Q = ((v = nI 0 ∨ v = nI 1) ∧ Q (.inl (some (.int v))) σ) := by
  rw [x214_268]
  rw [nI_0, one1]
  rfl
theorem v214_269 {z : P0} {st : List Value} {cu : Nat × Nat} {Q : Res → Mem → Prop} {σ : Mem} {x0 x1 x2 x3 x4 x5 x6 x7 x8 : Option Value} : X z 214 269 [x0, x1, x2, x3, x4, x5, x6, x7, x8] (st) cu σ Q = (X z 214 1598 [x0, x1, x2, x3, x4, x5, x6, x7, x8] (st) cu σ Q) := by
  rw [x214_269]
  rfl
theorem v214_272 {z : P0} {st : List Value} {cu : Nat × Nat} {Q : Res → Mem → Prop} {σ : Mem} {x0 x2 x3 x4 x5 x6 x7 x8 : Option Value} {u : Nat} : X z 214 272 [x0, some (.ref u), x2, x3, x4, x5, x6, x7, x8] (st) cu σ Q = (X z 214 273 [x0, some (.ref u), x2, x3, x4, x5, x6, x7, x8] (.ref u :: st) cu σ Q) := by
  rw [x214_272]
  rfl
theorem v214_273 {z : P0} {st : List Value} {cu : Nat × Nat} {Q : Res → Mem → Prop} {σ : Mem} {x0 x1 x2 x4 x5 x6 x7 x8 : Option Value} {u : Nat} : X z 214 273 [x0, x1, x2, some (.ref u), x4, x5, x6, x7, x8] (st) cu σ Q = (X z 214 274 [x0, x1, x2, some (.ref u), x4, x5, x6, x7, x8] (.ref u :: st) cu σ Q) := by
  rw [x214_273]
  rfl
theorem u214_274 {z : P0} {ls : Lcs} {st : List Value} {c n : Nat} {K : Nat → Nat × Nat} {I : Nat → Nat → Int32} {R : Nat → Nat → Option Nat} {L : Nat → Nat → Int64} {sz : Nat} {ex : Bool} {Q : Res → Mem → Prop} {a0 : Nat} {a1 : Nat} : X z 214 274 ls (.ref a1 :: .ref a0 :: st) (c, n) (K, I, R, L, sz, ex) Q = (wsum st ≤ 8 ∧ c + 1 ≤ 601024 ∧ n + 6 ≤ 7293034 ∧ X z 194 0 [some (.ref a0), some (.ref a1), none] [] (0, 0) (K, I, R, L, sz, ex) (aftr (X z) mT 214 274 ls st (c + 1, n + 6) Q)) := v214_274
theorem v214_277 {z : P0} {st : List Value} {cu : Nat × Nat} {Q : Res → Mem → Prop} {σ : Mem} {x0 x1 x2 x3 x4 x5 x6 x7 x8 : Option Value} {u : Int32} : X z 214 277 [x0, x1, x2, x3, x4, x5, x6, x7, x8] (.int u :: st) cu σ Q = (cat2 x4 = false ∧ X z 214 279 [x0, x1, x2, x3, x4, some (.int u), x6, x7, x8] (st) cu σ Q) := by
  rw [x214_277]
  obtain ⟨K, I, R, L, sz, ex⟩ := σ
  exact i_istore.trans sl_5
theorem v214_279 {z : P0} {st : List Value} {cu : Nat × Nat} {Q : Res → Mem → Prop} {σ : Mem} {x0 x1 x3 x4 x5 x6 x7 x8 : Option Value} {u : Nat} : X z 214 279 [x0, x1, some (.ref u), x3, x4, x5, x6, x7, x8] (st) cu σ Q = (X z 214 280 [x0, x1, some (.ref u), x3, x4, x5, x6, x7, x8] (.ref u :: st) cu σ Q) := by
  rw [x214_279]
  rfl
theorem u214_280 {z : P0} {ls : Lcs} {st : List Value} {c n : Nat} {K : Nat → Nat × Nat} {I : Nat → Nat → Int32} {R : Nat → Nat → Option Nat} {L : Nat → Nat → Int64} {sz : Nat} {ex : Bool} {Q : Res → Mem → Prop} {x : Nat} : X z 214 280 ls (.ref x :: st) (c, n) (K, I, R, L, sz, ex) Q = ((K x).1 = 111 ∧ wsum st ≤ 8 ∧ c + 0 ≤ 601024 ∧ n + 0 ≤ 7293034 ∧ X z 135 0 [some (.ref x), none, none, none] [] (0, 0) (K, I, R, L, sz, ex) (aftr (X z) mT 214 280 ls st (c + 0, n + 0) Q)) := v214_280
theorem v214_283 {z : P0} {st : List Value} {cu : Nat × Nat} {Q : Res → Mem → Prop} {σ : Mem} {x0 x1 x2 x3 x4 x5 x6 x7 x8 : Option Value} {u : Int32} : X z 214 283 [x0, x1, x2, x3, x4, x5, x6, x7, x8] (.int u :: st) cu σ Q = (cat2 x5 = false ∧ X z 214 285 [x0, x1, x2, x3, x4, x5, some (.int u), x7, x8] (st) cu σ Q) := by
  rw [x214_283]
  obtain ⟨K, I, R, L, sz, ex⟩ := σ
  exact i_istore.trans sl_6
theorem v214_285 {z : P0} {st : List Value} {cu : Nat × Nat} {Q : Res → Mem → Prop} {σ : Mem} {x0 x1 x3 x4 x5 x6 x7 x8 : Option Value} {u : Nat} : X z 214 285 [x0, x1, some (.ref u), x3, x4, x5, x6, x7, x8] (st) cu σ Q = (X z 214 286 [x0, x1, some (.ref u), x3, x4, x5, x6, x7, x8] (.ref u :: st) cu σ Q) := by
  rw [x214_285]
  rfl
theorem u214_286 {z : P0} {ls : Lcs} {st : List Value} {c n : Nat} {K : Nat → Nat × Nat} {I : Nat → Nat → Int32} {R : Nat → Nat → Option Nat} {L : Nat → Nat → Int64} {sz : Nat} {ex : Bool} {Q : Res → Mem → Prop} {x : Nat} : X z 214 286 ls (.ref x :: st) (c, n) (K, I, R, L, sz, ex) Q = ((K x).1 = 111 ∧ wsum st ≤ 8 ∧ c + 0 ≤ 601024 ∧ n + 0 ≤ 7293034 ∧ X z 105 0 [some (.ref x)] [] (0, 0) (K, I, R, L, sz, ex) (aftr (X z) mT 214 286 ls st (c + 0, n + 0) Q)) := v214_286
theorem v214_289 {z : P0} {st : List Value} {cu : Nat × Nat} {Q : Res → Mem → Prop} {σ : Mem} {x0 x1 x2 x3 x4 x6 x7 x8 : Option Value} {u : Int32} : X z 214 289 [x0, x1, x2, x3, x4, some (.int u), x6, x7, x8] (st) cu σ Q = (X z 214 291 [x0, x1, x2, x3, x4, some (.int u), x6, x7, x8] (.int u :: st) cu σ Q) := by
  rw [x214_289]
  rfl
theorem v214_291 {z : P0} {st : List Value} {cu : Nat × Nat} {Q : Res → Mem → Prop} {σ : Mem} {x0 x1 x2 x3 x4 x5 x6 x7 x8 : Option Value} {u v : Int32} : X z 214 291 [x0, x1, x2, x3, x4, x5, x6, x7, x8] (.int v :: .int u :: st) cu σ Q = (if u = v then X z 214 296 [x0, x1, x2, x3, x4, x5, x6, x7, x8] (st) cu σ Q else X z 214 294 [x0, x1, x2, x3, x4, x5, x6, x7, x8] (st) cu σ Q) := by
  rw [x214_291]
  obtain ⟨K, I, R, L, sz, ex⟩ := σ
  exact br_ite
theorem v214_294 {z : P0} {st : List Value} {cu : Nat × Nat} {Q : Res → Mem → Prop} {σ : Mem} {x0 x1 x2 x3 x4 x5 x6 x7 x8 : Option Value} : X z 214 294 [x0, x1, x2, x3, x4, x5, x6, x7, x8] (st) cu σ Q = (X z 214 295 [x0, x1, x2, x3, x4, x5, x6, x7, x8] (.int (nI 0) :: st) cu σ Q) := by
  rw [x214_294]
  rfl
theorem v214_295 {z : P0} {cu : Nat × Nat} {Q : Res → Mem → Prop} {σ : Mem} {x0 x1 x2 x3 x4 x5 x6 x7 x8 : Option Value} {v : Int32} : X z 214 295 [x0, x1, x2, x3, x4, x5, x6, x7, x8] ([.int v]) cu σ Q = ((v = nI 0 ∨ v = nI 1) ∧ Q (.inl (some (.int v))) σ) := by
  rw [x214_295]
  rw [nI_0, one1]
  rfl
theorem v214_296 {z : P0} {st : List Value} {cu : Nat × Nat} {Q : Res → Mem → Prop} {σ : Mem} {x0 x1 x2 x3 x4 x6 x7 x8 : Option Value} {u : Int32} : X z 214 296 [x0, x1, x2, x3, x4, some (.int u), x6, x7, x8] (st) cu σ Q = (X z 214 298 [x0, x1, x2, x3, x4, some (.int u), x6, x7, x8] (.int u :: st) cu σ Q) := by
  rw [x214_296]
  rfl
theorem v214_298 {z : P0} {st : List Value} {cu : Nat × Nat} {Q : Res → Mem → Prop} {σ : Mem} {x0 x1 x2 x3 x4 x5 x6 x7 x8 : Option Value} {u : Int32} : X z 214 298 [x0, x1, x2, x3, x4, x5, x6, x7, x8] (.int u :: st) cu σ Q = (if u = nI 0 then X z 214 301 [x0, x1, x2, x3, x4, x5, x6, x7, x8] (st) cu σ Q else X z 214 313 [x0, x1, x2, x3, x4, x5, x6, x7, x8] (st) cu σ Q) := by
  rw [x214_298]
  rw [nI_0]
  obtain ⟨K, I, R, L, sz, ex⟩ := σ
  exact br_ne
theorem v214_301 {z : P0} {st : List Value} {cu : Nat × Nat} {Q : Res → Mem → Prop} {σ : Mem} {x0 x1 x2 x4 x5 x6 x7 x8 : Option Value} {u : Nat} : X z 214 301 [x0, x1, x2, some (.ref u), x4, x5, x6, x7, x8] (st) cu σ Q = (X z 214 302 [x0, x1, x2, some (.ref u), x4, x5, x6, x7, x8] (.ref u :: st) cu σ Q) := by
  rw [x214_301]
  rfl
theorem v214_302 {z : P0} {st : List Value} {cu : Nat × Nat} {Q : Res → Mem → Prop} {σ : Mem} {x0 x1 x2 x3 x4 x5 x6 x7 x8 : Option Value} : X z 214 302 [x0, x1, x2, x3, x4, x5, x6, x7, x8] (st) cu σ Q = (X z 214 303 [x0, x1, x2, x3, x4, x5, x6, x7, x8] (.int (nI 0) :: st) cu σ Q) := by
  rw [x214_302]
  rfl
theorem v214_303 {z : P0} {st : List Value} {cu : Nat × Nat} {Q : Res → Mem → Prop} {K : Nat → Nat × Nat} {I : Nat → Nat → Int32} {R : Nat → Nat → Option Nat} {L : Nat → Nat → Int64} {sz : Nat} {ex : Bool} {x0 x1 x2 x3 x4 x5 x6 x7 x8 : Option Value} {u : Nat} {v : Int32} : X z 214 303 [x0, x1, x2, x3, x4, x5, x6, x7, x8] (.int v :: .ref u :: st) cu (K, I, R, L, sz, ex) Q = ((K u).1 = 21 ∧ vp_in v (K u).2 ∧ X z 214 304 [x0, x1, x2, x3, x4, x5, x6, x7, x8] (.long (L u v.toNatClampNeg) :: st) cu (K, I, R, L, sz, ex) Q) := by
  rw [x214_303]
  rfl
theorem v214_304 {z : P0} {st : List Value} {cu : Nat × Nat} {Q : Res → Mem → Prop} {σ : Mem} {x0 x1 x2 x3 x4 x5 x7 x8 : Option Value} {u : Int32} : X z 214 304 [x0, x1, x2, x3, x4, x5, some (.int u), x7, x8] (st) cu σ Q = (X z 214 306 [x0, x1, x2, x3, x4, x5, some (.int u), x7, x8] (.int u :: st) cu σ Q) := by
  rw [x214_304]
  rfl
theorem v214_306 {z : P0} {st : List Value} {cu : Nat × Nat} {Q : Res → Mem → Prop} {σ : Mem} {x0 x1 x2 x3 x4 x5 x6 x7 x8 : Option Value} {u : Int32} : X z 214 306 [x0, x1, x2, x3, x4, x5, x6, x7, x8] (.int u :: st) cu σ Q = (X z 214 307 [x0, x1, x2, x3, x4, x5, x6, x7, x8] (.long u.toInt64 :: st) cu σ Q) := by
  rw [x214_306]
  rfl
theorem v214_307 {z : P0} {st : List Value} {cu : Nat × Nat} {Q : Res → Mem → Prop} {σ : Mem} {x0 x1 x2 x3 x4 x5 x6 x7 x8 : Option Value} {u v : Int64} : X z 214 307 [x0, x1, x2, x3, x4, x5, x6, x7, x8] (.long v :: .long u :: st) cu σ Q = (X z 214 308 [x0, x1, x2, x3, x4, x5, x6, x7, x8] (.int (lg_cmp u v) :: st) cu σ Q) := by
  rw [x214_307]
  rfl
theorem v214_308 {z : P0} {st : List Value} {cu : Nat × Nat} {Q : Res → Mem → Prop} {σ : Mem} {x0 x1 x2 x3 x4 x5 x6 x7 x8 : Option Value} {u : Int32} : X z 214 308 [x0, x1, x2, x3, x4, x5, x6, x7, x8] (.int u :: st) cu σ Q = (if u = nI 0 then X z 214 313 [x0, x1, x2, x3, x4, x5, x6, x7, x8] (st) cu σ Q else X z 214 311 [x0, x1, x2, x3, x4, x5, x6, x7, x8] (st) cu σ Q) := by
  rw [x214_308]
  rw [nI_0]
  obtain ⟨K, I, R, L, sz, ex⟩ := σ
  exact br_ite
theorem v214_311 {z : P0} {st : List Value} {cu : Nat × Nat} {Q : Res → Mem → Prop} {σ : Mem} {x0 x1 x2 x3 x4 x5 x6 x7 x8 : Option Value} : X z 214 311 [x0, x1, x2, x3, x4, x5, x6, x7, x8] (st) cu σ Q = (X z 214 312 [x0, x1, x2, x3, x4, x5, x6, x7, x8] (.int (nI 0) :: st) cu σ Q) := by
  rw [x214_311]
  rfl
theorem v214_312 {z : P0} {cu : Nat × Nat} {Q : Res → Mem → Prop} {σ : Mem} {x0 x1 x2 x3 x4 x5 x6 x7 x8 : Option Value} {v : Int32} : X z 214 312 [x0, x1, x2, x3, x4, x5, x6, x7, x8] ([.int v]) cu σ Q = ((v = nI 0 ∨ v = nI 1) ∧ Q (.inl (some (.int v))) σ) := by
  rw [x214_312]
  rw [nI_0, one1]
  rfl
theorem v214_313 {z : P0} {st : List Value} {cu : Nat × Nat} {Q : Res → Mem → Prop} {σ : Mem} {x0 x1 x2 x3 x4 x5 x6 x7 x8 : Option Value} : X z 214 313 [x0, x1, x2, x3, x4, x5, x6, x7, x8] (st) cu σ Q = (X z 214 1598 [x0, x1, x2, x3, x4, x5, x6, x7, x8] (st) cu σ Q) := by
  rw [x214_313]
  rfl
theorem v214_316 {z : P0} {st : List Value} {cu : Nat × Nat} {Q : Res → Mem → Prop} {σ : Mem} {x0 x2 x3 x4 x5 x6 x7 x8 : Option Value} {u : Nat} : X z 214 316 [x0, some (.ref u), x2, x3, x4, x5, x6, x7, x8] (st) cu σ Q = (X z 214 317 [x0, some (.ref u), x2, x3, x4, x5, x6, x7, x8] (.ref u :: st) cu σ Q) := by
  rw [x214_316]
  rfl
theorem v214_317 {z : P0} {st : List Value} {cu : Nat × Nat} {Q : Res → Mem → Prop} {σ : Mem} {x1 x2 x3 x4 x5 x6 x7 x8 : Option Value} {u : Nat} : X z 214 317 [some (.ref u), x1, x2, x3, x4, x5, x6, x7, x8] (st) cu σ Q = (X z 214 318 [some (.ref u), x1, x2, x3, x4, x5, x6, x7, x8] (.ref u :: st) cu σ Q) := by
  rw [x214_317]
  rfl
theorem v214_318 {z : P0} {st : List Value} {cu : Nat × Nat} {Q : Res → Mem → Prop} {σ : Mem} {x0 x1 x2 x3 x5 x6 x7 x8 : Option Value} {u : Int32} : X z 214 318 [x0, x1, x2, x3, some (.int u), x5, x6, x7, x8] (st) cu σ Q = (X z 214 320 [x0, x1, x2, x3, some (.int u), x5, x6, x7, x8] (.int u :: st) cu σ Q) := by
  rw [x214_318]
  rfl
theorem v214_320 {z : P0} {st : List Value} {cu : Nat × Nat} {Q : Res → Mem → Prop} {σ : Mem} {x0 x1 x2 x3 x4 x5 x6 x7 x8 : Option Value} : X z 214 320 [x0, x1, x2, x3, x4, x5, x6, x7, x8] (st) cu σ Q = (X z 214 321 [x0, x1, x2, x3, x4, x5, x6, x7, x8] (.int (nI 1) :: st) cu σ Q) := by
  rw [x214_320]
  rfl
theorem v214_321 {z : P0} {st : List Value} {cu : Nat × Nat} {Q : Res → Mem → Prop} {σ : Mem} {x0 x1 x2 x3 x4 x5 x6 x7 x8 : Option Value} {u v : Int32} : X z 214 321 [x0, x1, x2, x3, x4, x5, x6, x7, x8] (.int v :: .int u :: st) cu σ Q = (X z 214 322 [x0, x1, x2, x3, x4, x5, x6, x7, x8] (.int (u + v) :: st) cu σ Q) := by
  rw [x214_321]
  rfl
theorem v214_322 {z : P0} {st : List Value} {cu : Nat × Nat} {Q : Res → Mem → Prop} {K : Nat → Nat × Nat} {I : Nat → Nat → Int32} {R : Nat → Nat → Option Nat} {L : Nat → Nat → Int64} {sz : Nat} {ex : Bool} {x0 x1 x2 x3 x4 x5 x6 x7 x8 : Option Value} {u : Nat} {v : Int32} : X z 214 322 [x0, x1, x2, x3, x4, x5, x6, x7, x8] (.int v :: .ref u :: st) cu (K, I, R, L, sz, ex) Q = (((K u).1 = 20 ∨ (K u).1 = 50) ∧ vp_in v (K u).2 ∧ X z 214 323 [x0, x1, x2, x3, x4, x5, x6, x7, x8] (.int (I u v.toNatClampNeg) :: st) cu (K, I, R, L, sz, ex) Q) := by
  rw [x214_322]
  rfl
theorem v214_323 {z : P0} {st : List Value} {cu : Nat × Nat} {Q : Res → Mem → Prop} {σ : Mem} {x1 x2 x3 x4 x5 x6 x7 x8 : Option Value} {u : Nat} : X z 214 323 [some (.ref u), x1, x2, x3, x4, x5, x6, x7, x8] (st) cu σ Q = (X z 214 324 [some (.ref u), x1, x2, x3, x4, x5, x6, x7, x8] (.ref u :: st) cu σ Q) := by
  rw [x214_323]
  rfl
theorem v214_324 {z : P0} {st : List Value} {cu : Nat × Nat} {Q : Res → Mem → Prop} {σ : Mem} {x0 x1 x2 x3 x5 x6 x7 x8 : Option Value} {u : Int32} : X z 214 324 [x0, x1, x2, x3, some (.int u), x5, x6, x7, x8] (st) cu σ Q = (X z 214 326 [x0, x1, x2, x3, some (.int u), x5, x6, x7, x8] (.int u :: st) cu σ Q) := by
  rw [x214_324]
  rfl
theorem v214_326 {z : P0} {st : List Value} {cu : Nat × Nat} {Q : Res → Mem → Prop} {σ : Mem} {x0 x1 x2 x3 x4 x5 x6 x7 x8 : Option Value} : X z 214 326 [x0, x1, x2, x3, x4, x5, x6, x7, x8] (st) cu σ Q = (X z 214 327 [x0, x1, x2, x3, x4, x5, x6, x7, x8] (.int (nI 2) :: st) cu σ Q) := by
  rw [x214_326]
  rfl
theorem v214_327 {z : P0} {st : List Value} {cu : Nat × Nat} {Q : Res → Mem → Prop} {σ : Mem} {x0 x1 x2 x3 x4 x5 x6 x7 x8 : Option Value} {u v : Int32} : X z 214 327 [x0, x1, x2, x3, x4, x5, x6, x7, x8] (.int v :: .int u :: st) cu σ Q = (X z 214 328 [x0, x1, x2, x3, x4, x5, x6, x7, x8] (.int (u + v) :: st) cu σ Q) := by
  rw [x214_327]
  rfl
theorem v214_328 {z : P0} {st : List Value} {cu : Nat × Nat} {Q : Res → Mem → Prop} {K : Nat → Nat × Nat} {I : Nat → Nat → Int32} {R : Nat → Nat → Option Nat} {L : Nat → Nat → Int64} {sz : Nat} {ex : Bool} {x0 x1 x2 x3 x4 x5 x6 x7 x8 : Option Value} {u : Nat} {v : Int32} : X z 214 328 [x0, x1, x2, x3, x4, x5, x6, x7, x8] (.int v :: .ref u :: st) cu (K, I, R, L, sz, ex) Q = (((K u).1 = 20 ∨ (K u).1 = 50) ∧ vp_in v (K u).2 ∧ X z 214 329 [x0, x1, x2, x3, x4, x5, x6, x7, x8] (.int (I u v.toNatClampNeg) :: st) cu (K, I, R, L, sz, ex) Q) := by
  rw [x214_328]
  rfl
theorem v214_329 {z : P0} {st : List Value} {cu : Nat × Nat} {Q : Res → Mem → Prop} {σ : Mem} {x0 x1 x2 x4 x5 x6 x7 x8 : Option Value} {u : Nat} : X z 214 329 [x0, x1, x2, some (.ref u), x4, x5, x6, x7, x8] (st) cu σ Q = (X z 214 330 [x0, x1, x2, some (.ref u), x4, x5, x6, x7, x8] (.ref u :: st) cu σ Q) := by
  rw [x214_329]
  rfl
theorem u214_330 {z : P0} {ls : Lcs} {st : List Value} {c n : Nat} {K : Nat → Nat × Nat} {I : Nat → Nat → Int32} {R : Nat → Nat → Option Nat} {L : Nat → Nat → Int64} {sz : Nat} {ex : Bool} {Q : Res → Mem → Prop} {a0 : Nat} {a1 : Int32} {a2 : Int32} {a3 : Nat} : X z 214 330 ls (.ref a3 :: .int a2 :: .int a1 :: .ref a0 :: st) (c, n) (K, I, R, L, sz, ex) Q = (wsum st ≤ 8 ∧ c + 1 ≤ 601024 ∧ n + 6 ≤ 7293034 ∧ X z 195 0 [some (.ref a0), some (.int a1), some (.int a2), some (.ref a3), none] [] (0, 0) (K, I, R, L, sz, ex) (aftr (X z) mT 214 330 ls st (c + 1, n + 6) Q)) := v214_330
theorem v214_333 {z : P0} {st : List Value} {cu : Nat × Nat} {Q : Res → Mem → Prop} {σ : Mem} {x0 x1 x2 x3 x4 x5 x6 x7 x8 : Option Value} {u : Int32} : X z 214 333 [x0, x1, x2, x3, x4, x5, x6, x7, x8] (.int u :: st) cu σ Q = (cat2 x4 = false ∧ X z 214 335 [x0, x1, x2, x3, x4, some (.int u), x6, x7, x8] (st) cu σ Q) := by
  rw [x214_333]
  obtain ⟨K, I, R, L, sz, ex⟩ := σ
  exact i_istore.trans sl_5
theorem v214_335 {z : P0} {st : List Value} {cu : Nat × Nat} {Q : Res → Mem → Prop} {σ : Mem} {x0 x1 x3 x4 x5 x6 x7 x8 : Option Value} {u : Nat} : X z 214 335 [x0, x1, some (.ref u), x3, x4, x5, x6, x7, x8] (st) cu σ Q = (X z 214 336 [x0, x1, some (.ref u), x3, x4, x5, x6, x7, x8] (.ref u :: st) cu σ Q) := by
  rw [x214_335]
  rfl
theorem v214_336 {z : P0} {st : List Value} {cu : Nat × Nat} {Q : Res → Mem → Prop} {σ : Mem} {x1 x2 x3 x4 x5 x6 x7 x8 : Option Value} {u : Nat} : X z 214 336 [some (.ref u), x1, x2, x3, x4, x5, x6, x7, x8] (st) cu σ Q = (X z 214 337 [some (.ref u), x1, x2, x3, x4, x5, x6, x7, x8] (.ref u :: st) cu σ Q) := by
  rw [x214_336]
  rfl
theorem v214_337 {z : P0} {st : List Value} {cu : Nat × Nat} {Q : Res → Mem → Prop} {σ : Mem} {x0 x1 x2 x3 x5 x6 x7 x8 : Option Value} {u : Int32} : X z 214 337 [x0, x1, x2, x3, some (.int u), x5, x6, x7, x8] (st) cu σ Q = (X z 214 339 [x0, x1, x2, x3, some (.int u), x5, x6, x7, x8] (.int u :: st) cu σ Q) := by
  rw [x214_337]
  rfl
theorem v214_339 {z : P0} {st : List Value} {cu : Nat × Nat} {Q : Res → Mem → Prop} {σ : Mem} {x0 x1 x2 x3 x4 x5 x6 x7 x8 : Option Value} : X z 214 339 [x0, x1, x2, x3, x4, x5, x6, x7, x8] (st) cu σ Q = (X z 214 340 [x0, x1, x2, x3, x4, x5, x6, x7, x8] (.int (nI 1) :: st) cu σ Q) := by
  rw [x214_339]
  rfl
theorem v214_340 {z : P0} {st : List Value} {cu : Nat × Nat} {Q : Res → Mem → Prop} {σ : Mem} {x0 x1 x2 x3 x4 x5 x6 x7 x8 : Option Value} {u v : Int32} : X z 214 340 [x0, x1, x2, x3, x4, x5, x6, x7, x8] (.int v :: .int u :: st) cu σ Q = (X z 214 341 [x0, x1, x2, x3, x4, x5, x6, x7, x8] (.int (u + v) :: st) cu σ Q) := by
  rw [x214_340]
  rfl
theorem v214_341 {z : P0} {st : List Value} {cu : Nat × Nat} {Q : Res → Mem → Prop} {K : Nat → Nat × Nat} {I : Nat → Nat → Int32} {R : Nat → Nat → Option Nat} {L : Nat → Nat → Int64} {sz : Nat} {ex : Bool} {x0 x1 x2 x3 x4 x5 x6 x7 x8 : Option Value} {u : Nat} {v : Int32} : X z 214 341 [x0, x1, x2, x3, x4, x5, x6, x7, x8] (.int v :: .ref u :: st) cu (K, I, R, L, sz, ex) Q = (((K u).1 = 20 ∨ (K u).1 = 50) ∧ vp_in v (K u).2 ∧ X z 214 342 [x0, x1, x2, x3, x4, x5, x6, x7, x8] (.int (I u v.toNatClampNeg) :: st) cu (K, I, R, L, sz, ex) Q) := by
  rw [x214_341]
  rfl
theorem v214_342 {z : P0} {st : List Value} {cu : Nat × Nat} {Q : Res → Mem → Prop} {σ : Mem} {x1 x2 x3 x4 x5 x6 x7 x8 : Option Value} {u : Nat} : X z 214 342 [some (.ref u), x1, x2, x3, x4, x5, x6, x7, x8] (st) cu σ Q = (X z 214 343 [some (.ref u), x1, x2, x3, x4, x5, x6, x7, x8] (.ref u :: st) cu σ Q) := by
  rw [x214_342]
  rfl
theorem v214_343 {z : P0} {st : List Value} {cu : Nat × Nat} {Q : Res → Mem → Prop} {σ : Mem} {x0 x1 x2 x3 x5 x6 x7 x8 : Option Value} {u : Int32} : X z 214 343 [x0, x1, x2, x3, some (.int u), x5, x6, x7, x8] (st) cu σ Q = (X z 214 345 [x0, x1, x2, x3, some (.int u), x5, x6, x7, x8] (.int u :: st) cu σ Q) := by
  rw [x214_343]
  rfl
theorem v214_345 {z : P0} {st : List Value} {cu : Nat × Nat} {Q : Res → Mem → Prop} {σ : Mem} {x0 x1 x2 x3 x4 x5 x6 x7 x8 : Option Value} : X z 214 345 [x0, x1, x2, x3, x4, x5, x6, x7, x8] (st) cu σ Q = (X z 214 346 [x0, x1, x2, x3, x4, x5, x6, x7, x8] (.int (nI 2) :: st) cu σ Q) := by
  rw [x214_345]
  rfl
theorem v214_346 {z : P0} {st : List Value} {cu : Nat × Nat} {Q : Res → Mem → Prop} {σ : Mem} {x0 x1 x2 x3 x4 x5 x6 x7 x8 : Option Value} {u v : Int32} : X z 214 346 [x0, x1, x2, x3, x4, x5, x6, x7, x8] (.int v :: .int u :: st) cu σ Q = (X z 214 347 [x0, x1, x2, x3, x4, x5, x6, x7, x8] (.int (u + v) :: st) cu σ Q) := by
  rw [x214_346]
  rfl
theorem v214_347 {z : P0} {st : List Value} {cu : Nat × Nat} {Q : Res → Mem → Prop} {K : Nat → Nat × Nat} {I : Nat → Nat → Int32} {R : Nat → Nat → Option Nat} {L : Nat → Nat → Int64} {sz : Nat} {ex : Bool} {x0 x1 x2 x3 x4 x5 x6 x7 x8 : Option Value} {u : Nat} {v : Int32} : X z 214 347 [x0, x1, x2, x3, x4, x5, x6, x7, x8] (.int v :: .ref u :: st) cu (K, I, R, L, sz, ex) Q = (((K u).1 = 20 ∨ (K u).1 = 50) ∧ vp_in v (K u).2 ∧ X z 214 348 [x0, x1, x2, x3, x4, x5, x6, x7, x8] (.int (I u v.toNatClampNeg) :: st) cu (K, I, R, L, sz, ex) Q) := by
  rw [x214_347]
  rfl
theorem u214_348 {z : P0} {ls : Lcs} {st : List Value} {c n : Nat} {K : Nat → Nat × Nat} {I : Nat → Nat → Int32} {R : Nat → Nat → Option Nat} {L : Nat → Nat → Int64} {sz : Nat} {ex : Bool} {Q : Res → Mem → Prop} {x : Nat} {a0 : Int32} {a1 : Int32} : X z 214 348 ls (.int a1 :: .int a0 :: .ref x :: st) (c, n) (K, I, R, L, sz, ex) Q = ((K x).1 = 111 ∧ wsum st ≤ 8 ∧ c + 0 ≤ 601024 ∧ n + 0 ≤ 7293034 ∧ X z 136 0 [some (.ref x), some (.int a0), some (.int a1), none] [] (0, 0) (K, I, R, L, sz, ex) (aftr (X z) mT 214 348 ls st (c + 0, n + 0) Q)) := v214_348
theorem v214_351 {z : P0} {st : List Value} {cu : Nat × Nat} {Q : Res → Mem → Prop} {σ : Mem} {x0 x1 x2 x3 x4 x5 x6 x7 x8 : Option Value} {u : Int32} : X z 214 351 [x0, x1, x2, x3, x4, x5, x6, x7, x8] (.int u :: st) cu σ Q = (cat2 x5 = false ∧ X z 214 353 [x0, x1, x2, x3, x4, x5, some (.int u), x7, x8] (st) cu σ Q) := by
  rw [x214_351]
  obtain ⟨K, I, R, L, sz, ex⟩ := σ
  exact i_istore.trans sl_6
theorem v214_353 {z : P0} {st : List Value} {cu : Nat × Nat} {Q : Res → Mem → Prop} {σ : Mem} {x0 x1 x3 x4 x5 x6 x7 x8 : Option Value} {u : Nat} : X z 214 353 [x0, x1, some (.ref u), x3, x4, x5, x6, x7, x8] (st) cu σ Q = (X z 214 354 [x0, x1, some (.ref u), x3, x4, x5, x6, x7, x8] (.ref u :: st) cu σ Q) := by
  rw [x214_353]
  rfl
theorem u214_354 {z : P0} {ls : Lcs} {st : List Value} {c n : Nat} {K : Nat → Nat × Nat} {I : Nat → Nat → Int32} {R : Nat → Nat → Option Nat} {L : Nat → Nat → Int64} {sz : Nat} {ex : Bool} {Q : Res → Mem → Prop} {x : Nat} : X z 214 354 ls (.ref x :: st) (c, n) (K, I, R, L, sz, ex) Q = ((K x).1 = 111 ∧ wsum st ≤ 8 ∧ c + 0 ≤ 601024 ∧ n + 0 ≤ 7293034 ∧ X z 105 0 [some (.ref x)] [] (0, 0) (K, I, R, L, sz, ex) (aftr (X z) mT 214 354 ls st (c + 0, n + 0) Q)) := v214_354
theorem v214_357 {z : P0} {st : List Value} {cu : Nat × Nat} {Q : Res → Mem → Prop} {σ : Mem} {x0 x1 x2 x3 x4 x6 x7 x8 : Option Value} {u : Int32} : X z 214 357 [x0, x1, x2, x3, x4, some (.int u), x6, x7, x8] (st) cu σ Q = (X z 214 359 [x0, x1, x2, x3, x4, some (.int u), x6, x7, x8] (.int u :: st) cu σ Q) := by
  rw [x214_357]
  rfl
theorem v214_359 {z : P0} {st : List Value} {cu : Nat × Nat} {Q : Res → Mem → Prop} {σ : Mem} {x0 x1 x2 x3 x4 x5 x6 x7 x8 : Option Value} {u v : Int32} : X z 214 359 [x0, x1, x2, x3, x4, x5, x6, x7, x8] (.int v :: .int u :: st) cu σ Q = (if u = v then X z 214 364 [x0, x1, x2, x3, x4, x5, x6, x7, x8] (st) cu σ Q else X z 214 362 [x0, x1, x2, x3, x4, x5, x6, x7, x8] (st) cu σ Q) := by
  rw [x214_359]
  obtain ⟨K, I, R, L, sz, ex⟩ := σ
  exact br_ite
theorem v214_362 {z : P0} {st : List Value} {cu : Nat × Nat} {Q : Res → Mem → Prop} {σ : Mem} {x0 x1 x2 x3 x4 x5 x6 x7 x8 : Option Value} : X z 214 362 [x0, x1, x2, x3, x4, x5, x6, x7, x8] (st) cu σ Q = (X z 214 363 [x0, x1, x2, x3, x4, x5, x6, x7, x8] (.int (nI 0) :: st) cu σ Q) := by
  rw [x214_362]
  rfl
theorem v214_363 {z : P0} {cu : Nat × Nat} {Q : Res → Mem → Prop} {σ : Mem} {x0 x1 x2 x3 x4 x5 x6 x7 x8 : Option Value} {v : Int32} : X z 214 363 [x0, x1, x2, x3, x4, x5, x6, x7, x8] ([.int v]) cu σ Q = ((v = nI 0 ∨ v = nI 1) ∧ Q (.inl (some (.int v))) σ) := by
  rw [x214_363]
  rw [nI_0, one1]
  rfl
theorem v214_364 {z : P0} {st : List Value} {cu : Nat × Nat} {Q : Res → Mem → Prop} {σ : Mem} {x0 x1 x2 x3 x4 x6 x7 x8 : Option Value} {u : Int32} : X z 214 364 [x0, x1, x2, x3, x4, some (.int u), x6, x7, x8] (st) cu σ Q = (X z 214 366 [x0, x1, x2, x3, x4, some (.int u), x6, x7, x8] (.int u :: st) cu σ Q) := by
  rw [x214_364]
  rfl
theorem v214_366 {z : P0} {st : List Value} {cu : Nat × Nat} {Q : Res → Mem → Prop} {σ : Mem} {x0 x1 x2 x3 x4 x5 x6 x7 x8 : Option Value} {u : Int32} : X z 214 366 [x0, x1, x2, x3, x4, x5, x6, x7, x8] (.int u :: st) cu σ Q = (if u = nI 0 then X z 214 369 [x0, x1, x2, x3, x4, x5, x6, x7, x8] (st) cu σ Q else X z 214 381 [x0, x1, x2, x3, x4, x5, x6, x7, x8] (st) cu σ Q) := by
  rw [x214_366]
  rw [nI_0]
  obtain ⟨K, I, R, L, sz, ex⟩ := σ
  exact br_ne
theorem v214_369 {z : P0} {st : List Value} {cu : Nat × Nat} {Q : Res → Mem → Prop} {σ : Mem} {x0 x1 x2 x4 x5 x6 x7 x8 : Option Value} {u : Nat} : X z 214 369 [x0, x1, x2, some (.ref u), x4, x5, x6, x7, x8] (st) cu σ Q = (X z 214 370 [x0, x1, x2, some (.ref u), x4, x5, x6, x7, x8] (.ref u :: st) cu σ Q) := by
  rw [x214_369]
  rfl
theorem v214_370 {z : P0} {st : List Value} {cu : Nat × Nat} {Q : Res → Mem → Prop} {σ : Mem} {x0 x1 x2 x3 x4 x5 x6 x7 x8 : Option Value} : X z 214 370 [x0, x1, x2, x3, x4, x5, x6, x7, x8] (st) cu σ Q = (X z 214 371 [x0, x1, x2, x3, x4, x5, x6, x7, x8] (.int (nI 0) :: st) cu σ Q) := by
  rw [x214_370]
  rfl
theorem v214_371 {z : P0} {st : List Value} {cu : Nat × Nat} {Q : Res → Mem → Prop} {K : Nat → Nat × Nat} {I : Nat → Nat → Int32} {R : Nat → Nat → Option Nat} {L : Nat → Nat → Int64} {sz : Nat} {ex : Bool} {x0 x1 x2 x3 x4 x5 x6 x7 x8 : Option Value} {u : Nat} {v : Int32} : X z 214 371 [x0, x1, x2, x3, x4, x5, x6, x7, x8] (.int v :: .ref u :: st) cu (K, I, R, L, sz, ex) Q = ((K u).1 = 21 ∧ vp_in v (K u).2 ∧ X z 214 372 [x0, x1, x2, x3, x4, x5, x6, x7, x8] (.long (L u v.toNatClampNeg) :: st) cu (K, I, R, L, sz, ex) Q) := by
  rw [x214_371]
  rfl
theorem v214_372 {z : P0} {st : List Value} {cu : Nat × Nat} {Q : Res → Mem → Prop} {σ : Mem} {x0 x1 x2 x3 x4 x5 x7 x8 : Option Value} {u : Int32} : X z 214 372 [x0, x1, x2, x3, x4, x5, some (.int u), x7, x8] (st) cu σ Q = (X z 214 374 [x0, x1, x2, x3, x4, x5, some (.int u), x7, x8] (.int u :: st) cu σ Q) := by
  rw [x214_372]
  rfl
theorem v214_374 {z : P0} {st : List Value} {cu : Nat × Nat} {Q : Res → Mem → Prop} {σ : Mem} {x0 x1 x2 x3 x4 x5 x6 x7 x8 : Option Value} {u : Int32} : X z 214 374 [x0, x1, x2, x3, x4, x5, x6, x7, x8] (.int u :: st) cu σ Q = (X z 214 375 [x0, x1, x2, x3, x4, x5, x6, x7, x8] (.long u.toInt64 :: st) cu σ Q) := by
  rw [x214_374]
  rfl
theorem v214_375 {z : P0} {st : List Value} {cu : Nat × Nat} {Q : Res → Mem → Prop} {σ : Mem} {x0 x1 x2 x3 x4 x5 x6 x7 x8 : Option Value} {u v : Int64} : X z 214 375 [x0, x1, x2, x3, x4, x5, x6, x7, x8] (.long v :: .long u :: st) cu σ Q = (X z 214 376 [x0, x1, x2, x3, x4, x5, x6, x7, x8] (.int (lg_cmp u v) :: st) cu σ Q) := by
  rw [x214_375]
  rfl
theorem v214_376 {z : P0} {st : List Value} {cu : Nat × Nat} {Q : Res → Mem → Prop} {σ : Mem} {x0 x1 x2 x3 x4 x5 x6 x7 x8 : Option Value} {u : Int32} : X z 214 376 [x0, x1, x2, x3, x4, x5, x6, x7, x8] (.int u :: st) cu σ Q = (if u = nI 0 then X z 214 381 [x0, x1, x2, x3, x4, x5, x6, x7, x8] (st) cu σ Q else X z 214 379 [x0, x1, x2, x3, x4, x5, x6, x7, x8] (st) cu σ Q) := by
  rw [x214_376]
  rw [nI_0]
  obtain ⟨K, I, R, L, sz, ex⟩ := σ
  exact br_ite
theorem v214_379 {z : P0} {st : List Value} {cu : Nat × Nat} {Q : Res → Mem → Prop} {σ : Mem} {x0 x1 x2 x3 x4 x5 x6 x7 x8 : Option Value} : X z 214 379 [x0, x1, x2, x3, x4, x5, x6, x7, x8] (st) cu σ Q = (X z 214 380 [x0, x1, x2, x3, x4, x5, x6, x7, x8] (.int (nI 0) :: st) cu σ Q) := by
  rw [x214_379]
  rfl
theorem v214_380 {z : P0} {cu : Nat × Nat} {Q : Res → Mem → Prop} {σ : Mem} {x0 x1 x2 x3 x4 x5 x6 x7 x8 : Option Value} {v : Int32} : X z 214 380 [x0, x1, x2, x3, x4, x5, x6, x7, x8] ([.int v]) cu σ Q = ((v = nI 0 ∨ v = nI 1) ∧ Q (.inl (some (.int v))) σ) := by
  rw [x214_380]
  rw [nI_0, one1]
  rfl
theorem v214_381 {z : P0} {st : List Value} {cu : Nat × Nat} {Q : Res → Mem → Prop} {σ : Mem} {x0 x1 x2 x3 x4 x5 x6 x7 x8 : Option Value} : X z 214 381 [x0, x1, x2, x3, x4, x5, x6, x7, x8] (st) cu σ Q = (X z 214 1598 [x0, x1, x2, x3, x4, x5, x6, x7, x8] (st) cu σ Q) := by
  rw [x214_381]
  rfl
theorem v214_384 {z : P0} {st : List Value} {cu : Nat × Nat} {Q : Res → Mem → Prop} {σ : Mem} {x0 x2 x3 x4 x5 x6 x7 x8 : Option Value} {u : Nat} : X z 214 384 [x0, some (.ref u), x2, x3, x4, x5, x6, x7, x8] (st) cu σ Q = (X z 214 385 [x0, some (.ref u), x2, x3, x4, x5, x6, x7, x8] (.ref u :: st) cu σ Q) := by
  rw [x214_384]
  rfl
theorem v214_385 {z : P0} {st : List Value} {cu : Nat × Nat} {Q : Res → Mem → Prop} {σ : Mem} {x1 x2 x3 x4 x5 x6 x7 x8 : Option Value} {u : Nat} : X z 214 385 [some (.ref u), x1, x2, x3, x4, x5, x6, x7, x8] (st) cu σ Q = (X z 214 386 [some (.ref u), x1, x2, x3, x4, x5, x6, x7, x8] (.ref u :: st) cu σ Q) := by
  rw [x214_385]
  rfl
theorem v214_386 {z : P0} {st : List Value} {cu : Nat × Nat} {Q : Res → Mem → Prop} {σ : Mem} {x0 x1 x2 x3 x5 x6 x7 x8 : Option Value} {u : Int32} : X z 214 386 [x0, x1, x2, x3, some (.int u), x5, x6, x7, x8] (st) cu σ Q = (X z 214 388 [x0, x1, x2, x3, some (.int u), x5, x6, x7, x8] (.int u :: st) cu σ Q) := by
  rw [x214_386]
  rfl
theorem v214_388 {z : P0} {st : List Value} {cu : Nat × Nat} {Q : Res → Mem → Prop} {σ : Mem} {x0 x1 x2 x3 x4 x5 x6 x7 x8 : Option Value} : X z 214 388 [x0, x1, x2, x3, x4, x5, x6, x7, x8] (st) cu σ Q = (X z 214 389 [x0, x1, x2, x3, x4, x5, x6, x7, x8] (.int (nI 1) :: st) cu σ Q) := by
  rw [x214_388]
  rfl
theorem v214_389 {z : P0} {st : List Value} {cu : Nat × Nat} {Q : Res → Mem → Prop} {σ : Mem} {x0 x1 x2 x3 x4 x5 x6 x7 x8 : Option Value} {u v : Int32} : X z 214 389 [x0, x1, x2, x3, x4, x5, x6, x7, x8] (.int v :: .int u :: st) cu σ Q = (X z 214 390 [x0, x1, x2, x3, x4, x5, x6, x7, x8] (.int (u + v) :: st) cu σ Q) := by
  rw [x214_389]
  rfl
theorem v214_390 {z : P0} {st : List Value} {cu : Nat × Nat} {Q : Res → Mem → Prop} {K : Nat → Nat × Nat} {I : Nat → Nat → Int32} {R : Nat → Nat → Option Nat} {L : Nat → Nat → Int64} {sz : Nat} {ex : Bool} {x0 x1 x2 x3 x4 x5 x6 x7 x8 : Option Value} {u : Nat} {v : Int32} : X z 214 390 [x0, x1, x2, x3, x4, x5, x6, x7, x8] (.int v :: .ref u :: st) cu (K, I, R, L, sz, ex) Q = (((K u).1 = 20 ∨ (K u).1 = 50) ∧ vp_in v (K u).2 ∧ X z 214 391 [x0, x1, x2, x3, x4, x5, x6, x7, x8] (.int (I u v.toNatClampNeg) :: st) cu (K, I, R, L, sz, ex) Q) := by
  rw [x214_390]
  rfl
theorem v214_391 {z : P0} {st : List Value} {cu : Nat × Nat} {Q : Res → Mem → Prop} {σ : Mem} {x1 x2 x3 x4 x5 x6 x7 x8 : Option Value} {u : Nat} : X z 214 391 [some (.ref u), x1, x2, x3, x4, x5, x6, x7, x8] (st) cu σ Q = (X z 214 392 [some (.ref u), x1, x2, x3, x4, x5, x6, x7, x8] (.ref u :: st) cu σ Q) := by
  rw [x214_391]
  rfl
theorem v214_392 {z : P0} {st : List Value} {cu : Nat × Nat} {Q : Res → Mem → Prop} {σ : Mem} {x0 x1 x2 x3 x5 x6 x7 x8 : Option Value} {u : Int32} : X z 214 392 [x0, x1, x2, x3, some (.int u), x5, x6, x7, x8] (st) cu σ Q = (X z 214 394 [x0, x1, x2, x3, some (.int u), x5, x6, x7, x8] (.int u :: st) cu σ Q) := by
  rw [x214_392]
  rfl
theorem v214_394 {z : P0} {st : List Value} {cu : Nat × Nat} {Q : Res → Mem → Prop} {σ : Mem} {x0 x1 x2 x3 x4 x5 x6 x7 x8 : Option Value} : X z 214 394 [x0, x1, x2, x3, x4, x5, x6, x7, x8] (st) cu σ Q = (X z 214 395 [x0, x1, x2, x3, x4, x5, x6, x7, x8] (.int (nI 2) :: st) cu σ Q) := by
  rw [x214_394]
  rfl
theorem v214_395 {z : P0} {st : List Value} {cu : Nat × Nat} {Q : Res → Mem → Prop} {σ : Mem} {x0 x1 x2 x3 x4 x5 x6 x7 x8 : Option Value} {u v : Int32} : X z 214 395 [x0, x1, x2, x3, x4, x5, x6, x7, x8] (.int v :: .int u :: st) cu σ Q = (X z 214 396 [x0, x1, x2, x3, x4, x5, x6, x7, x8] (.int (u + v) :: st) cu σ Q) := by
  rw [x214_395]
  rfl
theorem v214_396 {z : P0} {st : List Value} {cu : Nat × Nat} {Q : Res → Mem → Prop} {K : Nat → Nat × Nat} {I : Nat → Nat → Int32} {R : Nat → Nat → Option Nat} {L : Nat → Nat → Int64} {sz : Nat} {ex : Bool} {x0 x1 x2 x3 x4 x5 x6 x7 x8 : Option Value} {u : Nat} {v : Int32} : X z 214 396 [x0, x1, x2, x3, x4, x5, x6, x7, x8] (.int v :: .ref u :: st) cu (K, I, R, L, sz, ex) Q = (((K u).1 = 20 ∨ (K u).1 = 50) ∧ vp_in v (K u).2 ∧ X z 214 397 [x0, x1, x2, x3, x4, x5, x6, x7, x8] (.int (I u v.toNatClampNeg) :: st) cu (K, I, R, L, sz, ex) Q) := by
  rw [x214_396]
  rfl
theorem v214_397 {z : P0} {st : List Value} {cu : Nat × Nat} {Q : Res → Mem → Prop} {σ : Mem} {x0 x1 x2 x4 x5 x6 x7 x8 : Option Value} {u : Nat} : X z 214 397 [x0, x1, x2, some (.ref u), x4, x5, x6, x7, x8] (st) cu σ Q = (X z 214 398 [x0, x1, x2, some (.ref u), x4, x5, x6, x7, x8] (.ref u :: st) cu σ Q) := by
  rw [x214_397]
  rfl
theorem u214_398 {z : P0} {ls : Lcs} {st : List Value} {c n : Nat} {K : Nat → Nat × Nat} {I : Nat → Nat → Int32} {R : Nat → Nat → Option Nat} {L : Nat → Nat → Int64} {sz : Nat} {ex : Bool} {Q : Res → Mem → Prop} {a0 : Nat} {a1 : Int32} {a2 : Int32} {a3 : Nat} : X z 214 398 ls (.ref a3 :: .int a2 :: .int a1 :: .ref a0 :: st) (c, n) (K, I, R, L, sz, ex) Q = (wsum st ≤ 8 ∧ c + 1 ≤ 601024 ∧ n + 6 ≤ 7293034 ∧ X z 196 0 [some (.ref a0), some (.int a1), some (.int a2), some (.ref a3), none] [] (0, 0) (K, I, R, L, sz, ex) (aftr (X z) mT 214 398 ls st (c + 1, n + 6) Q)) := v214_398
theorem v214_401 {z : P0} {st : List Value} {cu : Nat × Nat} {Q : Res → Mem → Prop} {σ : Mem} {x0 x1 x2 x3 x4 x5 x6 x7 x8 : Option Value} {u : Int32} : X z 214 401 [x0, x1, x2, x3, x4, x5, x6, x7, x8] (.int u :: st) cu σ Q = (cat2 x4 = false ∧ X z 214 403 [x0, x1, x2, x3, x4, some (.int u), x6, x7, x8] (st) cu σ Q) := by
  rw [x214_401]
  obtain ⟨K, I, R, L, sz, ex⟩ := σ
  exact i_istore.trans sl_5
theorem v214_403 {z : P0} {st : List Value} {cu : Nat × Nat} {Q : Res → Mem → Prop} {σ : Mem} {x0 x1 x3 x4 x5 x6 x7 x8 : Option Value} {u : Nat} : X z 214 403 [x0, x1, some (.ref u), x3, x4, x5, x6, x7, x8] (st) cu σ Q = (X z 214 404 [x0, x1, some (.ref u), x3, x4, x5, x6, x7, x8] (.ref u :: st) cu σ Q) := by
  rw [x214_403]
  rfl
theorem v214_404 {z : P0} {st : List Value} {cu : Nat × Nat} {Q : Res → Mem → Prop} {σ : Mem} {x1 x2 x3 x4 x5 x6 x7 x8 : Option Value} {u : Nat} : X z 214 404 [some (.ref u), x1, x2, x3, x4, x5, x6, x7, x8] (st) cu σ Q = (X z 214 405 [some (.ref u), x1, x2, x3, x4, x5, x6, x7, x8] (.ref u :: st) cu σ Q) := by
  rw [x214_404]
  rfl
theorem v214_405 {z : P0} {st : List Value} {cu : Nat × Nat} {Q : Res → Mem → Prop} {σ : Mem} {x0 x1 x2 x3 x5 x6 x7 x8 : Option Value} {u : Int32} : X z 214 405 [x0, x1, x2, x3, some (.int u), x5, x6, x7, x8] (st) cu σ Q = (X z 214 407 [x0, x1, x2, x3, some (.int u), x5, x6, x7, x8] (.int u :: st) cu σ Q) := by
  rw [x214_405]
  rfl
theorem v214_407 {z : P0} {st : List Value} {cu : Nat × Nat} {Q : Res → Mem → Prop} {σ : Mem} {x0 x1 x2 x3 x4 x5 x6 x7 x8 : Option Value} : X z 214 407 [x0, x1, x2, x3, x4, x5, x6, x7, x8] (st) cu σ Q = (X z 214 408 [x0, x1, x2, x3, x4, x5, x6, x7, x8] (.int (nI 1) :: st) cu σ Q) := by
  rw [x214_407]
  rfl
theorem v214_408 {z : P0} {st : List Value} {cu : Nat × Nat} {Q : Res → Mem → Prop} {σ : Mem} {x0 x1 x2 x3 x4 x5 x6 x7 x8 : Option Value} {u v : Int32} : X z 214 408 [x0, x1, x2, x3, x4, x5, x6, x7, x8] (.int v :: .int u :: st) cu σ Q = (X z 214 409 [x0, x1, x2, x3, x4, x5, x6, x7, x8] (.int (u + v) :: st) cu σ Q) := by
  rw [x214_408]
  rfl
theorem v214_409 {z : P0} {st : List Value} {cu : Nat × Nat} {Q : Res → Mem → Prop} {K : Nat → Nat × Nat} {I : Nat → Nat → Int32} {R : Nat → Nat → Option Nat} {L : Nat → Nat → Int64} {sz : Nat} {ex : Bool} {x0 x1 x2 x3 x4 x5 x6 x7 x8 : Option Value} {u : Nat} {v : Int32} : X z 214 409 [x0, x1, x2, x3, x4, x5, x6, x7, x8] (.int v :: .ref u :: st) cu (K, I, R, L, sz, ex) Q = (((K u).1 = 20 ∨ (K u).1 = 50) ∧ vp_in v (K u).2 ∧ X z 214 410 [x0, x1, x2, x3, x4, x5, x6, x7, x8] (.int (I u v.toNatClampNeg) :: st) cu (K, I, R, L, sz, ex) Q) := by
  rw [x214_409]
  rfl
theorem v214_410 {z : P0} {st : List Value} {cu : Nat × Nat} {Q : Res → Mem → Prop} {σ : Mem} {x1 x2 x3 x4 x5 x6 x7 x8 : Option Value} {u : Nat} : X z 214 410 [some (.ref u), x1, x2, x3, x4, x5, x6, x7, x8] (st) cu σ Q = (X z 214 411 [some (.ref u), x1, x2, x3, x4, x5, x6, x7, x8] (.ref u :: st) cu σ Q) := by
  rw [x214_410]
  rfl
theorem v214_411 {z : P0} {st : List Value} {cu : Nat × Nat} {Q : Res → Mem → Prop} {σ : Mem} {x0 x1 x2 x3 x5 x6 x7 x8 : Option Value} {u : Int32} : X z 214 411 [x0, x1, x2, x3, some (.int u), x5, x6, x7, x8] (st) cu σ Q = (X z 214 413 [x0, x1, x2, x3, some (.int u), x5, x6, x7, x8] (.int u :: st) cu σ Q) := by
  rw [x214_411]
  rfl
theorem v214_413 {z : P0} {st : List Value} {cu : Nat × Nat} {Q : Res → Mem → Prop} {σ : Mem} {x0 x1 x2 x3 x4 x5 x6 x7 x8 : Option Value} : X z 214 413 [x0, x1, x2, x3, x4, x5, x6, x7, x8] (st) cu σ Q = (X z 214 414 [x0, x1, x2, x3, x4, x5, x6, x7, x8] (.int (nI 2) :: st) cu σ Q) := by
  rw [x214_413]
  rfl
theorem v214_414 {z : P0} {st : List Value} {cu : Nat × Nat} {Q : Res → Mem → Prop} {σ : Mem} {x0 x1 x2 x3 x4 x5 x6 x7 x8 : Option Value} {u v : Int32} : X z 214 414 [x0, x1, x2, x3, x4, x5, x6, x7, x8] (.int v :: .int u :: st) cu σ Q = (X z 214 415 [x0, x1, x2, x3, x4, x5, x6, x7, x8] (.int (u + v) :: st) cu σ Q) := by
  rw [x214_414]
  rfl
theorem v214_415 {z : P0} {st : List Value} {cu : Nat × Nat} {Q : Res → Mem → Prop} {K : Nat → Nat × Nat} {I : Nat → Nat → Int32} {R : Nat → Nat → Option Nat} {L : Nat → Nat → Int64} {sz : Nat} {ex : Bool} {x0 x1 x2 x3 x4 x5 x6 x7 x8 : Option Value} {u : Nat} {v : Int32} : X z 214 415 [x0, x1, x2, x3, x4, x5, x6, x7, x8] (.int v :: .ref u :: st) cu (K, I, R, L, sz, ex) Q = (((K u).1 = 20 ∨ (K u).1 = 50) ∧ vp_in v (K u).2 ∧ X z 214 416 [x0, x1, x2, x3, x4, x5, x6, x7, x8] (.int (I u v.toNatClampNeg) :: st) cu (K, I, R, L, sz, ex) Q) := by
  rw [x214_415]
  rfl
theorem u214_416 {z : P0} {ls : Lcs} {st : List Value} {c n : Nat} {K : Nat → Nat × Nat} {I : Nat → Nat → Int32} {R : Nat → Nat → Option Nat} {L : Nat → Nat → Int64} {sz : Nat} {ex : Bool} {Q : Res → Mem → Prop} {x : Nat} {a0 : Int32} {a1 : Int32} : X z 214 416 ls (.int a1 :: .int a0 :: .ref x :: st) (c, n) (K, I, R, L, sz, ex) Q = ((K x).1 = 111 ∧ wsum st ≤ 8 ∧ c + 0 ≤ 601024 ∧ n + 0 ≤ 7293034 ∧ X z 137 0 [some (.ref x), some (.int a0), some (.int a1), none] [] (0, 0) (K, I, R, L, sz, ex) (aftr (X z) mT 214 416 ls st (c + 0, n + 0) Q)) := v214_416
theorem v214_419 {z : P0} {st : List Value} {cu : Nat × Nat} {Q : Res → Mem → Prop} {σ : Mem} {x0 x1 x2 x3 x4 x5 x6 x7 x8 : Option Value} {u : Int32} : X z 214 419 [x0, x1, x2, x3, x4, x5, x6, x7, x8] (.int u :: st) cu σ Q = (cat2 x5 = false ∧ X z 214 421 [x0, x1, x2, x3, x4, x5, some (.int u), x7, x8] (st) cu σ Q) := by
  rw [x214_419]
  obtain ⟨K, I, R, L, sz, ex⟩ := σ
  exact i_istore.trans sl_6
theorem v214_421 {z : P0} {st : List Value} {cu : Nat × Nat} {Q : Res → Mem → Prop} {σ : Mem} {x0 x1 x3 x4 x5 x6 x7 x8 : Option Value} {u : Nat} : X z 214 421 [x0, x1, some (.ref u), x3, x4, x5, x6, x7, x8] (st) cu σ Q = (X z 214 422 [x0, x1, some (.ref u), x3, x4, x5, x6, x7, x8] (.ref u :: st) cu σ Q) := by
  rw [x214_421]
  rfl
theorem u214_422 {z : P0} {ls : Lcs} {st : List Value} {c n : Nat} {K : Nat → Nat × Nat} {I : Nat → Nat → Int32} {R : Nat → Nat → Option Nat} {L : Nat → Nat → Int64} {sz : Nat} {ex : Bool} {Q : Res → Mem → Prop} {x : Nat} : X z 214 422 ls (.ref x :: st) (c, n) (K, I, R, L, sz, ex) Q = ((K x).1 = 111 ∧ wsum st ≤ 8 ∧ c + 0 ≤ 601024 ∧ n + 0 ≤ 7293034 ∧ X z 105 0 [some (.ref x)] [] (0, 0) (K, I, R, L, sz, ex) (aftr (X z) mT 214 422 ls st (c + 0, n + 0) Q)) := v214_422
theorem v214_425 {z : P0} {st : List Value} {cu : Nat × Nat} {Q : Res → Mem → Prop} {σ : Mem} {x0 x1 x2 x3 x4 x6 x7 x8 : Option Value} {u : Int32} : X z 214 425 [x0, x1, x2, x3, x4, some (.int u), x6, x7, x8] (st) cu σ Q = (X z 214 427 [x0, x1, x2, x3, x4, some (.int u), x6, x7, x8] (.int u :: st) cu σ Q) := by
  rw [x214_425]
  rfl
theorem v214_427 {z : P0} {st : List Value} {cu : Nat × Nat} {Q : Res → Mem → Prop} {σ : Mem} {x0 x1 x2 x3 x4 x5 x6 x7 x8 : Option Value} {u v : Int32} : X z 214 427 [x0, x1, x2, x3, x4, x5, x6, x7, x8] (.int v :: .int u :: st) cu σ Q = (if u = v then X z 214 432 [x0, x1, x2, x3, x4, x5, x6, x7, x8] (st) cu σ Q else X z 214 430 [x0, x1, x2, x3, x4, x5, x6, x7, x8] (st) cu σ Q) := by
  rw [x214_427]
  obtain ⟨K, I, R, L, sz, ex⟩ := σ
  exact br_ite
theorem v214_430 {z : P0} {st : List Value} {cu : Nat × Nat} {Q : Res → Mem → Prop} {σ : Mem} {x0 x1 x2 x3 x4 x5 x6 x7 x8 : Option Value} : X z 214 430 [x0, x1, x2, x3, x4, x5, x6, x7, x8] (st) cu σ Q = (X z 214 431 [x0, x1, x2, x3, x4, x5, x6, x7, x8] (.int (nI 0) :: st) cu σ Q) := by
  rw [x214_430]
  rfl
theorem v214_431 {z : P0} {cu : Nat × Nat} {Q : Res → Mem → Prop} {σ : Mem} {x0 x1 x2 x3 x4 x5 x6 x7 x8 : Option Value} {v : Int32} : X z 214 431 [x0, x1, x2, x3, x4, x5, x6, x7, x8] ([.int v]) cu σ Q = ((v = nI 0 ∨ v = nI 1) ∧ Q (.inl (some (.int v))) σ) := by
  rw [x214_431]
  rw [nI_0, one1]
  rfl
theorem v214_432 {z : P0} {st : List Value} {cu : Nat × Nat} {Q : Res → Mem → Prop} {σ : Mem} {x0 x1 x2 x3 x4 x6 x7 x8 : Option Value} {u : Int32} : X z 214 432 [x0, x1, x2, x3, x4, some (.int u), x6, x7, x8] (st) cu σ Q = (X z 214 434 [x0, x1, x2, x3, x4, some (.int u), x6, x7, x8] (.int u :: st) cu σ Q) := by
  rw [x214_432]
  rfl
theorem v214_434 {z : P0} {st : List Value} {cu : Nat × Nat} {Q : Res → Mem → Prop} {σ : Mem} {x0 x1 x2 x3 x4 x5 x6 x7 x8 : Option Value} {u : Int32} : X z 214 434 [x0, x1, x2, x3, x4, x5, x6, x7, x8] (.int u :: st) cu σ Q = (if u = nI 0 then X z 214 437 [x0, x1, x2, x3, x4, x5, x6, x7, x8] (st) cu σ Q else X z 214 449 [x0, x1, x2, x3, x4, x5, x6, x7, x8] (st) cu σ Q) := by
  rw [x214_434]
  rw [nI_0]
  obtain ⟨K, I, R, L, sz, ex⟩ := σ
  exact br_ne
theorem v214_437 {z : P0} {st : List Value} {cu : Nat × Nat} {Q : Res → Mem → Prop} {σ : Mem} {x0 x1 x2 x4 x5 x6 x7 x8 : Option Value} {u : Nat} : X z 214 437 [x0, x1, x2, some (.ref u), x4, x5, x6, x7, x8] (st) cu σ Q = (X z 214 438 [x0, x1, x2, some (.ref u), x4, x5, x6, x7, x8] (.ref u :: st) cu σ Q) := by
  rw [x214_437]
  rfl
theorem v214_438 {z : P0} {st : List Value} {cu : Nat × Nat} {Q : Res → Mem → Prop} {σ : Mem} {x0 x1 x2 x3 x4 x5 x6 x7 x8 : Option Value} : X z 214 438 [x0, x1, x2, x3, x4, x5, x6, x7, x8] (st) cu σ Q = (X z 214 439 [x0, x1, x2, x3, x4, x5, x6, x7, x8] (.int (nI 0) :: st) cu σ Q) := by
  rw [x214_438]
  rfl
theorem v214_439 {z : P0} {st : List Value} {cu : Nat × Nat} {Q : Res → Mem → Prop} {K : Nat → Nat × Nat} {I : Nat → Nat → Int32} {R : Nat → Nat → Option Nat} {L : Nat → Nat → Int64} {sz : Nat} {ex : Bool} {x0 x1 x2 x3 x4 x5 x6 x7 x8 : Option Value} {u : Nat} {v : Int32} : X z 214 439 [x0, x1, x2, x3, x4, x5, x6, x7, x8] (.int v :: .ref u :: st) cu (K, I, R, L, sz, ex) Q = ((K u).1 = 21 ∧ vp_in v (K u).2 ∧ X z 214 440 [x0, x1, x2, x3, x4, x5, x6, x7, x8] (.long (L u v.toNatClampNeg) :: st) cu (K, I, R, L, sz, ex) Q) := by
  rw [x214_439]
  rfl
theorem v214_440 {z : P0} {st : List Value} {cu : Nat × Nat} {Q : Res → Mem → Prop} {σ : Mem} {x0 x1 x2 x3 x4 x5 x7 x8 : Option Value} {u : Int32} : X z 214 440 [x0, x1, x2, x3, x4, x5, some (.int u), x7, x8] (st) cu σ Q = (X z 214 442 [x0, x1, x2, x3, x4, x5, some (.int u), x7, x8] (.int u :: st) cu σ Q) := by
  rw [x214_440]
  rfl
theorem v214_442 {z : P0} {st : List Value} {cu : Nat × Nat} {Q : Res → Mem → Prop} {σ : Mem} {x0 x1 x2 x3 x4 x5 x6 x7 x8 : Option Value} {u : Int32} : X z 214 442 [x0, x1, x2, x3, x4, x5, x6, x7, x8] (.int u :: st) cu σ Q = (X z 214 443 [x0, x1, x2, x3, x4, x5, x6, x7, x8] (.long u.toInt64 :: st) cu σ Q) := by
  rw [x214_442]
  rfl
theorem v214_443 {z : P0} {st : List Value} {cu : Nat × Nat} {Q : Res → Mem → Prop} {σ : Mem} {x0 x1 x2 x3 x4 x5 x6 x7 x8 : Option Value} {u v : Int64} : X z 214 443 [x0, x1, x2, x3, x4, x5, x6, x7, x8] (.long v :: .long u :: st) cu σ Q = (X z 214 444 [x0, x1, x2, x3, x4, x5, x6, x7, x8] (.int (lg_cmp u v) :: st) cu σ Q) := by
  rw [x214_443]
  rfl
theorem v214_444 {z : P0} {st : List Value} {cu : Nat × Nat} {Q : Res → Mem → Prop} {σ : Mem} {x0 x1 x2 x3 x4 x5 x6 x7 x8 : Option Value} {u : Int32} : X z 214 444 [x0, x1, x2, x3, x4, x5, x6, x7, x8] (.int u :: st) cu σ Q = (if u = nI 0 then X z 214 449 [x0, x1, x2, x3, x4, x5, x6, x7, x8] (st) cu σ Q else X z 214 447 [x0, x1, x2, x3, x4, x5, x6, x7, x8] (st) cu σ Q) := by
  rw [x214_444]
  rw [nI_0]
  obtain ⟨K, I, R, L, sz, ex⟩ := σ
  exact br_ite
theorem v214_447 {z : P0} {st : List Value} {cu : Nat × Nat} {Q : Res → Mem → Prop} {σ : Mem} {x0 x1 x2 x3 x4 x5 x6 x7 x8 : Option Value} : X z 214 447 [x0, x1, x2, x3, x4, x5, x6, x7, x8] (st) cu σ Q = (X z 214 448 [x0, x1, x2, x3, x4, x5, x6, x7, x8] (.int (nI 0) :: st) cu σ Q) := by
  rw [x214_447]
  rfl
theorem v214_448 {z : P0} {cu : Nat × Nat} {Q : Res → Mem → Prop} {σ : Mem} {x0 x1 x2 x3 x4 x5 x6 x7 x8 : Option Value} {v : Int32} : X z 214 448 [x0, x1, x2, x3, x4, x5, x6, x7, x8] ([.int v]) cu σ Q = ((v = nI 0 ∨ v = nI 1) ∧ Q (.inl (some (.int v))) σ) := by
  rw [x214_448]
  rw [nI_0, one1]
  rfl
theorem v214_449 {z : P0} {st : List Value} {cu : Nat × Nat} {Q : Res → Mem → Prop} {σ : Mem} {x0 x1 x2 x3 x4 x5 x6 x7 x8 : Option Value} : X z 214 449 [x0, x1, x2, x3, x4, x5, x6, x7, x8] (st) cu σ Q = (X z 214 1598 [x0, x1, x2, x3, x4, x5, x6, x7, x8] (st) cu σ Q) := by
  rw [x214_449]
  rfl
theorem v214_452 {z : P0} {st : List Value} {cu : Nat × Nat} {Q : Res → Mem → Prop} {σ : Mem} {x0 x2 x3 x4 x5 x6 x7 x8 : Option Value} {u : Nat} : X z 214 452 [x0, some (.ref u), x2, x3, x4, x5, x6, x7, x8] (st) cu σ Q = (X z 214 453 [x0, some (.ref u), x2, x3, x4, x5, x6, x7, x8] (.ref u :: st) cu σ Q) := by
  rw [x214_452]
  rfl
theorem v214_453 {z : P0} {st : List Value} {cu : Nat × Nat} {Q : Res → Mem → Prop} {σ : Mem} {x1 x2 x3 x4 x5 x6 x7 x8 : Option Value} {u : Nat} : X z 214 453 [some (.ref u), x1, x2, x3, x4, x5, x6, x7, x8] (st) cu σ Q = (X z 214 454 [some (.ref u), x1, x2, x3, x4, x5, x6, x7, x8] (.ref u :: st) cu σ Q) := by
  rw [x214_453]
  rfl
theorem v214_454 {z : P0} {st : List Value} {cu : Nat × Nat} {Q : Res → Mem → Prop} {σ : Mem} {x0 x1 x2 x3 x5 x6 x7 x8 : Option Value} {u : Int32} : X z 214 454 [x0, x1, x2, x3, some (.int u), x5, x6, x7, x8] (st) cu σ Q = (X z 214 456 [x0, x1, x2, x3, some (.int u), x5, x6, x7, x8] (.int u :: st) cu σ Q) := by
  rw [x214_454]
  rfl
theorem v214_456 {z : P0} {st : List Value} {cu : Nat × Nat} {Q : Res → Mem → Prop} {σ : Mem} {x0 x1 x2 x3 x4 x5 x6 x7 x8 : Option Value} : X z 214 456 [x0, x1, x2, x3, x4, x5, x6, x7, x8] (st) cu σ Q = (X z 214 457 [x0, x1, x2, x3, x4, x5, x6, x7, x8] (.int (nI 1) :: st) cu σ Q) := by
  rw [x214_456]
  rfl
theorem v214_457 {z : P0} {st : List Value} {cu : Nat × Nat} {Q : Res → Mem → Prop} {σ : Mem} {x0 x1 x2 x3 x4 x5 x6 x7 x8 : Option Value} {u v : Int32} : X z 214 457 [x0, x1, x2, x3, x4, x5, x6, x7, x8] (.int v :: .int u :: st) cu σ Q = (X z 214 458 [x0, x1, x2, x3, x4, x5, x6, x7, x8] (.int (u + v) :: st) cu σ Q) := by
  rw [x214_457]
  rfl
theorem v214_458 {z : P0} {st : List Value} {cu : Nat × Nat} {Q : Res → Mem → Prop} {K : Nat → Nat × Nat} {I : Nat → Nat → Int32} {R : Nat → Nat → Option Nat} {L : Nat → Nat → Int64} {sz : Nat} {ex : Bool} {x0 x1 x2 x3 x4 x5 x6 x7 x8 : Option Value} {u : Nat} {v : Int32} : X z 214 458 [x0, x1, x2, x3, x4, x5, x6, x7, x8] (.int v :: .ref u :: st) cu (K, I, R, L, sz, ex) Q = (((K u).1 = 20 ∨ (K u).1 = 50) ∧ vp_in v (K u).2 ∧ X z 214 459 [x0, x1, x2, x3, x4, x5, x6, x7, x8] (.int (I u v.toNatClampNeg) :: st) cu (K, I, R, L, sz, ex) Q) := by
  rw [x214_458]
  rfl
theorem v214_459 {z : P0} {st : List Value} {cu : Nat × Nat} {Q : Res → Mem → Prop} {σ : Mem} {x1 x2 x3 x4 x5 x6 x7 x8 : Option Value} {u : Nat} : X z 214 459 [some (.ref u), x1, x2, x3, x4, x5, x6, x7, x8] (st) cu σ Q = (X z 214 460 [some (.ref u), x1, x2, x3, x4, x5, x6, x7, x8] (.ref u :: st) cu σ Q) := by
  rw [x214_459]
  rfl
theorem v214_460 {z : P0} {st : List Value} {cu : Nat × Nat} {Q : Res → Mem → Prop} {σ : Mem} {x0 x1 x2 x3 x5 x6 x7 x8 : Option Value} {u : Int32} : X z 214 460 [x0, x1, x2, x3, some (.int u), x5, x6, x7, x8] (st) cu σ Q = (X z 214 462 [x0, x1, x2, x3, some (.int u), x5, x6, x7, x8] (.int u :: st) cu σ Q) := by
  rw [x214_460]
  rfl
theorem v214_462 {z : P0} {st : List Value} {cu : Nat × Nat} {Q : Res → Mem → Prop} {σ : Mem} {x0 x1 x2 x3 x4 x5 x6 x7 x8 : Option Value} : X z 214 462 [x0, x1, x2, x3, x4, x5, x6, x7, x8] (st) cu σ Q = (X z 214 463 [x0, x1, x2, x3, x4, x5, x6, x7, x8] (.int (nI 2) :: st) cu σ Q) := by
  rw [x214_462]
  rfl
theorem v214_463 {z : P0} {st : List Value} {cu : Nat × Nat} {Q : Res → Mem → Prop} {σ : Mem} {x0 x1 x2 x3 x4 x5 x6 x7 x8 : Option Value} {u v : Int32} : X z 214 463 [x0, x1, x2, x3, x4, x5, x6, x7, x8] (.int v :: .int u :: st) cu σ Q = (X z 214 464 [x0, x1, x2, x3, x4, x5, x6, x7, x8] (.int (u + v) :: st) cu σ Q) := by
  rw [x214_463]
  rfl
theorem v214_464 {z : P0} {st : List Value} {cu : Nat × Nat} {Q : Res → Mem → Prop} {K : Nat → Nat × Nat} {I : Nat → Nat → Int32} {R : Nat → Nat → Option Nat} {L : Nat → Nat → Int64} {sz : Nat} {ex : Bool} {x0 x1 x2 x3 x4 x5 x6 x7 x8 : Option Value} {u : Nat} {v : Int32} : X z 214 464 [x0, x1, x2, x3, x4, x5, x6, x7, x8] (.int v :: .ref u :: st) cu (K, I, R, L, sz, ex) Q = (((K u).1 = 20 ∨ (K u).1 = 50) ∧ vp_in v (K u).2 ∧ X z 214 465 [x0, x1, x2, x3, x4, x5, x6, x7, x8] (.int (I u v.toNatClampNeg) :: st) cu (K, I, R, L, sz, ex) Q) := by
  rw [x214_464]
  rfl
theorem v214_465 {z : P0} {st : List Value} {cu : Nat × Nat} {Q : Res → Mem → Prop} {σ : Mem} {x0 x1 x2 x3 x4 x5 x6 x7 x8 : Option Value} {u : Int32} : X z 214 465 [x0, x1, x2, x3, x4, x5, x6, x7, x8] (.int u :: st) cu σ Q = (if u = nI 0 then X z 214 472 [x0, x1, x2, x3, x4, x5, x6, x7, x8] (st) cu σ Q else X z 214 468 [x0, x1, x2, x3, x4, x5, x6, x7, x8] (st) cu σ Q) := by
  rw [x214_465]
  rw [nI_0]
  obtain ⟨K, I, R, L, sz, ex⟩ := σ
  exact br_ite
theorem v214_468 {z : P0} {st : List Value} {cu : Nat × Nat} {Q : Res → Mem → Prop} {σ : Mem} {x0 x1 x2 x3 x4 x5 x6 x7 x8 : Option Value} : X z 214 468 [x0, x1, x2, x3, x4, x5, x6, x7, x8] (st) cu σ Q = (X z 214 469 [x0, x1, x2, x3, x4, x5, x6, x7, x8] (.int (nI 1) :: st) cu σ Q) := by
  rw [x214_468]
  rfl
theorem v214_469 {z : P0} {st : List Value} {cu : Nat × Nat} {Q : Res → Mem → Prop} {σ : Mem} {x0 x1 x2 x3 x4 x5 x6 x7 x8 : Option Value} : X z 214 469 [x0, x1, x2, x3, x4, x5, x6, x7, x8] (st) cu σ Q = (X z 214 473 [x0, x1, x2, x3, x4, x5, x6, x7, x8] (st) cu σ Q) := by
  rw [x214_469]
  rfl
theorem v214_472 {z : P0} {st : List Value} {cu : Nat × Nat} {Q : Res → Mem → Prop} {σ : Mem} {x0 x1 x2 x3 x4 x5 x6 x7 x8 : Option Value} : X z 214 472 [x0, x1, x2, x3, x4, x5, x6, x7, x8] (st) cu σ Q = (X z 214 473 [x0, x1, x2, x3, x4, x5, x6, x7, x8] (.int (nI 0) :: st) cu σ Q) := by
  rw [x214_472]
  rfl
theorem v214_473 {z : P0} {st : List Value} {cu : Nat × Nat} {Q : Res → Mem → Prop} {σ : Mem} {x0 x1 x2 x4 x5 x6 x7 x8 : Option Value} {u : Nat} : X z 214 473 [x0, x1, x2, some (.ref u), x4, x5, x6, x7, x8] (st) cu σ Q = (X z 214 474 [x0, x1, x2, some (.ref u), x4, x5, x6, x7, x8] (.ref u :: st) cu σ Q) := by
  rw [x214_473]
  rfl
theorem u214_474 {z : P0} {ls : Lcs} {st : List Value} {c n : Nat} {K : Nat → Nat × Nat} {I : Nat → Nat → Int32} {R : Nat → Nat → Option Nat} {L : Nat → Nat → Int64} {sz : Nat} {ex : Bool} {Q : Res → Mem → Prop} {a0 : Nat} {a1 : Int32} {a2 : Int32} {a3 : Nat} : X z 214 474 ls (.ref a3 :: .int a2 :: .int a1 :: .ref a0 :: st) (c, n) (K, I, R, L, sz, ex) Q = (wsum st ≤ 8 ∧ c + 1 ≤ 601024 ∧ n + 6 ≤ 7293034 ∧ X z 197 0 [some (.ref a0), some (.int a1), some (.int a2), some (.ref a3), none] [] (0, 0) (K, I, R, L, sz, ex) (aftr (X z) mT 214 474 ls st (c + 1, n + 6) Q)) := v214_474
theorem v214_477 {z : P0} {st : List Value} {cu : Nat × Nat} {Q : Res → Mem → Prop} {σ : Mem} {x0 x1 x2 x3 x4 x5 x6 x7 x8 : Option Value} {u : Int32} : X z 214 477 [x0, x1, x2, x3, x4, x5, x6, x7, x8] (.int u :: st) cu σ Q = (cat2 x4 = false ∧ X z 214 479 [x0, x1, x2, x3, x4, some (.int u), x6, x7, x8] (st) cu σ Q) := by
  rw [x214_477]
  obtain ⟨K, I, R, L, sz, ex⟩ := σ
  exact i_istore.trans sl_5
theorem v214_479 {z : P0} {st : List Value} {cu : Nat × Nat} {Q : Res → Mem → Prop} {σ : Mem} {x0 x1 x3 x4 x5 x6 x7 x8 : Option Value} {u : Nat} : X z 214 479 [x0, x1, some (.ref u), x3, x4, x5, x6, x7, x8] (st) cu σ Q = (X z 214 480 [x0, x1, some (.ref u), x3, x4, x5, x6, x7, x8] (.ref u :: st) cu σ Q) := by
  rw [x214_479]
  rfl
theorem v214_480 {z : P0} {st : List Value} {cu : Nat × Nat} {Q : Res → Mem → Prop} {σ : Mem} {x1 x2 x3 x4 x5 x6 x7 x8 : Option Value} {u : Nat} : X z 214 480 [some (.ref u), x1, x2, x3, x4, x5, x6, x7, x8] (st) cu σ Q = (X z 214 481 [some (.ref u), x1, x2, x3, x4, x5, x6, x7, x8] (.ref u :: st) cu σ Q) := by
  rw [x214_480]
  rfl
theorem v214_481 {z : P0} {st : List Value} {cu : Nat × Nat} {Q : Res → Mem → Prop} {σ : Mem} {x0 x1 x2 x3 x5 x6 x7 x8 : Option Value} {u : Int32} : X z 214 481 [x0, x1, x2, x3, some (.int u), x5, x6, x7, x8] (st) cu σ Q = (X z 214 483 [x0, x1, x2, x3, some (.int u), x5, x6, x7, x8] (.int u :: st) cu σ Q) := by
  rw [x214_481]
  rfl
theorem v214_483 {z : P0} {st : List Value} {cu : Nat × Nat} {Q : Res → Mem → Prop} {σ : Mem} {x0 x1 x2 x3 x4 x5 x6 x7 x8 : Option Value} : X z 214 483 [x0, x1, x2, x3, x4, x5, x6, x7, x8] (st) cu σ Q = (X z 214 484 [x0, x1, x2, x3, x4, x5, x6, x7, x8] (.int (nI 1) :: st) cu σ Q) := by
  rw [x214_483]
  rfl
theorem v214_484 {z : P0} {st : List Value} {cu : Nat × Nat} {Q : Res → Mem → Prop} {σ : Mem} {x0 x1 x2 x3 x4 x5 x6 x7 x8 : Option Value} {u v : Int32} : X z 214 484 [x0, x1, x2, x3, x4, x5, x6, x7, x8] (.int v :: .int u :: st) cu σ Q = (X z 214 485 [x0, x1, x2, x3, x4, x5, x6, x7, x8] (.int (u + v) :: st) cu σ Q) := by
  rw [x214_484]
  rfl
theorem v214_485 {z : P0} {st : List Value} {cu : Nat × Nat} {Q : Res → Mem → Prop} {K : Nat → Nat × Nat} {I : Nat → Nat → Int32} {R : Nat → Nat → Option Nat} {L : Nat → Nat → Int64} {sz : Nat} {ex : Bool} {x0 x1 x2 x3 x4 x5 x6 x7 x8 : Option Value} {u : Nat} {v : Int32} : X z 214 485 [x0, x1, x2, x3, x4, x5, x6, x7, x8] (.int v :: .ref u :: st) cu (K, I, R, L, sz, ex) Q = (((K u).1 = 20 ∨ (K u).1 = 50) ∧ vp_in v (K u).2 ∧ X z 214 486 [x0, x1, x2, x3, x4, x5, x6, x7, x8] (.int (I u v.toNatClampNeg) :: st) cu (K, I, R, L, sz, ex) Q) := by
  rw [x214_485]
  rfl
theorem v214_486 {z : P0} {st : List Value} {cu : Nat × Nat} {Q : Res → Mem → Prop} {σ : Mem} {x1 x2 x3 x4 x5 x6 x7 x8 : Option Value} {u : Nat} : X z 214 486 [some (.ref u), x1, x2, x3, x4, x5, x6, x7, x8] (st) cu σ Q = (X z 214 487 [some (.ref u), x1, x2, x3, x4, x5, x6, x7, x8] (.ref u :: st) cu σ Q) := by
  rw [x214_486]
  rfl
theorem v214_487 {z : P0} {st : List Value} {cu : Nat × Nat} {Q : Res → Mem → Prop} {σ : Mem} {x0 x1 x2 x3 x5 x6 x7 x8 : Option Value} {u : Int32} : X z 214 487 [x0, x1, x2, x3, some (.int u), x5, x6, x7, x8] (st) cu σ Q = (X z 214 489 [x0, x1, x2, x3, some (.int u), x5, x6, x7, x8] (.int u :: st) cu σ Q) := by
  rw [x214_487]
  rfl
theorem v214_489 {z : P0} {st : List Value} {cu : Nat × Nat} {Q : Res → Mem → Prop} {σ : Mem} {x0 x1 x2 x3 x4 x5 x6 x7 x8 : Option Value} : X z 214 489 [x0, x1, x2, x3, x4, x5, x6, x7, x8] (st) cu σ Q = (X z 214 490 [x0, x1, x2, x3, x4, x5, x6, x7, x8] (.int (nI 2) :: st) cu σ Q) := by
  rw [x214_489]
  rfl
theorem v214_490 {z : P0} {st : List Value} {cu : Nat × Nat} {Q : Res → Mem → Prop} {σ : Mem} {x0 x1 x2 x3 x4 x5 x6 x7 x8 : Option Value} {u v : Int32} : X z 214 490 [x0, x1, x2, x3, x4, x5, x6, x7, x8] (.int v :: .int u :: st) cu σ Q = (X z 214 491 [x0, x1, x2, x3, x4, x5, x6, x7, x8] (.int (u + v) :: st) cu σ Q) := by
  rw [x214_490]
  rfl
theorem v214_491 {z : P0} {st : List Value} {cu : Nat × Nat} {Q : Res → Mem → Prop} {K : Nat → Nat × Nat} {I : Nat → Nat → Int32} {R : Nat → Nat → Option Nat} {L : Nat → Nat → Int64} {sz : Nat} {ex : Bool} {x0 x1 x2 x3 x4 x5 x6 x7 x8 : Option Value} {u : Nat} {v : Int32} : X z 214 491 [x0, x1, x2, x3, x4, x5, x6, x7, x8] (.int v :: .ref u :: st) cu (K, I, R, L, sz, ex) Q = (((K u).1 = 20 ∨ (K u).1 = 50) ∧ vp_in v (K u).2 ∧ X z 214 492 [x0, x1, x2, x3, x4, x5, x6, x7, x8] (.int (I u v.toNatClampNeg) :: st) cu (K, I, R, L, sz, ex) Q) := by
  rw [x214_491]
  rfl
theorem v214_492 {z : P0} {st : List Value} {cu : Nat × Nat} {Q : Res → Mem → Prop} {σ : Mem} {x0 x1 x2 x3 x4 x5 x6 x7 x8 : Option Value} {u : Int32} : X z 214 492 [x0, x1, x2, x3, x4, x5, x6, x7, x8] (.int u :: st) cu σ Q = (if u = nI 0 then X z 214 499 [x0, x1, x2, x3, x4, x5, x6, x7, x8] (st) cu σ Q else X z 214 495 [x0, x1, x2, x3, x4, x5, x6, x7, x8] (st) cu σ Q) := by
  rw [x214_492]
  rw [nI_0]
  obtain ⟨K, I, R, L, sz, ex⟩ := σ
  exact br_ite
theorem v214_495 {z : P0} {st : List Value} {cu : Nat × Nat} {Q : Res → Mem → Prop} {σ : Mem} {x0 x1 x2 x3 x4 x5 x6 x7 x8 : Option Value} : X z 214 495 [x0, x1, x2, x3, x4, x5, x6, x7, x8] (st) cu σ Q = (X z 214 496 [x0, x1, x2, x3, x4, x5, x6, x7, x8] (.int (nI 1) :: st) cu σ Q) := by
  rw [x214_495]
  rfl
theorem v214_496 {z : P0} {st : List Value} {cu : Nat × Nat} {Q : Res → Mem → Prop} {σ : Mem} {x0 x1 x2 x3 x4 x5 x6 x7 x8 : Option Value} : X z 214 496 [x0, x1, x2, x3, x4, x5, x6, x7, x8] (st) cu σ Q = (X z 214 500 [x0, x1, x2, x3, x4, x5, x6, x7, x8] (st) cu σ Q) := by
  rw [x214_496]
  rfl
theorem v214_499 {z : P0} {st : List Value} {cu : Nat × Nat} {Q : Res → Mem → Prop} {σ : Mem} {x0 x1 x2 x3 x4 x5 x6 x7 x8 : Option Value} : X z 214 499 [x0, x1, x2, x3, x4, x5, x6, x7, x8] (st) cu σ Q = (X z 214 500 [x0, x1, x2, x3, x4, x5, x6, x7, x8] (.int (nI 0) :: st) cu σ Q) := by
  rw [x214_499]
  rfl
theorem u214_500 {z : P0} {ls : Lcs} {st : List Value} {c n : Nat} {K : Nat → Nat × Nat} {I : Nat → Nat → Int32} {R : Nat → Nat → Option Nat} {L : Nat → Nat → Int64} {sz : Nat} {ex : Bool} {Q : Res → Mem → Prop} {x : Nat} {a0 : Int32} {a1 : Int32} : X z 214 500 ls (.int a1 :: .int a0 :: .ref x :: st) (c, n) (K, I, R, L, sz, ex) Q = ((K x).1 = 111 ∧ wsum st ≤ 8 ∧ c + 0 ≤ 601024 ∧ n + 0 ≤ 7293034 ∧ X z 139 0 [some (.ref x), some (.int a0), some (.int a1)] [] (0, 0) (K, I, R, L, sz, ex) (aftr (X z) mT 214 500 ls st (c + 0, n + 0) Q)) := v214_500
theorem v214_503 {z : P0} {st : List Value} {cu : Nat × Nat} {Q : Res → Mem → Prop} {σ : Mem} {x0 x1 x2 x3 x4 x5 x6 x7 x8 : Option Value} {u : Int32} : X z 214 503 [x0, x1, x2, x3, x4, x5, x6, x7, x8] (.int u :: st) cu σ Q = (cat2 x5 = false ∧ X z 214 505 [x0, x1, x2, x3, x4, x5, some (.int u), x7, x8] (st) cu σ Q) := by
  rw [x214_503]
  obtain ⟨K, I, R, L, sz, ex⟩ := σ
  exact i_istore.trans sl_6
theorem v214_505 {z : P0} {st : List Value} {cu : Nat × Nat} {Q : Res → Mem → Prop} {σ : Mem} {x0 x1 x3 x4 x5 x6 x7 x8 : Option Value} {u : Nat} : X z 214 505 [x0, x1, some (.ref u), x3, x4, x5, x6, x7, x8] (st) cu σ Q = (X z 214 506 [x0, x1, some (.ref u), x3, x4, x5, x6, x7, x8] (.ref u :: st) cu σ Q) := by
  rw [x214_505]
  rfl
theorem u214_506 {z : P0} {ls : Lcs} {st : List Value} {c n : Nat} {K : Nat → Nat × Nat} {I : Nat → Nat → Int32} {R : Nat → Nat → Option Nat} {L : Nat → Nat → Int64} {sz : Nat} {ex : Bool} {Q : Res → Mem → Prop} {x : Nat} : X z 214 506 ls (.ref x :: st) (c, n) (K, I, R, L, sz, ex) Q = ((K x).1 = 111 ∧ wsum st ≤ 8 ∧ c + 0 ≤ 601024 ∧ n + 0 ≤ 7293034 ∧ X z 105 0 [some (.ref x)] [] (0, 0) (K, I, R, L, sz, ex) (aftr (X z) mT 214 506 ls st (c + 0, n + 0) Q)) := v214_506
theorem v214_509 {z : P0} {st : List Value} {cu : Nat × Nat} {Q : Res → Mem → Prop} {σ : Mem} {x0 x1 x2 x3 x4 x6 x7 x8 : Option Value} {u : Int32} : X z 214 509 [x0, x1, x2, x3, x4, some (.int u), x6, x7, x8] (st) cu σ Q = (X z 214 511 [x0, x1, x2, x3, x4, some (.int u), x6, x7, x8] (.int u :: st) cu σ Q) := by
  rw [x214_509]
  rfl
theorem v214_511 {z : P0} {st : List Value} {cu : Nat × Nat} {Q : Res → Mem → Prop} {σ : Mem} {x0 x1 x2 x3 x4 x5 x6 x7 x8 : Option Value} {u v : Int32} : X z 214 511 [x0, x1, x2, x3, x4, x5, x6, x7, x8] (.int v :: .int u :: st) cu σ Q = (if u = v then X z 214 516 [x0, x1, x2, x3, x4, x5, x6, x7, x8] (st) cu σ Q else X z 214 514 [x0, x1, x2, x3, x4, x5, x6, x7, x8] (st) cu σ Q) := by
  rw [x214_511]
  obtain ⟨K, I, R, L, sz, ex⟩ := σ
  exact br_ite
theorem v214_514 {z : P0} {st : List Value} {cu : Nat × Nat} {Q : Res → Mem → Prop} {σ : Mem} {x0 x1 x2 x3 x4 x5 x6 x7 x8 : Option Value} : X z 214 514 [x0, x1, x2, x3, x4, x5, x6, x7, x8] (st) cu σ Q = (X z 214 515 [x0, x1, x2, x3, x4, x5, x6, x7, x8] (.int (nI 0) :: st) cu σ Q) := by
  rw [x214_514]
  rfl
theorem v214_515 {z : P0} {cu : Nat × Nat} {Q : Res → Mem → Prop} {σ : Mem} {x0 x1 x2 x3 x4 x5 x6 x7 x8 : Option Value} {v : Int32} : X z 214 515 [x0, x1, x2, x3, x4, x5, x6, x7, x8] ([.int v]) cu σ Q = ((v = nI 0 ∨ v = nI 1) ∧ Q (.inl (some (.int v))) σ) := by
  rw [x214_515]
  rw [nI_0, one1]
  rfl
theorem v214_516 {z : P0} {st : List Value} {cu : Nat × Nat} {Q : Res → Mem → Prop} {σ : Mem} {x0 x1 x2 x3 x4 x6 x7 x8 : Option Value} {u : Int32} : X z 214 516 [x0, x1, x2, x3, x4, some (.int u), x6, x7, x8] (st) cu σ Q = (X z 214 518 [x0, x1, x2, x3, x4, some (.int u), x6, x7, x8] (.int u :: st) cu σ Q) := by
  rw [x214_516]
  rfl
theorem v214_518 {z : P0} {st : List Value} {cu : Nat × Nat} {Q : Res → Mem → Prop} {σ : Mem} {x0 x1 x2 x3 x4 x5 x6 x7 x8 : Option Value} {u : Int32} : X z 214 518 [x0, x1, x2, x3, x4, x5, x6, x7, x8] (.int u :: st) cu σ Q = (if u = nI 0 then X z 214 521 [x0, x1, x2, x3, x4, x5, x6, x7, x8] (st) cu σ Q else X z 214 533 [x0, x1, x2, x3, x4, x5, x6, x7, x8] (st) cu σ Q) := by
  rw [x214_518]
  rw [nI_0]
  obtain ⟨K, I, R, L, sz, ex⟩ := σ
  exact br_ne
theorem v214_521 {z : P0} {st : List Value} {cu : Nat × Nat} {Q : Res → Mem → Prop} {σ : Mem} {x0 x1 x2 x4 x5 x6 x7 x8 : Option Value} {u : Nat} : X z 214 521 [x0, x1, x2, some (.ref u), x4, x5, x6, x7, x8] (st) cu σ Q = (X z 214 522 [x0, x1, x2, some (.ref u), x4, x5, x6, x7, x8] (.ref u :: st) cu σ Q) := by
  rw [x214_521]
  rfl
theorem v214_522 {z : P0} {st : List Value} {cu : Nat × Nat} {Q : Res → Mem → Prop} {σ : Mem} {x0 x1 x2 x3 x4 x5 x6 x7 x8 : Option Value} : X z 214 522 [x0, x1, x2, x3, x4, x5, x6, x7, x8] (st) cu σ Q = (X z 214 523 [x0, x1, x2, x3, x4, x5, x6, x7, x8] (.int (nI 0) :: st) cu σ Q) := by
  rw [x214_522]
  rfl
theorem v214_523 {z : P0} {st : List Value} {cu : Nat × Nat} {Q : Res → Mem → Prop} {K : Nat → Nat × Nat} {I : Nat → Nat → Int32} {R : Nat → Nat → Option Nat} {L : Nat → Nat → Int64} {sz : Nat} {ex : Bool} {x0 x1 x2 x3 x4 x5 x6 x7 x8 : Option Value} {u : Nat} {v : Int32} : X z 214 523 [x0, x1, x2, x3, x4, x5, x6, x7, x8] (.int v :: .ref u :: st) cu (K, I, R, L, sz, ex) Q = ((K u).1 = 21 ∧ vp_in v (K u).2 ∧ X z 214 524 [x0, x1, x2, x3, x4, x5, x6, x7, x8] (.long (L u v.toNatClampNeg) :: st) cu (K, I, R, L, sz, ex) Q) := by
  rw [x214_523]
  rfl
theorem v214_524 {z : P0} {st : List Value} {cu : Nat × Nat} {Q : Res → Mem → Prop} {σ : Mem} {x0 x1 x2 x3 x4 x5 x7 x8 : Option Value} {u : Int32} : X z 214 524 [x0, x1, x2, x3, x4, x5, some (.int u), x7, x8] (st) cu σ Q = (X z 214 526 [x0, x1, x2, x3, x4, x5, some (.int u), x7, x8] (.int u :: st) cu σ Q) := by
  rw [x214_524]
  rfl
theorem v214_526 {z : P0} {st : List Value} {cu : Nat × Nat} {Q : Res → Mem → Prop} {σ : Mem} {x0 x1 x2 x3 x4 x5 x6 x7 x8 : Option Value} {u : Int32} : X z 214 526 [x0, x1, x2, x3, x4, x5, x6, x7, x8] (.int u :: st) cu σ Q = (X z 214 527 [x0, x1, x2, x3, x4, x5, x6, x7, x8] (.long u.toInt64 :: st) cu σ Q) := by
  rw [x214_526]
  rfl
theorem v214_527 {z : P0} {st : List Value} {cu : Nat × Nat} {Q : Res → Mem → Prop} {σ : Mem} {x0 x1 x2 x3 x4 x5 x6 x7 x8 : Option Value} {u v : Int64} : X z 214 527 [x0, x1, x2, x3, x4, x5, x6, x7, x8] (.long v :: .long u :: st) cu σ Q = (X z 214 528 [x0, x1, x2, x3, x4, x5, x6, x7, x8] (.int (lg_cmp u v) :: st) cu σ Q) := by
  rw [x214_527]
  rfl
theorem v214_528 {z : P0} {st : List Value} {cu : Nat × Nat} {Q : Res → Mem → Prop} {σ : Mem} {x0 x1 x2 x3 x4 x5 x6 x7 x8 : Option Value} {u : Int32} : X z 214 528 [x0, x1, x2, x3, x4, x5, x6, x7, x8] (.int u :: st) cu σ Q = (if u = nI 0 then X z 214 533 [x0, x1, x2, x3, x4, x5, x6, x7, x8] (st) cu σ Q else X z 214 531 [x0, x1, x2, x3, x4, x5, x6, x7, x8] (st) cu σ Q) := by
  rw [x214_528]
  rw [nI_0]
  obtain ⟨K, I, R, L, sz, ex⟩ := σ
  exact br_ite
theorem v214_531 {z : P0} {st : List Value} {cu : Nat × Nat} {Q : Res → Mem → Prop} {σ : Mem} {x0 x1 x2 x3 x4 x5 x6 x7 x8 : Option Value} : X z 214 531 [x0, x1, x2, x3, x4, x5, x6, x7, x8] (st) cu σ Q = (X z 214 532 [x0, x1, x2, x3, x4, x5, x6, x7, x8] (.int (nI 0) :: st) cu σ Q) := by
  rw [x214_531]
  rfl
theorem v214_532 {z : P0} {cu : Nat × Nat} {Q : Res → Mem → Prop} {σ : Mem} {x0 x1 x2 x3 x4 x5 x6 x7 x8 : Option Value} {v : Int32} : X z 214 532 [x0, x1, x2, x3, x4, x5, x6, x7, x8] ([.int v]) cu σ Q = ((v = nI 0 ∨ v = nI 1) ∧ Q (.inl (some (.int v))) σ) := by
  rw [x214_532]
  rw [nI_0, one1]
  rfl
theorem v214_533 {z : P0} {st : List Value} {cu : Nat × Nat} {Q : Res → Mem → Prop} {σ : Mem} {x0 x1 x2 x3 x4 x5 x6 x7 x8 : Option Value} : X z 214 533 [x0, x1, x2, x3, x4, x5, x6, x7, x8] (st) cu σ Q = (X z 214 1598 [x0, x1, x2, x3, x4, x5, x6, x7, x8] (st) cu σ Q) := by
  rw [x214_533]
  rfl
theorem v214_536 {z : P0} {st : List Value} {cu : Nat × Nat} {Q : Res → Mem → Prop} {σ : Mem} {x0 x2 x3 x4 x5 x6 x7 x8 : Option Value} {u : Nat} : X z 214 536 [x0, some (.ref u), x2, x3, x4, x5, x6, x7, x8] (st) cu σ Q = (X z 214 537 [x0, some (.ref u), x2, x3, x4, x5, x6, x7, x8] (.ref u :: st) cu σ Q) := by
  rw [x214_536]
  rfl
theorem v214_537 {z : P0} {st : List Value} {cu : Nat × Nat} {Q : Res → Mem → Prop} {σ : Mem} {x1 x2 x3 x4 x5 x6 x7 x8 : Option Value} {u : Nat} : X z 214 537 [some (.ref u), x1, x2, x3, x4, x5, x6, x7, x8] (st) cu σ Q = (X z 214 538 [some (.ref u), x1, x2, x3, x4, x5, x6, x7, x8] (.ref u :: st) cu σ Q) := by
  rw [x214_537]
  rfl
theorem v214_538 {z : P0} {st : List Value} {cu : Nat × Nat} {Q : Res → Mem → Prop} {σ : Mem} {x0 x1 x2 x3 x5 x6 x7 x8 : Option Value} {u : Int32} : X z 214 538 [x0, x1, x2, x3, some (.int u), x5, x6, x7, x8] (st) cu σ Q = (X z 214 540 [x0, x1, x2, x3, some (.int u), x5, x6, x7, x8] (.int u :: st) cu σ Q) := by
  rw [x214_538]
  rfl
theorem v214_540 {z : P0} {st : List Value} {cu : Nat × Nat} {Q : Res → Mem → Prop} {σ : Mem} {x0 x1 x2 x3 x4 x5 x6 x7 x8 : Option Value} : X z 214 540 [x0, x1, x2, x3, x4, x5, x6, x7, x8] (st) cu σ Q = (X z 214 541 [x0, x1, x2, x3, x4, x5, x6, x7, x8] (.int (nI 1) :: st) cu σ Q) := by
  rw [x214_540]
  rfl
theorem v214_541 {z : P0} {st : List Value} {cu : Nat × Nat} {Q : Res → Mem → Prop} {σ : Mem} {x0 x1 x2 x3 x4 x5 x6 x7 x8 : Option Value} {u v : Int32} : X z 214 541 [x0, x1, x2, x3, x4, x5, x6, x7, x8] (.int v :: .int u :: st) cu σ Q = (X z 214 542 [x0, x1, x2, x3, x4, x5, x6, x7, x8] (.int (u + v) :: st) cu σ Q) := by
  rw [x214_541]
  rfl
theorem v214_542 {z : P0} {st : List Value} {cu : Nat × Nat} {Q : Res → Mem → Prop} {K : Nat → Nat × Nat} {I : Nat → Nat → Int32} {R : Nat → Nat → Option Nat} {L : Nat → Nat → Int64} {sz : Nat} {ex : Bool} {x0 x1 x2 x3 x4 x5 x6 x7 x8 : Option Value} {u : Nat} {v : Int32} : X z 214 542 [x0, x1, x2, x3, x4, x5, x6, x7, x8] (.int v :: .ref u :: st) cu (K, I, R, L, sz, ex) Q = (((K u).1 = 20 ∨ (K u).1 = 50) ∧ vp_in v (K u).2 ∧ X z 214 543 [x0, x1, x2, x3, x4, x5, x6, x7, x8] (.int (I u v.toNatClampNeg) :: st) cu (K, I, R, L, sz, ex) Q) := by
  rw [x214_542]
  rfl
theorem v214_543 {z : P0} {st : List Value} {cu : Nat × Nat} {Q : Res → Mem → Prop} {σ : Mem} {x1 x2 x3 x4 x5 x6 x7 x8 : Option Value} {u : Nat} : X z 214 543 [some (.ref u), x1, x2, x3, x4, x5, x6, x7, x8] (st) cu σ Q = (X z 214 544 [some (.ref u), x1, x2, x3, x4, x5, x6, x7, x8] (.ref u :: st) cu σ Q) := by
  rw [x214_543]
  rfl
theorem v214_544 {z : P0} {st : List Value} {cu : Nat × Nat} {Q : Res → Mem → Prop} {σ : Mem} {x0 x1 x2 x3 x5 x6 x7 x8 : Option Value} {u : Int32} : X z 214 544 [x0, x1, x2, x3, some (.int u), x5, x6, x7, x8] (st) cu σ Q = (X z 214 546 [x0, x1, x2, x3, some (.int u), x5, x6, x7, x8] (.int u :: st) cu σ Q) := by
  rw [x214_544]
  rfl
theorem v214_546 {z : P0} {st : List Value} {cu : Nat × Nat} {Q : Res → Mem → Prop} {σ : Mem} {x0 x1 x2 x3 x4 x5 x6 x7 x8 : Option Value} : X z 214 546 [x0, x1, x2, x3, x4, x5, x6, x7, x8] (st) cu σ Q = (X z 214 547 [x0, x1, x2, x3, x4, x5, x6, x7, x8] (.int (nI 2) :: st) cu σ Q) := by
  rw [x214_546]
  rfl
theorem v214_547 {z : P0} {st : List Value} {cu : Nat × Nat} {Q : Res → Mem → Prop} {σ : Mem} {x0 x1 x2 x3 x4 x5 x6 x7 x8 : Option Value} {u v : Int32} : X z 214 547 [x0, x1, x2, x3, x4, x5, x6, x7, x8] (.int v :: .int u :: st) cu σ Q = (X z 214 548 [x0, x1, x2, x3, x4, x5, x6, x7, x8] (.int (u + v) :: st) cu σ Q) := by
  rw [x214_547]
  rfl
theorem v214_548 {z : P0} {st : List Value} {cu : Nat × Nat} {Q : Res → Mem → Prop} {K : Nat → Nat × Nat} {I : Nat → Nat → Int32} {R : Nat → Nat → Option Nat} {L : Nat → Nat → Int64} {sz : Nat} {ex : Bool} {x0 x1 x2 x3 x4 x5 x6 x7 x8 : Option Value} {u : Nat} {v : Int32} : X z 214 548 [x0, x1, x2, x3, x4, x5, x6, x7, x8] (.int v :: .ref u :: st) cu (K, I, R, L, sz, ex) Q = (((K u).1 = 20 ∨ (K u).1 = 50) ∧ vp_in v (K u).2 ∧ X z 214 549 [x0, x1, x2, x3, x4, x5, x6, x7, x8] (.int (I u v.toNatClampNeg) :: st) cu (K, I, R, L, sz, ex) Q) := by
  rw [x214_548]
  rfl
theorem v214_549 {z : P0} {st : List Value} {cu : Nat × Nat} {Q : Res → Mem → Prop} {σ : Mem} {x0 x1 x2 x4 x5 x6 x7 x8 : Option Value} {u : Nat} : X z 214 549 [x0, x1, x2, some (.ref u), x4, x5, x6, x7, x8] (st) cu σ Q = (X z 214 550 [x0, x1, x2, some (.ref u), x4, x5, x6, x7, x8] (.ref u :: st) cu σ Q) := by
  rw [x214_549]
  rfl
theorem u214_550 {z : P0} {ls : Lcs} {st : List Value} {c n : Nat} {K : Nat → Nat × Nat} {I : Nat → Nat → Int32} {R : Nat → Nat → Option Nat} {L : Nat → Nat → Int64} {sz : Nat} {ex : Bool} {Q : Res → Mem → Prop} {a0 : Nat} {a1 : Int32} {a2 : Int32} {a3 : Nat} : X z 214 550 ls (.ref a3 :: .int a2 :: .int a1 :: .ref a0 :: st) (c, n) (K, I, R, L, sz, ex) Q = (wsum st ≤ 8 ∧ c + 1 ≤ 601024 ∧ n + 6 ≤ 7293034 ∧ X z 198 0 [some (.ref a0), some (.int a1), some (.int a2), some (.ref a3), none] [] (0, 0) (K, I, R, L, sz, ex) (aftr (X z) mT 214 550 ls st (c + 1, n + 6) Q)) := v214_550
theorem v214_553 {z : P0} {st : List Value} {cu : Nat × Nat} {Q : Res → Mem → Prop} {σ : Mem} {x0 x1 x2 x3 x4 x5 x6 x7 x8 : Option Value} {u : Int32} : X z 214 553 [x0, x1, x2, x3, x4, x5, x6, x7, x8] (.int u :: st) cu σ Q = (cat2 x4 = false ∧ X z 214 555 [x0, x1, x2, x3, x4, some (.int u), x6, x7, x8] (st) cu σ Q) := by
  rw [x214_553]
  obtain ⟨K, I, R, L, sz, ex⟩ := σ
  exact i_istore.trans sl_5
theorem v214_555 {z : P0} {st : List Value} {cu : Nat × Nat} {Q : Res → Mem → Prop} {σ : Mem} {x0 x1 x3 x4 x5 x6 x7 x8 : Option Value} {u : Nat} : X z 214 555 [x0, x1, some (.ref u), x3, x4, x5, x6, x7, x8] (st) cu σ Q = (X z 214 556 [x0, x1, some (.ref u), x3, x4, x5, x6, x7, x8] (.ref u :: st) cu σ Q) := by
  rw [x214_555]
  rfl
theorem v214_556 {z : P0} {st : List Value} {cu : Nat × Nat} {Q : Res → Mem → Prop} {σ : Mem} {x1 x2 x3 x4 x5 x6 x7 x8 : Option Value} {u : Nat} : X z 214 556 [some (.ref u), x1, x2, x3, x4, x5, x6, x7, x8] (st) cu σ Q = (X z 214 557 [some (.ref u), x1, x2, x3, x4, x5, x6, x7, x8] (.ref u :: st) cu σ Q) := by
  rw [x214_556]
  rfl
theorem v214_557 {z : P0} {st : List Value} {cu : Nat × Nat} {Q : Res → Mem → Prop} {σ : Mem} {x0 x1 x2 x3 x5 x6 x7 x8 : Option Value} {u : Int32} : X z 214 557 [x0, x1, x2, x3, some (.int u), x5, x6, x7, x8] (st) cu σ Q = (X z 214 559 [x0, x1, x2, x3, some (.int u), x5, x6, x7, x8] (.int u :: st) cu σ Q) := by
  rw [x214_557]
  rfl
theorem v214_559 {z : P0} {st : List Value} {cu : Nat × Nat} {Q : Res → Mem → Prop} {σ : Mem} {x0 x1 x2 x3 x4 x5 x6 x7 x8 : Option Value} : X z 214 559 [x0, x1, x2, x3, x4, x5, x6, x7, x8] (st) cu σ Q = (X z 214 560 [x0, x1, x2, x3, x4, x5, x6, x7, x8] (.int (nI 1) :: st) cu σ Q) := by
  rw [x214_559]
  rfl
theorem v214_560 {z : P0} {st : List Value} {cu : Nat × Nat} {Q : Res → Mem → Prop} {σ : Mem} {x0 x1 x2 x3 x4 x5 x6 x7 x8 : Option Value} {u v : Int32} : X z 214 560 [x0, x1, x2, x3, x4, x5, x6, x7, x8] (.int v :: .int u :: st) cu σ Q = (X z 214 561 [x0, x1, x2, x3, x4, x5, x6, x7, x8] (.int (u + v) :: st) cu σ Q) := by
  rw [x214_560]
  rfl
theorem v214_561 {z : P0} {st : List Value} {cu : Nat × Nat} {Q : Res → Mem → Prop} {K : Nat → Nat × Nat} {I : Nat → Nat → Int32} {R : Nat → Nat → Option Nat} {L : Nat → Nat → Int64} {sz : Nat} {ex : Bool} {x0 x1 x2 x3 x4 x5 x6 x7 x8 : Option Value} {u : Nat} {v : Int32} : X z 214 561 [x0, x1, x2, x3, x4, x5, x6, x7, x8] (.int v :: .ref u :: st) cu (K, I, R, L, sz, ex) Q = (((K u).1 = 20 ∨ (K u).1 = 50) ∧ vp_in v (K u).2 ∧ X z 214 562 [x0, x1, x2, x3, x4, x5, x6, x7, x8] (.int (I u v.toNatClampNeg) :: st) cu (K, I, R, L, sz, ex) Q) := by
  rw [x214_561]
  rfl
theorem v214_562 {z : P0} {st : List Value} {cu : Nat × Nat} {Q : Res → Mem → Prop} {σ : Mem} {x1 x2 x3 x4 x5 x6 x7 x8 : Option Value} {u : Nat} : X z 214 562 [some (.ref u), x1, x2, x3, x4, x5, x6, x7, x8] (st) cu σ Q = (X z 214 563 [some (.ref u), x1, x2, x3, x4, x5, x6, x7, x8] (.ref u :: st) cu σ Q) := by
  rw [x214_562]
  rfl
theorem v214_563 {z : P0} {st : List Value} {cu : Nat × Nat} {Q : Res → Mem → Prop} {σ : Mem} {x0 x1 x2 x3 x5 x6 x7 x8 : Option Value} {u : Int32} : X z 214 563 [x0, x1, x2, x3, some (.int u), x5, x6, x7, x8] (st) cu σ Q = (X z 214 565 [x0, x1, x2, x3, some (.int u), x5, x6, x7, x8] (.int u :: st) cu σ Q) := by
  rw [x214_563]
  rfl
theorem v214_565 {z : P0} {st : List Value} {cu : Nat × Nat} {Q : Res → Mem → Prop} {σ : Mem} {x0 x1 x2 x3 x4 x5 x6 x7 x8 : Option Value} : X z 214 565 [x0, x1, x2, x3, x4, x5, x6, x7, x8] (st) cu σ Q = (X z 214 566 [x0, x1, x2, x3, x4, x5, x6, x7, x8] (.int (nI 2) :: st) cu σ Q) := by
  rw [x214_565]
  rfl
theorem v214_566 {z : P0} {st : List Value} {cu : Nat × Nat} {Q : Res → Mem → Prop} {σ : Mem} {x0 x1 x2 x3 x4 x5 x6 x7 x8 : Option Value} {u v : Int32} : X z 214 566 [x0, x1, x2, x3, x4, x5, x6, x7, x8] (.int v :: .int u :: st) cu σ Q = (X z 214 567 [x0, x1, x2, x3, x4, x5, x6, x7, x8] (.int (u + v) :: st) cu σ Q) := by
  rw [x214_566]
  rfl
theorem v214_567 {z : P0} {st : List Value} {cu : Nat × Nat} {Q : Res → Mem → Prop} {K : Nat → Nat × Nat} {I : Nat → Nat → Int32} {R : Nat → Nat → Option Nat} {L : Nat → Nat → Int64} {sz : Nat} {ex : Bool} {x0 x1 x2 x3 x4 x5 x6 x7 x8 : Option Value} {u : Nat} {v : Int32} : X z 214 567 [x0, x1, x2, x3, x4, x5, x6, x7, x8] (.int v :: .ref u :: st) cu (K, I, R, L, sz, ex) Q = (((K u).1 = 20 ∨ (K u).1 = 50) ∧ vp_in v (K u).2 ∧ X z 214 568 [x0, x1, x2, x3, x4, x5, x6, x7, x8] (.int (I u v.toNatClampNeg) :: st) cu (K, I, R, L, sz, ex) Q) := by
  rw [x214_567]
  rfl
theorem u214_568 {z : P0} {ls : Lcs} {st : List Value} {c n : Nat} {K : Nat → Nat × Nat} {I : Nat → Nat → Int32} {R : Nat → Nat → Option Nat} {L : Nat → Nat → Int64} {sz : Nat} {ex : Bool} {Q : Res → Mem → Prop} {x : Nat} {a0 : Int32} {a1 : Int32} : X z 214 568 ls (.int a1 :: .int a0 :: .ref x :: st) (c, n) (K, I, R, L, sz, ex) Q = ((K x).1 = 111 ∧ wsum st ≤ 8 ∧ c + 0 ≤ 601024 ∧ n + 0 ≤ 7293034 ∧ X z 142 0 [some (.ref x), some (.int a0), some (.int a1), none] [] (0, 0) (K, I, R, L, sz, ex) (aftr (X z) mT 214 568 ls st (c + 0, n + 0) Q)) := v214_568
theorem v214_571 {z : P0} {st : List Value} {cu : Nat × Nat} {Q : Res → Mem → Prop} {σ : Mem} {x0 x1 x2 x3 x4 x5 x6 x7 x8 : Option Value} {u : Int32} : X z 214 571 [x0, x1, x2, x3, x4, x5, x6, x7, x8] (.int u :: st) cu σ Q = (cat2 x5 = false ∧ X z 214 573 [x0, x1, x2, x3, x4, x5, some (.int u), x7, x8] (st) cu σ Q) := by
  rw [x214_571]
  obtain ⟨K, I, R, L, sz, ex⟩ := σ
  exact i_istore.trans sl_6
theorem v214_573 {z : P0} {st : List Value} {cu : Nat × Nat} {Q : Res → Mem → Prop} {σ : Mem} {x0 x1 x3 x4 x5 x6 x7 x8 : Option Value} {u : Nat} : X z 214 573 [x0, x1, some (.ref u), x3, x4, x5, x6, x7, x8] (st) cu σ Q = (X z 214 574 [x0, x1, some (.ref u), x3, x4, x5, x6, x7, x8] (.ref u :: st) cu σ Q) := by
  rw [x214_573]
  rfl
theorem u214_574 {z : P0} {ls : Lcs} {st : List Value} {c n : Nat} {K : Nat → Nat × Nat} {I : Nat → Nat → Int32} {R : Nat → Nat → Option Nat} {L : Nat → Nat → Int64} {sz : Nat} {ex : Bool} {Q : Res → Mem → Prop} {x : Nat} : X z 214 574 ls (.ref x :: st) (c, n) (K, I, R, L, sz, ex) Q = ((K x).1 = 111 ∧ wsum st ≤ 8 ∧ c + 0 ≤ 601024 ∧ n + 0 ≤ 7293034 ∧ X z 105 0 [some (.ref x)] [] (0, 0) (K, I, R, L, sz, ex) (aftr (X z) mT 214 574 ls st (c + 0, n + 0) Q)) := v214_574
theorem v214_577 {z : P0} {st : List Value} {cu : Nat × Nat} {Q : Res → Mem → Prop} {σ : Mem} {x0 x1 x2 x3 x4 x6 x7 x8 : Option Value} {u : Int32} : X z 214 577 [x0, x1, x2, x3, x4, some (.int u), x6, x7, x8] (st) cu σ Q = (X z 214 579 [x0, x1, x2, x3, x4, some (.int u), x6, x7, x8] (.int u :: st) cu σ Q) := by
  rw [x214_577]
  rfl
theorem v214_579 {z : P0} {st : List Value} {cu : Nat × Nat} {Q : Res → Mem → Prop} {σ : Mem} {x0 x1 x2 x3 x4 x5 x6 x7 x8 : Option Value} {u v : Int32} : X z 214 579 [x0, x1, x2, x3, x4, x5, x6, x7, x8] (.int v :: .int u :: st) cu σ Q = (if u = v then X z 214 584 [x0, x1, x2, x3, x4, x5, x6, x7, x8] (st) cu σ Q else X z 214 582 [x0, x1, x2, x3, x4, x5, x6, x7, x8] (st) cu σ Q) := by
  rw [x214_579]
  obtain ⟨K, I, R, L, sz, ex⟩ := σ
  exact br_ite
theorem v214_582 {z : P0} {st : List Value} {cu : Nat × Nat} {Q : Res → Mem → Prop} {σ : Mem} {x0 x1 x2 x3 x4 x5 x6 x7 x8 : Option Value} : X z 214 582 [x0, x1, x2, x3, x4, x5, x6, x7, x8] (st) cu σ Q = (X z 214 583 [x0, x1, x2, x3, x4, x5, x6, x7, x8] (.int (nI 0) :: st) cu σ Q) := by
  rw [x214_582]
  rfl
theorem v214_583 {z : P0} {cu : Nat × Nat} {Q : Res → Mem → Prop} {σ : Mem} {x0 x1 x2 x3 x4 x5 x6 x7 x8 : Option Value} {v : Int32} : X z 214 583 [x0, x1, x2, x3, x4, x5, x6, x7, x8] ([.int v]) cu σ Q = ((v = nI 0 ∨ v = nI 1) ∧ Q (.inl (some (.int v))) σ) := by
  rw [x214_583]
  rw [nI_0, one1]
  rfl
theorem v214_584 {z : P0} {st : List Value} {cu : Nat × Nat} {Q : Res → Mem → Prop} {σ : Mem} {x0 x1 x2 x3 x4 x6 x7 x8 : Option Value} {u : Int32} : X z 214 584 [x0, x1, x2, x3, x4, some (.int u), x6, x7, x8] (st) cu σ Q = (X z 214 586 [x0, x1, x2, x3, x4, some (.int u), x6, x7, x8] (.int u :: st) cu σ Q) := by
  rw [x214_584]
  rfl
theorem v214_586 {z : P0} {st : List Value} {cu : Nat × Nat} {Q : Res → Mem → Prop} {σ : Mem} {x0 x1 x2 x3 x4 x5 x6 x7 x8 : Option Value} {u : Int32} : X z 214 586 [x0, x1, x2, x3, x4, x5, x6, x7, x8] (.int u :: st) cu σ Q = (if u = nI 0 then X z 214 589 [x0, x1, x2, x3, x4, x5, x6, x7, x8] (st) cu σ Q else X z 214 601 [x0, x1, x2, x3, x4, x5, x6, x7, x8] (st) cu σ Q) := by
  rw [x214_586]
  rw [nI_0]
  obtain ⟨K, I, R, L, sz, ex⟩ := σ
  exact br_ne
theorem v214_589 {z : P0} {st : List Value} {cu : Nat × Nat} {Q : Res → Mem → Prop} {σ : Mem} {x0 x1 x2 x4 x5 x6 x7 x8 : Option Value} {u : Nat} : X z 214 589 [x0, x1, x2, some (.ref u), x4, x5, x6, x7, x8] (st) cu σ Q = (X z 214 590 [x0, x1, x2, some (.ref u), x4, x5, x6, x7, x8] (.ref u :: st) cu σ Q) := by
  rw [x214_589]
  rfl
theorem v214_590 {z : P0} {st : List Value} {cu : Nat × Nat} {Q : Res → Mem → Prop} {σ : Mem} {x0 x1 x2 x3 x4 x5 x6 x7 x8 : Option Value} : X z 214 590 [x0, x1, x2, x3, x4, x5, x6, x7, x8] (st) cu σ Q = (X z 214 591 [x0, x1, x2, x3, x4, x5, x6, x7, x8] (.int (nI 0) :: st) cu σ Q) := by
  rw [x214_590]
  rfl
theorem v214_591 {z : P0} {st : List Value} {cu : Nat × Nat} {Q : Res → Mem → Prop} {K : Nat → Nat × Nat} {I : Nat → Nat → Int32} {R : Nat → Nat → Option Nat} {L : Nat → Nat → Int64} {sz : Nat} {ex : Bool} {x0 x1 x2 x3 x4 x5 x6 x7 x8 : Option Value} {u : Nat} {v : Int32} : X z 214 591 [x0, x1, x2, x3, x4, x5, x6, x7, x8] (.int v :: .ref u :: st) cu (K, I, R, L, sz, ex) Q = ((K u).1 = 21 ∧ vp_in v (K u).2 ∧ X z 214 592 [x0, x1, x2, x3, x4, x5, x6, x7, x8] (.long (L u v.toNatClampNeg) :: st) cu (K, I, R, L, sz, ex) Q) := by
  rw [x214_591]
  rfl
theorem v214_592 {z : P0} {st : List Value} {cu : Nat × Nat} {Q : Res → Mem → Prop} {σ : Mem} {x0 x1 x2 x3 x4 x5 x7 x8 : Option Value} {u : Int32} : X z 214 592 [x0, x1, x2, x3, x4, x5, some (.int u), x7, x8] (st) cu σ Q = (X z 214 594 [x0, x1, x2, x3, x4, x5, some (.int u), x7, x8] (.int u :: st) cu σ Q) := by
  rw [x214_592]
  rfl
theorem v214_594 {z : P0} {st : List Value} {cu : Nat × Nat} {Q : Res → Mem → Prop} {σ : Mem} {x0 x1 x2 x3 x4 x5 x6 x7 x8 : Option Value} {u : Int32} : X z 214 594 [x0, x1, x2, x3, x4, x5, x6, x7, x8] (.int u :: st) cu σ Q = (X z 214 595 [x0, x1, x2, x3, x4, x5, x6, x7, x8] (.long u.toInt64 :: st) cu σ Q) := by
  rw [x214_594]
  rfl
theorem v214_595 {z : P0} {st : List Value} {cu : Nat × Nat} {Q : Res → Mem → Prop} {σ : Mem} {x0 x1 x2 x3 x4 x5 x6 x7 x8 : Option Value} {u v : Int64} : X z 214 595 [x0, x1, x2, x3, x4, x5, x6, x7, x8] (.long v :: .long u :: st) cu σ Q = (X z 214 596 [x0, x1, x2, x3, x4, x5, x6, x7, x8] (.int (lg_cmp u v) :: st) cu σ Q) := by
  rw [x214_595]
  rfl
theorem v214_596 {z : P0} {st : List Value} {cu : Nat × Nat} {Q : Res → Mem → Prop} {σ : Mem} {x0 x1 x2 x3 x4 x5 x6 x7 x8 : Option Value} {u : Int32} : X z 214 596 [x0, x1, x2, x3, x4, x5, x6, x7, x8] (.int u :: st) cu σ Q = (if u = nI 0 then X z 214 601 [x0, x1, x2, x3, x4, x5, x6, x7, x8] (st) cu σ Q else X z 214 599 [x0, x1, x2, x3, x4, x5, x6, x7, x8] (st) cu σ Q) := by
  rw [x214_596]
  rw [nI_0]
  obtain ⟨K, I, R, L, sz, ex⟩ := σ
  exact br_ite
theorem v214_599 {z : P0} {st : List Value} {cu : Nat × Nat} {Q : Res → Mem → Prop} {σ : Mem} {x0 x1 x2 x3 x4 x5 x6 x7 x8 : Option Value} : X z 214 599 [x0, x1, x2, x3, x4, x5, x6, x7, x8] (st) cu σ Q = (X z 214 600 [x0, x1, x2, x3, x4, x5, x6, x7, x8] (.int (nI 0) :: st) cu σ Q) := by
  rw [x214_599]
  rfl
theorem v214_600 {z : P0} {cu : Nat × Nat} {Q : Res → Mem → Prop} {σ : Mem} {x0 x1 x2 x3 x4 x5 x6 x7 x8 : Option Value} {v : Int32} : X z 214 600 [x0, x1, x2, x3, x4, x5, x6, x7, x8] ([.int v]) cu σ Q = ((v = nI 0 ∨ v = nI 1) ∧ Q (.inl (some (.int v))) σ) := by
  rw [x214_600]
  rw [nI_0, one1]
  rfl
theorem v214_601 {z : P0} {st : List Value} {cu : Nat × Nat} {Q : Res → Mem → Prop} {σ : Mem} {x0 x1 x2 x3 x4 x5 x6 x7 x8 : Option Value} : X z 214 601 [x0, x1, x2, x3, x4, x5, x6, x7, x8] (st) cu σ Q = (X z 214 1598 [x0, x1, x2, x3, x4, x5, x6, x7, x8] (st) cu σ Q) := by
  rw [x214_601]
  rfl
theorem v214_604 {z : P0} {st : List Value} {cu : Nat × Nat} {Q : Res → Mem → Prop} {σ : Mem} {x0 x2 x3 x4 x5 x6 x7 x8 : Option Value} {u : Nat} : X z 214 604 [x0, some (.ref u), x2, x3, x4, x5, x6, x7, x8] (st) cu σ Q = (X z 214 605 [x0, some (.ref u), x2, x3, x4, x5, x6, x7, x8] (.ref u :: st) cu σ Q) := by
  rw [x214_604]
  rfl
theorem v214_605 {z : P0} {st : List Value} {cu : Nat × Nat} {Q : Res → Mem → Prop} {σ : Mem} {x0 x1 x2 x4 x5 x6 x7 x8 : Option Value} {u : Nat} : X z 214 605 [x0, x1, x2, some (.ref u), x4, x5, x6, x7, x8] (st) cu σ Q = (X z 214 606 [x0, x1, x2, some (.ref u), x4, x5, x6, x7, x8] (.ref u :: st) cu σ Q) := by
  rw [x214_605]
  rfl
theorem u214_606 {z : P0} {ls : Lcs} {st : List Value} {c n : Nat} {K : Nat → Nat × Nat} {I : Nat → Nat → Int32} {R : Nat → Nat → Option Nat} {L : Nat → Nat → Int64} {sz : Nat} {ex : Bool} {Q : Res → Mem → Prop} {a0 : Nat} {a1 : Nat} : X z 214 606 ls (.ref a1 :: .ref a0 :: st) (c, n) (K, I, R, L, sz, ex) Q = (wsum st ≤ 8 ∧ c + 1 ≤ 601024 ∧ n + 6 ≤ 7293034 ∧ X z 199 0 [some (.ref a0), some (.ref a1), none] [] (0, 0) (K, I, R, L, sz, ex) (aftr (X z) mT 214 606 ls st (c + 1, n + 6) Q)) := v214_606
theorem v214_609 {z : P0} {st : List Value} {cu : Nat × Nat} {Q : Res → Mem → Prop} {σ : Mem} {x0 x1 x2 x3 x4 x5 x6 x7 x8 : Option Value} {u : Int32} : X z 214 609 [x0, x1, x2, x3, x4, x5, x6, x7, x8] (.int u :: st) cu σ Q = (cat2 x4 = false ∧ X z 214 611 [x0, x1, x2, x3, x4, some (.int u), x6, x7, x8] (st) cu σ Q) := by
  rw [x214_609]
  obtain ⟨K, I, R, L, sz, ex⟩ := σ
  exact i_istore.trans sl_5
theorem v214_611 {z : P0} {st : List Value} {cu : Nat × Nat} {Q : Res → Mem → Prop} {σ : Mem} {x0 x1 x3 x4 x5 x6 x7 x8 : Option Value} {u : Nat} : X z 214 611 [x0, x1, some (.ref u), x3, x4, x5, x6, x7, x8] (st) cu σ Q = (X z 214 612 [x0, x1, some (.ref u), x3, x4, x5, x6, x7, x8] (.ref u :: st) cu σ Q) := by
  rw [x214_611]
  rfl
theorem u214_612 {z : P0} {ls : Lcs} {st : List Value} {c n : Nat} {K : Nat → Nat × Nat} {I : Nat → Nat → Int32} {R : Nat → Nat → Option Nat} {L : Nat → Nat → Int64} {sz : Nat} {ex : Bool} {Q : Res → Mem → Prop} {x : Nat} : X z 214 612 ls (.ref x :: st) (c, n) (K, I, R, L, sz, ex) Q = ((K x).1 = 111 ∧ wsum st ≤ 8 ∧ c + 0 ≤ 601024 ∧ n + 0 ≤ 7293034 ∧ X z 143 0 [some (.ref x), none, none] [] (0, 0) (K, I, R, L, sz, ex) (aftr (X z) mT 214 612 ls st (c + 0, n + 0) Q)) := v214_612
theorem v214_615 {z : P0} {st : List Value} {cu : Nat × Nat} {Q : Res → Mem → Prop} {σ : Mem} {x0 x1 x2 x3 x4 x5 x6 x7 x8 : Option Value} {u : Int32} : X z 214 615 [x0, x1, x2, x3, x4, x5, x6, x7, x8] (.int u :: st) cu σ Q = (cat2 x5 = false ∧ X z 214 617 [x0, x1, x2, x3, x4, x5, some (.int u), x7, x8] (st) cu σ Q) := by
  rw [x214_615]
  obtain ⟨K, I, R, L, sz, ex⟩ := σ
  exact i_istore.trans sl_6
theorem v214_617 {z : P0} {st : List Value} {cu : Nat × Nat} {Q : Res → Mem → Prop} {σ : Mem} {x0 x1 x3 x4 x5 x6 x7 x8 : Option Value} {u : Nat} : X z 214 617 [x0, x1, some (.ref u), x3, x4, x5, x6, x7, x8] (st) cu σ Q = (X z 214 618 [x0, x1, some (.ref u), x3, x4, x5, x6, x7, x8] (.ref u :: st) cu σ Q) := by
  rw [x214_617]
  rfl
theorem u214_618 {z : P0} {ls : Lcs} {st : List Value} {c n : Nat} {K : Nat → Nat × Nat} {I : Nat → Nat → Int32} {R : Nat → Nat → Option Nat} {L : Nat → Nat → Int64} {sz : Nat} {ex : Bool} {Q : Res → Mem → Prop} {x : Nat} : X z 214 618 ls (.ref x :: st) (c, n) (K, I, R, L, sz, ex) Q = ((K x).1 = 111 ∧ wsum st ≤ 8 ∧ c + 0 ≤ 601024 ∧ n + 0 ≤ 7293034 ∧ X z 105 0 [some (.ref x)] [] (0, 0) (K, I, R, L, sz, ex) (aftr (X z) mT 214 618 ls st (c + 0, n + 0) Q)) := v214_618
theorem v214_621 {z : P0} {st : List Value} {cu : Nat × Nat} {Q : Res → Mem → Prop} {σ : Mem} {x0 x1 x2 x3 x4 x6 x7 x8 : Option Value} {u : Int32} : X z 214 621 [x0, x1, x2, x3, x4, some (.int u), x6, x7, x8] (st) cu σ Q = (X z 214 623 [x0, x1, x2, x3, x4, some (.int u), x6, x7, x8] (.int u :: st) cu σ Q) := by
  rw [x214_621]
  rfl
theorem v214_623 {z : P0} {st : List Value} {cu : Nat × Nat} {Q : Res → Mem → Prop} {σ : Mem} {x0 x1 x2 x3 x4 x5 x6 x7 x8 : Option Value} {u v : Int32} : X z 214 623 [x0, x1, x2, x3, x4, x5, x6, x7, x8] (.int v :: .int u :: st) cu σ Q = (if u = v then X z 214 628 [x0, x1, x2, x3, x4, x5, x6, x7, x8] (st) cu σ Q else X z 214 626 [x0, x1, x2, x3, x4, x5, x6, x7, x8] (st) cu σ Q) := by
  rw [x214_623]
  obtain ⟨K, I, R, L, sz, ex⟩ := σ
  exact br_ite
theorem v214_626 {z : P0} {st : List Value} {cu : Nat × Nat} {Q : Res → Mem → Prop} {σ : Mem} {x0 x1 x2 x3 x4 x5 x6 x7 x8 : Option Value} : X z 214 626 [x0, x1, x2, x3, x4, x5, x6, x7, x8] (st) cu σ Q = (X z 214 627 [x0, x1, x2, x3, x4, x5, x6, x7, x8] (.int (nI 0) :: st) cu σ Q) := by
  rw [x214_626]
  rfl
theorem v214_627 {z : P0} {cu : Nat × Nat} {Q : Res → Mem → Prop} {σ : Mem} {x0 x1 x2 x3 x4 x5 x6 x7 x8 : Option Value} {v : Int32} : X z 214 627 [x0, x1, x2, x3, x4, x5, x6, x7, x8] ([.int v]) cu σ Q = ((v = nI 0 ∨ v = nI 1) ∧ Q (.inl (some (.int v))) σ) := by
  rw [x214_627]
  rw [nI_0, one1]
  rfl
theorem v214_628 {z : P0} {st : List Value} {cu : Nat × Nat} {Q : Res → Mem → Prop} {σ : Mem} {x0 x1 x2 x3 x4 x6 x7 x8 : Option Value} {u : Int32} : X z 214 628 [x0, x1, x2, x3, x4, some (.int u), x6, x7, x8] (st) cu σ Q = (X z 214 630 [x0, x1, x2, x3, x4, some (.int u), x6, x7, x8] (.int u :: st) cu σ Q) := by
  rw [x214_628]
  rfl
theorem v214_630 {z : P0} {st : List Value} {cu : Nat × Nat} {Q : Res → Mem → Prop} {σ : Mem} {x0 x1 x2 x3 x4 x5 x6 x7 x8 : Option Value} {u : Int32} : X z 214 630 [x0, x1, x2, x3, x4, x5, x6, x7, x8] (.int u :: st) cu σ Q = (if u = nI 0 then X z 214 633 [x0, x1, x2, x3, x4, x5, x6, x7, x8] (st) cu σ Q else X z 214 645 [x0, x1, x2, x3, x4, x5, x6, x7, x8] (st) cu σ Q) := by
  rw [x214_630]
  rw [nI_0]
  obtain ⟨K, I, R, L, sz, ex⟩ := σ
  exact br_ne
theorem v214_633 {z : P0} {st : List Value} {cu : Nat × Nat} {Q : Res → Mem → Prop} {σ : Mem} {x0 x1 x2 x4 x5 x6 x7 x8 : Option Value} {u : Nat} : X z 214 633 [x0, x1, x2, some (.ref u), x4, x5, x6, x7, x8] (st) cu σ Q = (X z 214 634 [x0, x1, x2, some (.ref u), x4, x5, x6, x7, x8] (.ref u :: st) cu σ Q) := by
  rw [x214_633]
  rfl
theorem v214_634 {z : P0} {st : List Value} {cu : Nat × Nat} {Q : Res → Mem → Prop} {σ : Mem} {x0 x1 x2 x3 x4 x5 x6 x7 x8 : Option Value} : X z 214 634 [x0, x1, x2, x3, x4, x5, x6, x7, x8] (st) cu σ Q = (X z 214 635 [x0, x1, x2, x3, x4, x5, x6, x7, x8] (.int (nI 0) :: st) cu σ Q) := by
  rw [x214_634]
  rfl
theorem v214_635 {z : P0} {st : List Value} {cu : Nat × Nat} {Q : Res → Mem → Prop} {K : Nat → Nat × Nat} {I : Nat → Nat → Int32} {R : Nat → Nat → Option Nat} {L : Nat → Nat → Int64} {sz : Nat} {ex : Bool} {x0 x1 x2 x3 x4 x5 x6 x7 x8 : Option Value} {u : Nat} {v : Int32} : X z 214 635 [x0, x1, x2, x3, x4, x5, x6, x7, x8] (.int v :: .ref u :: st) cu (K, I, R, L, sz, ex) Q = ((K u).1 = 21 ∧ vp_in v (K u).2 ∧ X z 214 636 [x0, x1, x2, x3, x4, x5, x6, x7, x8] (.long (L u v.toNatClampNeg) :: st) cu (K, I, R, L, sz, ex) Q) := by
  rw [x214_635]
  rfl
theorem v214_636 {z : P0} {st : List Value} {cu : Nat × Nat} {Q : Res → Mem → Prop} {σ : Mem} {x0 x1 x2 x3 x4 x5 x7 x8 : Option Value} {u : Int32} : X z 214 636 [x0, x1, x2, x3, x4, x5, some (.int u), x7, x8] (st) cu σ Q = (X z 214 638 [x0, x1, x2, x3, x4, x5, some (.int u), x7, x8] (.int u :: st) cu σ Q) := by
  rw [x214_636]
  rfl
theorem v214_638 {z : P0} {st : List Value} {cu : Nat × Nat} {Q : Res → Mem → Prop} {σ : Mem} {x0 x1 x2 x3 x4 x5 x6 x7 x8 : Option Value} {u : Int32} : X z 214 638 [x0, x1, x2, x3, x4, x5, x6, x7, x8] (.int u :: st) cu σ Q = (X z 214 639 [x0, x1, x2, x3, x4, x5, x6, x7, x8] (.long u.toInt64 :: st) cu σ Q) := by
  rw [x214_638]
  rfl
theorem v214_639 {z : P0} {st : List Value} {cu : Nat × Nat} {Q : Res → Mem → Prop} {σ : Mem} {x0 x1 x2 x3 x4 x5 x6 x7 x8 : Option Value} {u v : Int64} : X z 214 639 [x0, x1, x2, x3, x4, x5, x6, x7, x8] (.long v :: .long u :: st) cu σ Q = (X z 214 640 [x0, x1, x2, x3, x4, x5, x6, x7, x8] (.int (lg_cmp u v) :: st) cu σ Q) := by
  rw [x214_639]
  rfl
theorem v214_640 {z : P0} {st : List Value} {cu : Nat × Nat} {Q : Res → Mem → Prop} {σ : Mem} {x0 x1 x2 x3 x4 x5 x6 x7 x8 : Option Value} {u : Int32} : X z 214 640 [x0, x1, x2, x3, x4, x5, x6, x7, x8] (.int u :: st) cu σ Q = (if u = nI 0 then X z 214 645 [x0, x1, x2, x3, x4, x5, x6, x7, x8] (st) cu σ Q else X z 214 643 [x0, x1, x2, x3, x4, x5, x6, x7, x8] (st) cu σ Q) := by
  rw [x214_640]
  rw [nI_0]
  obtain ⟨K, I, R, L, sz, ex⟩ := σ
  exact br_ite
theorem v214_643 {z : P0} {st : List Value} {cu : Nat × Nat} {Q : Res → Mem → Prop} {σ : Mem} {x0 x1 x2 x3 x4 x5 x6 x7 x8 : Option Value} : X z 214 643 [x0, x1, x2, x3, x4, x5, x6, x7, x8] (st) cu σ Q = (X z 214 644 [x0, x1, x2, x3, x4, x5, x6, x7, x8] (.int (nI 0) :: st) cu σ Q) := by
  rw [x214_643]
  rfl
theorem v214_644 {z : P0} {cu : Nat × Nat} {Q : Res → Mem → Prop} {σ : Mem} {x0 x1 x2 x3 x4 x5 x6 x7 x8 : Option Value} {v : Int32} : X z 214 644 [x0, x1, x2, x3, x4, x5, x6, x7, x8] ([.int v]) cu σ Q = ((v = nI 0 ∨ v = nI 1) ∧ Q (.inl (some (.int v))) σ) := by
  rw [x214_644]
  rw [nI_0, one1]
  rfl
theorem v214_645 {z : P0} {st : List Value} {cu : Nat × Nat} {Q : Res → Mem → Prop} {σ : Mem} {x0 x1 x2 x3 x4 x5 x6 x7 x8 : Option Value} : X z 214 645 [x0, x1, x2, x3, x4, x5, x6, x7, x8] (st) cu σ Q = (X z 214 1598 [x0, x1, x2, x3, x4, x5, x6, x7, x8] (st) cu σ Q) := by
  rw [x214_645]
  rfl
theorem v214_648 {z : P0} {st : List Value} {cu : Nat × Nat} {Q : Res → Mem → Prop} {σ : Mem} {x0 x2 x3 x4 x5 x6 x7 x8 : Option Value} {u : Nat} : X z 214 648 [x0, some (.ref u), x2, x3, x4, x5, x6, x7, x8] (st) cu σ Q = (X z 214 649 [x0, some (.ref u), x2, x3, x4, x5, x6, x7, x8] (.ref u :: st) cu σ Q) := by
  rw [x214_648]
  rfl
theorem v214_649 {z : P0} {st : List Value} {cu : Nat × Nat} {Q : Res → Mem → Prop} {σ : Mem} {x1 x2 x3 x4 x5 x6 x7 x8 : Option Value} {u : Nat} : X z 214 649 [some (.ref u), x1, x2, x3, x4, x5, x6, x7, x8] (st) cu σ Q = (X z 214 650 [some (.ref u), x1, x2, x3, x4, x5, x6, x7, x8] (.ref u :: st) cu σ Q) := by
  rw [x214_649]
  rfl
theorem v214_650 {z : P0} {st : List Value} {cu : Nat × Nat} {Q : Res → Mem → Prop} {σ : Mem} {x0 x1 x2 x3 x5 x6 x7 x8 : Option Value} {u : Int32} : X z 214 650 [x0, x1, x2, x3, some (.int u), x5, x6, x7, x8] (st) cu σ Q = (X z 214 652 [x0, x1, x2, x3, some (.int u), x5, x6, x7, x8] (.int u :: st) cu σ Q) := by
  rw [x214_650]
  rfl
theorem v214_652 {z : P0} {st : List Value} {cu : Nat × Nat} {Q : Res → Mem → Prop} {σ : Mem} {x0 x1 x2 x3 x4 x5 x6 x7 x8 : Option Value} : X z 214 652 [x0, x1, x2, x3, x4, x5, x6, x7, x8] (st) cu σ Q = (X z 214 653 [x0, x1, x2, x3, x4, x5, x6, x7, x8] (.int (nI 1) :: st) cu σ Q) := by
  rw [x214_652]
  rfl
theorem v214_653 {z : P0} {st : List Value} {cu : Nat × Nat} {Q : Res → Mem → Prop} {σ : Mem} {x0 x1 x2 x3 x4 x5 x6 x7 x8 : Option Value} {u v : Int32} : X z 214 653 [x0, x1, x2, x3, x4, x5, x6, x7, x8] (.int v :: .int u :: st) cu σ Q = (X z 214 654 [x0, x1, x2, x3, x4, x5, x6, x7, x8] (.int (u + v) :: st) cu σ Q) := by
  rw [x214_653]
  rfl
theorem v214_654 {z : P0} {st : List Value} {cu : Nat × Nat} {Q : Res → Mem → Prop} {K : Nat → Nat × Nat} {I : Nat → Nat → Int32} {R : Nat → Nat → Option Nat} {L : Nat → Nat → Int64} {sz : Nat} {ex : Bool} {x0 x1 x2 x3 x4 x5 x6 x7 x8 : Option Value} {u : Nat} {v : Int32} : X z 214 654 [x0, x1, x2, x3, x4, x5, x6, x7, x8] (.int v :: .ref u :: st) cu (K, I, R, L, sz, ex) Q = (((K u).1 = 20 ∨ (K u).1 = 50) ∧ vp_in v (K u).2 ∧ X z 214 655 [x0, x1, x2, x3, x4, x5, x6, x7, x8] (.int (I u v.toNatClampNeg) :: st) cu (K, I, R, L, sz, ex) Q) := by
  rw [x214_654]
  rfl
theorem v214_655 {z : P0} {st : List Value} {cu : Nat × Nat} {Q : Res → Mem → Prop} {σ : Mem} {x0 x1 x2 x4 x5 x6 x7 x8 : Option Value} {u : Nat} : X z 214 655 [x0, x1, x2, some (.ref u), x4, x5, x6, x7, x8] (st) cu σ Q = (X z 214 656 [x0, x1, x2, some (.ref u), x4, x5, x6, x7, x8] (.ref u :: st) cu σ Q) := by
  rw [x214_655]
  rfl
theorem u214_656 {z : P0} {ls : Lcs} {st : List Value} {c n : Nat} {K : Nat → Nat × Nat} {I : Nat → Nat → Int32} {R : Nat → Nat → Option Nat} {L : Nat → Nat → Int64} {sz : Nat} {ex : Bool} {Q : Res → Mem → Prop} {a0 : Nat} {a1 : Int32} {a2 : Nat} : X z 214 656 ls (.ref a2 :: .int a1 :: .ref a0 :: st) (c, n) (K, I, R, L, sz, ex) Q = (wsum st ≤ 8 ∧ c + 1 ≤ 601024 ∧ n + 6 ≤ 7293034 ∧ X z 200 0 [some (.ref a0), some (.int a1), some (.ref a2), none] [] (0, 0) (K, I, R, L, sz, ex) (aftr (X z) mT 214 656 ls st (c + 1, n + 6) Q)) := v214_656
theorem v214_659 {z : P0} {st : List Value} {cu : Nat × Nat} {Q : Res → Mem → Prop} {σ : Mem} {x0 x1 x2 x3 x4 x5 x6 x7 x8 : Option Value} {u : Int32} : X z 214 659 [x0, x1, x2, x3, x4, x5, x6, x7, x8] (.int u :: st) cu σ Q = (cat2 x4 = false ∧ X z 214 661 [x0, x1, x2, x3, x4, some (.int u), x6, x7, x8] (st) cu σ Q) := by
  rw [x214_659]
  obtain ⟨K, I, R, L, sz, ex⟩ := σ
  exact i_istore.trans sl_5
theorem v214_661 {z : P0} {st : List Value} {cu : Nat × Nat} {Q : Res → Mem → Prop} {σ : Mem} {x0 x1 x3 x4 x5 x6 x7 x8 : Option Value} {u : Nat} : X z 214 661 [x0, x1, some (.ref u), x3, x4, x5, x6, x7, x8] (st) cu σ Q = (X z 214 662 [x0, x1, some (.ref u), x3, x4, x5, x6, x7, x8] (.ref u :: st) cu σ Q) := by
  rw [x214_661]
  rfl
theorem v214_662 {z : P0} {st : List Value} {cu : Nat × Nat} {Q : Res → Mem → Prop} {σ : Mem} {x1 x2 x3 x4 x5 x6 x7 x8 : Option Value} {u : Nat} : X z 214 662 [some (.ref u), x1, x2, x3, x4, x5, x6, x7, x8] (st) cu σ Q = (X z 214 663 [some (.ref u), x1, x2, x3, x4, x5, x6, x7, x8] (.ref u :: st) cu σ Q) := by
  rw [x214_662]
  rfl
theorem v214_663 {z : P0} {st : List Value} {cu : Nat × Nat} {Q : Res → Mem → Prop} {σ : Mem} {x0 x1 x2 x3 x5 x6 x7 x8 : Option Value} {u : Int32} : X z 214 663 [x0, x1, x2, x3, some (.int u), x5, x6, x7, x8] (st) cu σ Q = (X z 214 665 [x0, x1, x2, x3, some (.int u), x5, x6, x7, x8] (.int u :: st) cu σ Q) := by
  rw [x214_663]
  rfl
theorem v214_665 {z : P0} {st : List Value} {cu : Nat × Nat} {Q : Res → Mem → Prop} {σ : Mem} {x0 x1 x2 x3 x4 x5 x6 x7 x8 : Option Value} : X z 214 665 [x0, x1, x2, x3, x4, x5, x6, x7, x8] (st) cu σ Q = (X z 214 666 [x0, x1, x2, x3, x4, x5, x6, x7, x8] (.int (nI 1) :: st) cu σ Q) := by
  rw [x214_665]
  rfl
theorem v214_666 {z : P0} {st : List Value} {cu : Nat × Nat} {Q : Res → Mem → Prop} {σ : Mem} {x0 x1 x2 x3 x4 x5 x6 x7 x8 : Option Value} {u v : Int32} : X z 214 666 [x0, x1, x2, x3, x4, x5, x6, x7, x8] (.int v :: .int u :: st) cu σ Q = (X z 214 667 [x0, x1, x2, x3, x4, x5, x6, x7, x8] (.int (u + v) :: st) cu σ Q) := by
  rw [x214_666]
  rfl
theorem v214_667 {z : P0} {st : List Value} {cu : Nat × Nat} {Q : Res → Mem → Prop} {K : Nat → Nat × Nat} {I : Nat → Nat → Int32} {R : Nat → Nat → Option Nat} {L : Nat → Nat → Int64} {sz : Nat} {ex : Bool} {x0 x1 x2 x3 x4 x5 x6 x7 x8 : Option Value} {u : Nat} {v : Int32} : X z 214 667 [x0, x1, x2, x3, x4, x5, x6, x7, x8] (.int v :: .ref u :: st) cu (K, I, R, L, sz, ex) Q = (((K u).1 = 20 ∨ (K u).1 = 50) ∧ vp_in v (K u).2 ∧ X z 214 668 [x0, x1, x2, x3, x4, x5, x6, x7, x8] (.int (I u v.toNatClampNeg) :: st) cu (K, I, R, L, sz, ex) Q) := by
  rw [x214_667]
  rfl
theorem u214_668 {z : P0} {ls : Lcs} {st : List Value} {c n : Nat} {K : Nat → Nat × Nat} {I : Nat → Nat → Int32} {R : Nat → Nat → Option Nat} {L : Nat → Nat → Int64} {sz : Nat} {ex : Bool} {Q : Res → Mem → Prop} {x : Nat} {a0 : Int32} : X z 214 668 ls (.int a0 :: .ref x :: st) (c, n) (K, I, R, L, sz, ex) Q = ((K x).1 = 111 ∧ wsum st ≤ 8 ∧ c + 0 ≤ 601024 ∧ n + 0 ≤ 7293034 ∧ X z 144 0 [some (.ref x), some (.int a0)] [] (0, 0) (K, I, R, L, sz, ex) (aftr (X z) mT 214 668 ls st (c + 0, n + 0) Q)) := v214_668
theorem v214_671 {z : P0} {st : List Value} {cu : Nat × Nat} {Q : Res → Mem → Prop} {σ : Mem} {x0 x1 x2 x3 x4 x5 x6 x7 x8 : Option Value} {u : Int32} : X z 214 671 [x0, x1, x2, x3, x4, x5, x6, x7, x8] (.int u :: st) cu σ Q = (cat2 x5 = false ∧ X z 214 673 [x0, x1, x2, x3, x4, x5, some (.int u), x7, x8] (st) cu σ Q) := by
  rw [x214_671]
  obtain ⟨K, I, R, L, sz, ex⟩ := σ
  exact i_istore.trans sl_6
theorem v214_673 {z : P0} {st : List Value} {cu : Nat × Nat} {Q : Res → Mem → Prop} {σ : Mem} {x0 x1 x3 x4 x5 x6 x7 x8 : Option Value} {u : Nat} : X z 214 673 [x0, x1, some (.ref u), x3, x4, x5, x6, x7, x8] (st) cu σ Q = (X z 214 674 [x0, x1, some (.ref u), x3, x4, x5, x6, x7, x8] (.ref u :: st) cu σ Q) := by
  rw [x214_673]
  rfl
theorem u214_674 {z : P0} {ls : Lcs} {st : List Value} {c n : Nat} {K : Nat → Nat × Nat} {I : Nat → Nat → Int32} {R : Nat → Nat → Option Nat} {L : Nat → Nat → Int64} {sz : Nat} {ex : Bool} {Q : Res → Mem → Prop} {x : Nat} : X z 214 674 ls (.ref x :: st) (c, n) (K, I, R, L, sz, ex) Q = ((K x).1 = 111 ∧ wsum st ≤ 8 ∧ c + 0 ≤ 601024 ∧ n + 0 ≤ 7293034 ∧ X z 105 0 [some (.ref x)] [] (0, 0) (K, I, R, L, sz, ex) (aftr (X z) mT 214 674 ls st (c + 0, n + 0) Q)) := v214_674
theorem v214_677 {z : P0} {st : List Value} {cu : Nat × Nat} {Q : Res → Mem → Prop} {σ : Mem} {x0 x1 x2 x3 x4 x6 x7 x8 : Option Value} {u : Int32} : X z 214 677 [x0, x1, x2, x3, x4, some (.int u), x6, x7, x8] (st) cu σ Q = (X z 214 679 [x0, x1, x2, x3, x4, some (.int u), x6, x7, x8] (.int u :: st) cu σ Q) := by
  rw [x214_677]
  rfl
theorem v214_679 {z : P0} {st : List Value} {cu : Nat × Nat} {Q : Res → Mem → Prop} {σ : Mem} {x0 x1 x2 x3 x4 x5 x6 x7 x8 : Option Value} {u v : Int32} : X z 214 679 [x0, x1, x2, x3, x4, x5, x6, x7, x8] (.int v :: .int u :: st) cu σ Q = (if u = v then X z 214 684 [x0, x1, x2, x3, x4, x5, x6, x7, x8] (st) cu σ Q else X z 214 682 [x0, x1, x2, x3, x4, x5, x6, x7, x8] (st) cu σ Q) := by
  rw [x214_679]
  obtain ⟨K, I, R, L, sz, ex⟩ := σ
  exact br_ite
theorem v214_682 {z : P0} {st : List Value} {cu : Nat × Nat} {Q : Res → Mem → Prop} {σ : Mem} {x0 x1 x2 x3 x4 x5 x6 x7 x8 : Option Value} : X z 214 682 [x0, x1, x2, x3, x4, x5, x6, x7, x8] (st) cu σ Q = (X z 214 683 [x0, x1, x2, x3, x4, x5, x6, x7, x8] (.int (nI 0) :: st) cu σ Q) := by
  rw [x214_682]
  rfl
theorem v214_683 {z : P0} {cu : Nat × Nat} {Q : Res → Mem → Prop} {σ : Mem} {x0 x1 x2 x3 x4 x5 x6 x7 x8 : Option Value} {v : Int32} : X z 214 683 [x0, x1, x2, x3, x4, x5, x6, x7, x8] ([.int v]) cu σ Q = ((v = nI 0 ∨ v = nI 1) ∧ Q (.inl (some (.int v))) σ) := by
  rw [x214_683]
  rw [nI_0, one1]
  rfl
theorem v214_684 {z : P0} {st : List Value} {cu : Nat × Nat} {Q : Res → Mem → Prop} {σ : Mem} {x0 x1 x2 x3 x4 x6 x7 x8 : Option Value} {u : Int32} : X z 214 684 [x0, x1, x2, x3, x4, some (.int u), x6, x7, x8] (st) cu σ Q = (X z 214 686 [x0, x1, x2, x3, x4, some (.int u), x6, x7, x8] (.int u :: st) cu σ Q) := by
  rw [x214_684]
  rfl
theorem v214_686 {z : P0} {st : List Value} {cu : Nat × Nat} {Q : Res → Mem → Prop} {σ : Mem} {x0 x1 x2 x3 x4 x5 x6 x7 x8 : Option Value} {u : Int32} : X z 214 686 [x0, x1, x2, x3, x4, x5, x6, x7, x8] (.int u :: st) cu σ Q = (if u = nI 0 then X z 214 689 [x0, x1, x2, x3, x4, x5, x6, x7, x8] (st) cu σ Q else X z 214 701 [x0, x1, x2, x3, x4, x5, x6, x7, x8] (st) cu σ Q) := by
  rw [x214_686]
  rw [nI_0]
  obtain ⟨K, I, R, L, sz, ex⟩ := σ
  exact br_ne
theorem v214_689 {z : P0} {st : List Value} {cu : Nat × Nat} {Q : Res → Mem → Prop} {σ : Mem} {x0 x1 x2 x4 x5 x6 x7 x8 : Option Value} {u : Nat} : X z 214 689 [x0, x1, x2, some (.ref u), x4, x5, x6, x7, x8] (st) cu σ Q = (X z 214 690 [x0, x1, x2, some (.ref u), x4, x5, x6, x7, x8] (.ref u :: st) cu σ Q) := by
  rw [x214_689]
  rfl
theorem v214_690 {z : P0} {st : List Value} {cu : Nat × Nat} {Q : Res → Mem → Prop} {σ : Mem} {x0 x1 x2 x3 x4 x5 x6 x7 x8 : Option Value} : X z 214 690 [x0, x1, x2, x3, x4, x5, x6, x7, x8] (st) cu σ Q = (X z 214 691 [x0, x1, x2, x3, x4, x5, x6, x7, x8] (.int (nI 0) :: st) cu σ Q) := by
  rw [x214_690]
  rfl
theorem v214_691 {z : P0} {st : List Value} {cu : Nat × Nat} {Q : Res → Mem → Prop} {K : Nat → Nat × Nat} {I : Nat → Nat → Int32} {R : Nat → Nat → Option Nat} {L : Nat → Nat → Int64} {sz : Nat} {ex : Bool} {x0 x1 x2 x3 x4 x5 x6 x7 x8 : Option Value} {u : Nat} {v : Int32} : X z 214 691 [x0, x1, x2, x3, x4, x5, x6, x7, x8] (.int v :: .ref u :: st) cu (K, I, R, L, sz, ex) Q = ((K u).1 = 21 ∧ vp_in v (K u).2 ∧ X z 214 692 [x0, x1, x2, x3, x4, x5, x6, x7, x8] (.long (L u v.toNatClampNeg) :: st) cu (K, I, R, L, sz, ex) Q) := by
  rw [x214_691]
  rfl
theorem v214_692 {z : P0} {st : List Value} {cu : Nat × Nat} {Q : Res → Mem → Prop} {σ : Mem} {x0 x1 x2 x3 x4 x5 x7 x8 : Option Value} {u : Int32} : X z 214 692 [x0, x1, x2, x3, x4, x5, some (.int u), x7, x8] (st) cu σ Q = (X z 214 694 [x0, x1, x2, x3, x4, x5, some (.int u), x7, x8] (.int u :: st) cu σ Q) := by
  rw [x214_692]
  rfl
theorem v214_694 {z : P0} {st : List Value} {cu : Nat × Nat} {Q : Res → Mem → Prop} {σ : Mem} {x0 x1 x2 x3 x4 x5 x6 x7 x8 : Option Value} {u : Int32} : X z 214 694 [x0, x1, x2, x3, x4, x5, x6, x7, x8] (.int u :: st) cu σ Q = (X z 214 695 [x0, x1, x2, x3, x4, x5, x6, x7, x8] (.long u.toInt64 :: st) cu σ Q) := by
  rw [x214_694]
  rfl
theorem v214_695 {z : P0} {st : List Value} {cu : Nat × Nat} {Q : Res → Mem → Prop} {σ : Mem} {x0 x1 x2 x3 x4 x5 x6 x7 x8 : Option Value} {u v : Int64} : X z 214 695 [x0, x1, x2, x3, x4, x5, x6, x7, x8] (.long v :: .long u :: st) cu σ Q = (X z 214 696 [x0, x1, x2, x3, x4, x5, x6, x7, x8] (.int (lg_cmp u v) :: st) cu σ Q) := by
  rw [x214_695]
  rfl
theorem v214_696 {z : P0} {st : List Value} {cu : Nat × Nat} {Q : Res → Mem → Prop} {σ : Mem} {x0 x1 x2 x3 x4 x5 x6 x7 x8 : Option Value} {u : Int32} : X z 214 696 [x0, x1, x2, x3, x4, x5, x6, x7, x8] (.int u :: st) cu σ Q = (if u = nI 0 then X z 214 701 [x0, x1, x2, x3, x4, x5, x6, x7, x8] (st) cu σ Q else X z 214 699 [x0, x1, x2, x3, x4, x5, x6, x7, x8] (st) cu σ Q) := by
  rw [x214_696]
  rw [nI_0]
  obtain ⟨K, I, R, L, sz, ex⟩ := σ
  exact br_ite
theorem v214_699 {z : P0} {st : List Value} {cu : Nat × Nat} {Q : Res → Mem → Prop} {σ : Mem} {x0 x1 x2 x3 x4 x5 x6 x7 x8 : Option Value} : X z 214 699 [x0, x1, x2, x3, x4, x5, x6, x7, x8] (st) cu σ Q = (X z 214 700 [x0, x1, x2, x3, x4, x5, x6, x7, x8] (.int (nI 0) :: st) cu σ Q) := by
  rw [x214_699]
  rfl
theorem v214_700 {z : P0} {cu : Nat × Nat} {Q : Res → Mem → Prop} {σ : Mem} {x0 x1 x2 x3 x4 x5 x6 x7 x8 : Option Value} {v : Int32} : X z 214 700 [x0, x1, x2, x3, x4, x5, x6, x7, x8] ([.int v]) cu σ Q = ((v = nI 0 ∨ v = nI 1) ∧ Q (.inl (some (.int v))) σ) := by
  rw [x214_700]
  rw [nI_0, one1]
  rfl
theorem v214_701 {z : P0} {st : List Value} {cu : Nat × Nat} {Q : Res → Mem → Prop} {σ : Mem} {x0 x1 x2 x3 x4 x5 x6 x7 x8 : Option Value} : X z 214 701 [x0, x1, x2, x3, x4, x5, x6, x7, x8] (st) cu σ Q = (X z 214 1598 [x0, x1, x2, x3, x4, x5, x6, x7, x8] (st) cu σ Q) := by
  rw [x214_701]
  rfl
theorem v214_704 {z : P0} {st : List Value} {cu : Nat × Nat} {Q : Res → Mem → Prop} {σ : Mem} {x0 x2 x3 x4 x5 x6 x7 x8 : Option Value} {u : Nat} : X z 214 704 [x0, some (.ref u), x2, x3, x4, x5, x6, x7, x8] (st) cu σ Q = (X z 214 705 [x0, some (.ref u), x2, x3, x4, x5, x6, x7, x8] (.ref u :: st) cu σ Q) := by
  rw [x214_704]
  rfl
theorem v214_705 {z : P0} {st : List Value} {cu : Nat × Nat} {Q : Res → Mem → Prop} {σ : Mem} {x1 x2 x3 x4 x5 x6 x7 x8 : Option Value} {u : Nat} : X z 214 705 [some (.ref u), x1, x2, x3, x4, x5, x6, x7, x8] (st) cu σ Q = (X z 214 706 [some (.ref u), x1, x2, x3, x4, x5, x6, x7, x8] (.ref u :: st) cu σ Q) := by
  rw [x214_705]
  rfl
theorem v214_706 {z : P0} {st : List Value} {cu : Nat × Nat} {Q : Res → Mem → Prop} {σ : Mem} {x0 x1 x2 x3 x5 x6 x7 x8 : Option Value} {u : Int32} : X z 214 706 [x0, x1, x2, x3, some (.int u), x5, x6, x7, x8] (st) cu σ Q = (X z 214 708 [x0, x1, x2, x3, some (.int u), x5, x6, x7, x8] (.int u :: st) cu σ Q) := by
  rw [x214_706]
  rfl
theorem v214_708 {z : P0} {st : List Value} {cu : Nat × Nat} {Q : Res → Mem → Prop} {σ : Mem} {x0 x1 x2 x3 x4 x5 x6 x7 x8 : Option Value} : X z 214 708 [x0, x1, x2, x3, x4, x5, x6, x7, x8] (st) cu σ Q = (X z 214 709 [x0, x1, x2, x3, x4, x5, x6, x7, x8] (.int (nI 1) :: st) cu σ Q) := by
  rw [x214_708]
  rfl
theorem v214_709 {z : P0} {st : List Value} {cu : Nat × Nat} {Q : Res → Mem → Prop} {σ : Mem} {x0 x1 x2 x3 x4 x5 x6 x7 x8 : Option Value} {u v : Int32} : X z 214 709 [x0, x1, x2, x3, x4, x5, x6, x7, x8] (.int v :: .int u :: st) cu σ Q = (X z 214 710 [x0, x1, x2, x3, x4, x5, x6, x7, x8] (.int (u + v) :: st) cu σ Q) := by
  rw [x214_709]
  rfl
theorem v214_710 {z : P0} {st : List Value} {cu : Nat × Nat} {Q : Res → Mem → Prop} {K : Nat → Nat × Nat} {I : Nat → Nat → Int32} {R : Nat → Nat → Option Nat} {L : Nat → Nat → Int64} {sz : Nat} {ex : Bool} {x0 x1 x2 x3 x4 x5 x6 x7 x8 : Option Value} {u : Nat} {v : Int32} : X z 214 710 [x0, x1, x2, x3, x4, x5, x6, x7, x8] (.int v :: .ref u :: st) cu (K, I, R, L, sz, ex) Q = (((K u).1 = 20 ∨ (K u).1 = 50) ∧ vp_in v (K u).2 ∧ X z 214 711 [x0, x1, x2, x3, x4, x5, x6, x7, x8] (.int (I u v.toNatClampNeg) :: st) cu (K, I, R, L, sz, ex) Q) := by
  rw [x214_710]
  rfl
theorem v214_711 {z : P0} {st : List Value} {cu : Nat × Nat} {Q : Res → Mem → Prop} {σ : Mem} {x0 x1 x2 x4 x5 x6 x7 x8 : Option Value} {u : Nat} : X z 214 711 [x0, x1, x2, some (.ref u), x4, x5, x6, x7, x8] (st) cu σ Q = (X z 214 712 [x0, x1, x2, some (.ref u), x4, x5, x6, x7, x8] (.ref u :: st) cu σ Q) := by
  rw [x214_711]
  rfl
theorem u214_712 {z : P0} {ls : Lcs} {st : List Value} {c n : Nat} {K : Nat → Nat × Nat} {I : Nat → Nat → Int32} {R : Nat → Nat → Option Nat} {L : Nat → Nat → Int64} {sz : Nat} {ex : Bool} {Q : Res → Mem → Prop} {a0 : Nat} {a1 : Int32} {a2 : Nat} : X z 214 712 ls (.ref a2 :: .int a1 :: .ref a0 :: st) (c, n) (K, I, R, L, sz, ex) Q = (wsum st ≤ 8 ∧ c + 1 ≤ 601024 ∧ n + 6 ≤ 7293034 ∧ X z 201 0 [some (.ref a0), some (.int a1), some (.ref a2), none] [] (0, 0) (K, I, R, L, sz, ex) (aftr (X z) mT 214 712 ls st (c + 1, n + 6) Q)) := v214_712
theorem v214_715 {z : P0} {st : List Value} {cu : Nat × Nat} {Q : Res → Mem → Prop} {σ : Mem} {x0 x1 x2 x3 x4 x5 x6 x7 x8 : Option Value} {u : Int32} : X z 214 715 [x0, x1, x2, x3, x4, x5, x6, x7, x8] (.int u :: st) cu σ Q = (cat2 x4 = false ∧ X z 214 717 [x0, x1, x2, x3, x4, some (.int u), x6, x7, x8] (st) cu σ Q) := by
  rw [x214_715]
  obtain ⟨K, I, R, L, sz, ex⟩ := σ
  exact i_istore.trans sl_5
theorem v214_717 {z : P0} {st : List Value} {cu : Nat × Nat} {Q : Res → Mem → Prop} {σ : Mem} {x0 x1 x3 x4 x5 x6 x7 x8 : Option Value} {u : Nat} : X z 214 717 [x0, x1, some (.ref u), x3, x4, x5, x6, x7, x8] (st) cu σ Q = (X z 214 718 [x0, x1, some (.ref u), x3, x4, x5, x6, x7, x8] (.ref u :: st) cu σ Q) := by
  rw [x214_717]
  rfl
theorem v214_718 {z : P0} {st : List Value} {cu : Nat × Nat} {Q : Res → Mem → Prop} {σ : Mem} {x1 x2 x3 x4 x5 x6 x7 x8 : Option Value} {u : Nat} : X z 214 718 [some (.ref u), x1, x2, x3, x4, x5, x6, x7, x8] (st) cu σ Q = (X z 214 719 [some (.ref u), x1, x2, x3, x4, x5, x6, x7, x8] (.ref u :: st) cu σ Q) := by
  rw [x214_718]
  rfl
theorem v214_719 {z : P0} {st : List Value} {cu : Nat × Nat} {Q : Res → Mem → Prop} {σ : Mem} {x0 x1 x2 x3 x5 x6 x7 x8 : Option Value} {u : Int32} : X z 214 719 [x0, x1, x2, x3, some (.int u), x5, x6, x7, x8] (st) cu σ Q = (X z 214 721 [x0, x1, x2, x3, some (.int u), x5, x6, x7, x8] (.int u :: st) cu σ Q) := by
  rw [x214_719]
  rfl
theorem v214_721 {z : P0} {st : List Value} {cu : Nat × Nat} {Q : Res → Mem → Prop} {σ : Mem} {x0 x1 x2 x3 x4 x5 x6 x7 x8 : Option Value} : X z 214 721 [x0, x1, x2, x3, x4, x5, x6, x7, x8] (st) cu σ Q = (X z 214 722 [x0, x1, x2, x3, x4, x5, x6, x7, x8] (.int (nI 1) :: st) cu σ Q) := by
  rw [x214_721]
  rfl
theorem v214_722 {z : P0} {st : List Value} {cu : Nat × Nat} {Q : Res → Mem → Prop} {σ : Mem} {x0 x1 x2 x3 x4 x5 x6 x7 x8 : Option Value} {u v : Int32} : X z 214 722 [x0, x1, x2, x3, x4, x5, x6, x7, x8] (.int v :: .int u :: st) cu σ Q = (X z 214 723 [x0, x1, x2, x3, x4, x5, x6, x7, x8] (.int (u + v) :: st) cu σ Q) := by
  rw [x214_722]
  rfl
theorem v214_723 {z : P0} {st : List Value} {cu : Nat × Nat} {Q : Res → Mem → Prop} {K : Nat → Nat × Nat} {I : Nat → Nat → Int32} {R : Nat → Nat → Option Nat} {L : Nat → Nat → Int64} {sz : Nat} {ex : Bool} {x0 x1 x2 x3 x4 x5 x6 x7 x8 : Option Value} {u : Nat} {v : Int32} : X z 214 723 [x0, x1, x2, x3, x4, x5, x6, x7, x8] (.int v :: .ref u :: st) cu (K, I, R, L, sz, ex) Q = (((K u).1 = 20 ∨ (K u).1 = 50) ∧ vp_in v (K u).2 ∧ X z 214 724 [x0, x1, x2, x3, x4, x5, x6, x7, x8] (.int (I u v.toNatClampNeg) :: st) cu (K, I, R, L, sz, ex) Q) := by
  rw [x214_723]
  rfl
theorem u214_724 {z : P0} {ls : Lcs} {st : List Value} {c n : Nat} {K : Nat → Nat × Nat} {I : Nat → Nat → Int32} {R : Nat → Nat → Option Nat} {L : Nat → Nat → Int64} {sz : Nat} {ex : Bool} {Q : Res → Mem → Prop} {x : Nat} {a0 : Int32} : X z 214 724 ls (.int a0 :: .ref x :: st) (c, n) (K, I, R, L, sz, ex) Q = ((K x).1 = 111 ∧ wsum st ≤ 8 ∧ c + 0 ≤ 601024 ∧ n + 0 ≤ 7293034 ∧ X z 145 0 [some (.ref x), some (.int a0)] [] (0, 0) (K, I, R, L, sz, ex) (aftr (X z) mT 214 724 ls st (c + 0, n + 0) Q)) := v214_724
theorem v214_727 {z : P0} {st : List Value} {cu : Nat × Nat} {Q : Res → Mem → Prop} {σ : Mem} {x0 x1 x2 x3 x4 x5 x6 x7 x8 : Option Value} {u : Int32} : X z 214 727 [x0, x1, x2, x3, x4, x5, x6, x7, x8] (.int u :: st) cu σ Q = (cat2 x5 = false ∧ X z 214 729 [x0, x1, x2, x3, x4, x5, some (.int u), x7, x8] (st) cu σ Q) := by
  rw [x214_727]
  obtain ⟨K, I, R, L, sz, ex⟩ := σ
  exact i_istore.trans sl_6
theorem v214_729 {z : P0} {st : List Value} {cu : Nat × Nat} {Q : Res → Mem → Prop} {σ : Mem} {x0 x1 x3 x4 x5 x6 x7 x8 : Option Value} {u : Nat} : X z 214 729 [x0, x1, some (.ref u), x3, x4, x5, x6, x7, x8] (st) cu σ Q = (X z 214 730 [x0, x1, some (.ref u), x3, x4, x5, x6, x7, x8] (.ref u :: st) cu σ Q) := by
  rw [x214_729]
  rfl
theorem u214_730 {z : P0} {ls : Lcs} {st : List Value} {c n : Nat} {K : Nat → Nat × Nat} {I : Nat → Nat → Int32} {R : Nat → Nat → Option Nat} {L : Nat → Nat → Int64} {sz : Nat} {ex : Bool} {Q : Res → Mem → Prop} {x : Nat} : X z 214 730 ls (.ref x :: st) (c, n) (K, I, R, L, sz, ex) Q = ((K x).1 = 111 ∧ wsum st ≤ 8 ∧ c + 0 ≤ 601024 ∧ n + 0 ≤ 7293034 ∧ X z 105 0 [some (.ref x)] [] (0, 0) (K, I, R, L, sz, ex) (aftr (X z) mT 214 730 ls st (c + 0, n + 0) Q)) := v214_730
theorem v214_733 {z : P0} {st : List Value} {cu : Nat × Nat} {Q : Res → Mem → Prop} {σ : Mem} {x0 x1 x2 x3 x4 x6 x7 x8 : Option Value} {u : Int32} : X z 214 733 [x0, x1, x2, x3, x4, some (.int u), x6, x7, x8] (st) cu σ Q = (X z 214 735 [x0, x1, x2, x3, x4, some (.int u), x6, x7, x8] (.int u :: st) cu σ Q) := by
  rw [x214_733]
  rfl
theorem v214_735 {z : P0} {st : List Value} {cu : Nat × Nat} {Q : Res → Mem → Prop} {σ : Mem} {x0 x1 x2 x3 x4 x5 x6 x7 x8 : Option Value} {u v : Int32} : X z 214 735 [x0, x1, x2, x3, x4, x5, x6, x7, x8] (.int v :: .int u :: st) cu σ Q = (if u = v then X z 214 740 [x0, x1, x2, x3, x4, x5, x6, x7, x8] (st) cu σ Q else X z 214 738 [x0, x1, x2, x3, x4, x5, x6, x7, x8] (st) cu σ Q) := by
  rw [x214_735]
  obtain ⟨K, I, R, L, sz, ex⟩ := σ
  exact br_ite
theorem v214_738 {z : P0} {st : List Value} {cu : Nat × Nat} {Q : Res → Mem → Prop} {σ : Mem} {x0 x1 x2 x3 x4 x5 x6 x7 x8 : Option Value} : X z 214 738 [x0, x1, x2, x3, x4, x5, x6, x7, x8] (st) cu σ Q = (X z 214 739 [x0, x1, x2, x3, x4, x5, x6, x7, x8] (.int (nI 0) :: st) cu σ Q) := by
  rw [x214_738]
  rfl
theorem v214_739 {z : P0} {cu : Nat × Nat} {Q : Res → Mem → Prop} {σ : Mem} {x0 x1 x2 x3 x4 x5 x6 x7 x8 : Option Value} {v : Int32} : X z 214 739 [x0, x1, x2, x3, x4, x5, x6, x7, x8] ([.int v]) cu σ Q = ((v = nI 0 ∨ v = nI 1) ∧ Q (.inl (some (.int v))) σ) := by
  rw [x214_739]
  rw [nI_0, one1]
  rfl
theorem v214_740 {z : P0} {st : List Value} {cu : Nat × Nat} {Q : Res → Mem → Prop} {σ : Mem} {x0 x1 x2 x3 x4 x6 x7 x8 : Option Value} {u : Int32} : X z 214 740 [x0, x1, x2, x3, x4, some (.int u), x6, x7, x8] (st) cu σ Q = (X z 214 742 [x0, x1, x2, x3, x4, some (.int u), x6, x7, x8] (.int u :: st) cu σ Q) := by
  rw [x214_740]
  rfl
theorem v214_742 {z : P0} {st : List Value} {cu : Nat × Nat} {Q : Res → Mem → Prop} {σ : Mem} {x0 x1 x2 x3 x4 x5 x6 x7 x8 : Option Value} {u : Int32} : X z 214 742 [x0, x1, x2, x3, x4, x5, x6, x7, x8] (.int u :: st) cu σ Q = (if u = nI 0 then X z 214 745 [x0, x1, x2, x3, x4, x5, x6, x7, x8] (st) cu σ Q else X z 214 757 [x0, x1, x2, x3, x4, x5, x6, x7, x8] (st) cu σ Q) := by
  rw [x214_742]
  rw [nI_0]
  obtain ⟨K, I, R, L, sz, ex⟩ := σ
  exact br_ne
theorem v214_745 {z : P0} {st : List Value} {cu : Nat × Nat} {Q : Res → Mem → Prop} {σ : Mem} {x0 x1 x2 x4 x5 x6 x7 x8 : Option Value} {u : Nat} : X z 214 745 [x0, x1, x2, some (.ref u), x4, x5, x6, x7, x8] (st) cu σ Q = (X z 214 746 [x0, x1, x2, some (.ref u), x4, x5, x6, x7, x8] (.ref u :: st) cu σ Q) := by
  rw [x214_745]
  rfl
theorem v214_746 {z : P0} {st : List Value} {cu : Nat × Nat} {Q : Res → Mem → Prop} {σ : Mem} {x0 x1 x2 x3 x4 x5 x6 x7 x8 : Option Value} : X z 214 746 [x0, x1, x2, x3, x4, x5, x6, x7, x8] (st) cu σ Q = (X z 214 747 [x0, x1, x2, x3, x4, x5, x6, x7, x8] (.int (nI 0) :: st) cu σ Q) := by
  rw [x214_746]
  rfl
theorem v214_747 {z : P0} {st : List Value} {cu : Nat × Nat} {Q : Res → Mem → Prop} {K : Nat → Nat × Nat} {I : Nat → Nat → Int32} {R : Nat → Nat → Option Nat} {L : Nat → Nat → Int64} {sz : Nat} {ex : Bool} {x0 x1 x2 x3 x4 x5 x6 x7 x8 : Option Value} {u : Nat} {v : Int32} : X z 214 747 [x0, x1, x2, x3, x4, x5, x6, x7, x8] (.int v :: .ref u :: st) cu (K, I, R, L, sz, ex) Q = ((K u).1 = 21 ∧ vp_in v (K u).2 ∧ X z 214 748 [x0, x1, x2, x3, x4, x5, x6, x7, x8] (.long (L u v.toNatClampNeg) :: st) cu (K, I, R, L, sz, ex) Q) := by
  rw [x214_747]
  rfl
theorem v214_748 {z : P0} {st : List Value} {cu : Nat × Nat} {Q : Res → Mem → Prop} {σ : Mem} {x0 x1 x2 x3 x4 x5 x7 x8 : Option Value} {u : Int32} : X z 214 748 [x0, x1, x2, x3, x4, x5, some (.int u), x7, x8] (st) cu σ Q = (X z 214 750 [x0, x1, x2, x3, x4, x5, some (.int u), x7, x8] (.int u :: st) cu σ Q) := by
  rw [x214_748]
  rfl
theorem v214_750 {z : P0} {st : List Value} {cu : Nat × Nat} {Q : Res → Mem → Prop} {σ : Mem} {x0 x1 x2 x3 x4 x5 x6 x7 x8 : Option Value} {u : Int32} : X z 214 750 [x0, x1, x2, x3, x4, x5, x6, x7, x8] (.int u :: st) cu σ Q = (X z 214 751 [x0, x1, x2, x3, x4, x5, x6, x7, x8] (.long u.toInt64 :: st) cu σ Q) := by
  rw [x214_750]
  rfl
theorem v214_751 {z : P0} {st : List Value} {cu : Nat × Nat} {Q : Res → Mem → Prop} {σ : Mem} {x0 x1 x2 x3 x4 x5 x6 x7 x8 : Option Value} {u v : Int64} : X z 214 751 [x0, x1, x2, x3, x4, x5, x6, x7, x8] (.long v :: .long u :: st) cu σ Q = (X z 214 752 [x0, x1, x2, x3, x4, x5, x6, x7, x8] (.int (lg_cmp u v) :: st) cu σ Q) := by
  rw [x214_751]
  rfl
theorem v214_752 {z : P0} {st : List Value} {cu : Nat × Nat} {Q : Res → Mem → Prop} {σ : Mem} {x0 x1 x2 x3 x4 x5 x6 x7 x8 : Option Value} {u : Int32} : X z 214 752 [x0, x1, x2, x3, x4, x5, x6, x7, x8] (.int u :: st) cu σ Q = (if u = nI 0 then X z 214 757 [x0, x1, x2, x3, x4, x5, x6, x7, x8] (st) cu σ Q else X z 214 755 [x0, x1, x2, x3, x4, x5, x6, x7, x8] (st) cu σ Q) := by
  rw [x214_752]
  rw [nI_0]
  obtain ⟨K, I, R, L, sz, ex⟩ := σ
  exact br_ite
theorem v214_755 {z : P0} {st : List Value} {cu : Nat × Nat} {Q : Res → Mem → Prop} {σ : Mem} {x0 x1 x2 x3 x4 x5 x6 x7 x8 : Option Value} : X z 214 755 [x0, x1, x2, x3, x4, x5, x6, x7, x8] (st) cu σ Q = (X z 214 756 [x0, x1, x2, x3, x4, x5, x6, x7, x8] (.int (nI 0) :: st) cu σ Q) := by
  rw [x214_755]
  rfl
theorem v214_756 {z : P0} {cu : Nat × Nat} {Q : Res → Mem → Prop} {σ : Mem} {x0 x1 x2 x3 x4 x5 x6 x7 x8 : Option Value} {v : Int32} : X z 214 756 [x0, x1, x2, x3, x4, x5, x6, x7, x8] ([.int v]) cu σ Q = ((v = nI 0 ∨ v = nI 1) ∧ Q (.inl (some (.int v))) σ) := by
  rw [x214_756]
  rw [nI_0, one1]
  rfl
theorem v214_757 {z : P0} {st : List Value} {cu : Nat × Nat} {Q : Res → Mem → Prop} {σ : Mem} {x0 x1 x2 x3 x4 x5 x6 x7 x8 : Option Value} : X z 214 757 [x0, x1, x2, x3, x4, x5, x6, x7, x8] (st) cu σ Q = (X z 214 1598 [x0, x1, x2, x3, x4, x5, x6, x7, x8] (st) cu σ Q) := by
  rw [x214_757]
  rfl
theorem v214_760 {z : P0} {st : List Value} {cu : Nat × Nat} {Q : Res → Mem → Prop} {σ : Mem} {x0 x2 x3 x4 x5 x6 x7 x8 : Option Value} {u : Nat} : X z 214 760 [x0, some (.ref u), x2, x3, x4, x5, x6, x7, x8] (st) cu σ Q = (X z 214 761 [x0, some (.ref u), x2, x3, x4, x5, x6, x7, x8] (.ref u :: st) cu σ Q) := by
  rw [x214_760]
  rfl
theorem u214_761 {z : P0} {ls : Lcs} {st : List Value} {c n : Nat} {K : Nat → Nat × Nat} {I : Nat → Nat → Int32} {R : Nat → Nat → Option Nat} {L : Nat → Nat → Int64} {sz : Nat} {ex : Bool} {Q : Res → Mem → Prop} {x : Nat} : X z 214 761 ls (.ref x :: st) (c, n) (K, I, R, L, sz, ex) Q = ((K x).1 = 110 ∧ wsum st ≤ 8 ∧ c + 0 ≤ 601024 ∧ n + 0 ≤ 7293034 ∧ X z 68 0 [some (.ref x), none] [] (0, 0) (K, I, R, L, sz, ex) (aftr (X z) mT 214 761 ls st (c + 0, n + 0) Q)) := v214_761
theorem v214_764 {z : P0} {st : List Value} {cu : Nat × Nat} {Q : Res → Mem → Prop} {σ : Mem} {x0 x1 x3 x4 x5 x6 x7 x8 : Option Value} {u : Nat} : X z 214 764 [x0, x1, some (.ref u), x3, x4, x5, x6, x7, x8] (st) cu σ Q = (X z 214 765 [x0, x1, some (.ref u), x3, x4, x5, x6, x7, x8] (.ref u :: st) cu σ Q) := by
  rw [x214_764]
  rfl
theorem u214_765 {z : P0} {ls : Lcs} {st : List Value} {c n : Nat} {K : Nat → Nat × Nat} {I : Nat → Nat → Int32} {R : Nat → Nat → Option Nat} {L : Nat → Nat → Int64} {sz : Nat} {ex : Bool} {Q : Res → Mem → Prop} {x : Nat} : X z 214 765 ls (.ref x :: st) (c, n) (K, I, R, L, sz, ex) Q = ((K x).1 = 111 ∧ wsum st ≤ 8 ∧ c + 0 ≤ 601024 ∧ n + 0 ≤ 7293034 ∧ X z 146 0 [some (.ref x), none] [] (0, 0) (K, I, R, L, sz, ex) (aftr (X z) mT 214 765 ls st (c + 0, n + 0) Q)) := v214_765
theorem v214_768 {z : P0} {st : List Value} {cu : Nat × Nat} {Q : Res → Mem → Prop} {σ : Mem} {x0 x1 x2 x3 x4 x5 x6 x7 x8 : Option Value} {u v : Int32} : X z 214 768 [x0, x1, x2, x3, x4, x5, x6, x7, x8] (.int v :: .int u :: st) cu σ Q = (if u = v then X z 214 1598 [x0, x1, x2, x3, x4, x5, x6, x7, x8] (st) cu σ Q else X z 214 771 [x0, x1, x2, x3, x4, x5, x6, x7, x8] (st) cu σ Q) := by
  rw [x214_768]
  obtain ⟨K, I, R, L, sz, ex⟩ := σ
  exact br_ite
theorem v214_771 {z : P0} {st : List Value} {cu : Nat × Nat} {Q : Res → Mem → Prop} {σ : Mem} {x0 x1 x2 x3 x4 x5 x6 x7 x8 : Option Value} : X z 214 771 [x0, x1, x2, x3, x4, x5, x6, x7, x8] (st) cu σ Q = (X z 214 772 [x0, x1, x2, x3, x4, x5, x6, x7, x8] (.int (nI 0) :: st) cu σ Q) := by
  rw [x214_771]
  rfl
theorem v214_772 {z : P0} {cu : Nat × Nat} {Q : Res → Mem → Prop} {σ : Mem} {x0 x1 x2 x3 x4 x5 x6 x7 x8 : Option Value} {v : Int32} : X z 214 772 [x0, x1, x2, x3, x4, x5, x6, x7, x8] ([.int v]) cu σ Q = ((v = nI 0 ∨ v = nI 1) ∧ Q (.inl (some (.int v))) σ) := by
  rw [x214_772]
  rw [nI_0, one1]
  rfl
theorem v214_773 {z : P0} {st : List Value} {cu : Nat × Nat} {Q : Res → Mem → Prop} {σ : Mem} {x0 x2 x3 x4 x5 x6 x7 x8 : Option Value} {u : Nat} : X z 214 773 [x0, some (.ref u), x2, x3, x4, x5, x6, x7, x8] (st) cu σ Q = (X z 214 774 [x0, some (.ref u), x2, x3, x4, x5, x6, x7, x8] (.ref u :: st) cu σ Q) := by
  rw [x214_773]
  rfl
theorem v214_774 {z : P0} {st : List Value} {cu : Nat × Nat} {Q : Res → Mem → Prop} {σ : Mem} {x1 x2 x3 x4 x5 x6 x7 x8 : Option Value} {u : Nat} : X z 214 774 [some (.ref u), x1, x2, x3, x4, x5, x6, x7, x8] (st) cu σ Q = (X z 214 775 [some (.ref u), x1, x2, x3, x4, x5, x6, x7, x8] (.ref u :: st) cu σ Q) := by
  rw [x214_774]
  rfl
theorem v214_775 {z : P0} {st : List Value} {cu : Nat × Nat} {Q : Res → Mem → Prop} {σ : Mem} {x0 x1 x2 x3 x5 x6 x7 x8 : Option Value} {u : Int32} : X z 214 775 [x0, x1, x2, x3, some (.int u), x5, x6, x7, x8] (st) cu σ Q = (X z 214 777 [x0, x1, x2, x3, some (.int u), x5, x6, x7, x8] (.int u :: st) cu σ Q) := by
  rw [x214_775]
  rfl
theorem v214_777 {z : P0} {st : List Value} {cu : Nat × Nat} {Q : Res → Mem → Prop} {σ : Mem} {x0 x1 x2 x3 x4 x5 x6 x7 x8 : Option Value} : X z 214 777 [x0, x1, x2, x3, x4, x5, x6, x7, x8] (st) cu σ Q = (X z 214 778 [x0, x1, x2, x3, x4, x5, x6, x7, x8] (.int (nI 1) :: st) cu σ Q) := by
  rw [x214_777]
  rfl
theorem v214_778 {z : P0} {st : List Value} {cu : Nat × Nat} {Q : Res → Mem → Prop} {σ : Mem} {x0 x1 x2 x3 x4 x5 x6 x7 x8 : Option Value} {u v : Int32} : X z 214 778 [x0, x1, x2, x3, x4, x5, x6, x7, x8] (.int v :: .int u :: st) cu σ Q = (X z 214 779 [x0, x1, x2, x3, x4, x5, x6, x7, x8] (.int (u + v) :: st) cu σ Q) := by
  rw [x214_778]
  rfl
theorem v214_779 {z : P0} {st : List Value} {cu : Nat × Nat} {Q : Res → Mem → Prop} {K : Nat → Nat × Nat} {I : Nat → Nat → Int32} {R : Nat → Nat → Option Nat} {L : Nat → Nat → Int64} {sz : Nat} {ex : Bool} {x0 x1 x2 x3 x4 x5 x6 x7 x8 : Option Value} {u : Nat} {v : Int32} : X z 214 779 [x0, x1, x2, x3, x4, x5, x6, x7, x8] (.int v :: .ref u :: st) cu (K, I, R, L, sz, ex) Q = (((K u).1 = 20 ∨ (K u).1 = 50) ∧ vp_in v (K u).2 ∧ X z 214 780 [x0, x1, x2, x3, x4, x5, x6, x7, x8] (.int (I u v.toNatClampNeg) :: st) cu (K, I, R, L, sz, ex) Q) := by
  rw [x214_779]
  rfl
theorem v214_780 {z : P0} {st : List Value} {cu : Nat × Nat} {Q : Res → Mem → Prop} {σ : Mem} {x0 x1 x2 x4 x5 x6 x7 x8 : Option Value} {u : Nat} : X z 214 780 [x0, x1, x2, some (.ref u), x4, x5, x6, x7, x8] (st) cu σ Q = (X z 214 781 [x0, x1, x2, some (.ref u), x4, x5, x6, x7, x8] (.ref u :: st) cu σ Q) := by
  rw [x214_780]
  rfl
theorem u214_781 {z : P0} {ls : Lcs} {st : List Value} {c n : Nat} {K : Nat → Nat × Nat} {I : Nat → Nat → Int32} {R : Nat → Nat → Option Nat} {L : Nat → Nat → Int64} {sz : Nat} {ex : Bool} {Q : Res → Mem → Prop} {a0 : Nat} {a1 : Int32} {a2 : Nat} : X z 214 781 ls (.ref a2 :: .int a1 :: .ref a0 :: st) (c, n) (K, I, R, L, sz, ex) Q = (wsum st ≤ 8 ∧ c + 1 ≤ 601024 ∧ n + 6 ≤ 7293034 ∧ X z 202 0 [some (.ref a0), some (.int a1), some (.ref a2), none] [] (0, 0) (K, I, R, L, sz, ex) (aftr (X z) mT 214 781 ls st (c + 1, n + 6) Q)) := v214_781
theorem v214_784 {z : P0} {st : List Value} {cu : Nat × Nat} {Q : Res → Mem → Prop} {σ : Mem} {x0 x1 x2 x3 x4 x5 x6 x7 x8 : Option Value} {u : Int32} : X z 214 784 [x0, x1, x2, x3, x4, x5, x6, x7, x8] (.int u :: st) cu σ Q = (cat2 x4 = false ∧ X z 214 786 [x0, x1, x2, x3, x4, some (.int u), x6, x7, x8] (st) cu σ Q) := by
  rw [x214_784]
  obtain ⟨K, I, R, L, sz, ex⟩ := σ
  exact i_istore.trans sl_5
theorem v214_786 {z : P0} {st : List Value} {cu : Nat × Nat} {Q : Res → Mem → Prop} {σ : Mem} {x0 x1 x3 x4 x5 x6 x7 x8 : Option Value} {u : Nat} : X z 214 786 [x0, x1, some (.ref u), x3, x4, x5, x6, x7, x8] (st) cu σ Q = (X z 214 787 [x0, x1, some (.ref u), x3, x4, x5, x6, x7, x8] (.ref u :: st) cu σ Q) := by
  rw [x214_786]
  rfl
theorem v214_787 {z : P0} {st : List Value} {cu : Nat × Nat} {Q : Res → Mem → Prop} {σ : Mem} {x1 x2 x3 x4 x5 x6 x7 x8 : Option Value} {u : Nat} : X z 214 787 [some (.ref u), x1, x2, x3, x4, x5, x6, x7, x8] (st) cu σ Q = (X z 214 788 [some (.ref u), x1, x2, x3, x4, x5, x6, x7, x8] (.ref u :: st) cu σ Q) := by
  rw [x214_787]
  rfl
theorem v214_788 {z : P0} {st : List Value} {cu : Nat × Nat} {Q : Res → Mem → Prop} {σ : Mem} {x0 x1 x2 x3 x5 x6 x7 x8 : Option Value} {u : Int32} : X z 214 788 [x0, x1, x2, x3, some (.int u), x5, x6, x7, x8] (st) cu σ Q = (X z 214 790 [x0, x1, x2, x3, some (.int u), x5, x6, x7, x8] (.int u :: st) cu σ Q) := by
  rw [x214_788]
  rfl
theorem v214_790 {z : P0} {st : List Value} {cu : Nat × Nat} {Q : Res → Mem → Prop} {σ : Mem} {x0 x1 x2 x3 x4 x5 x6 x7 x8 : Option Value} : X z 214 790 [x0, x1, x2, x3, x4, x5, x6, x7, x8] (st) cu σ Q = (X z 214 791 [x0, x1, x2, x3, x4, x5, x6, x7, x8] (.int (nI 1) :: st) cu σ Q) := by
  rw [x214_790]
  rfl
theorem v214_791 {z : P0} {st : List Value} {cu : Nat × Nat} {Q : Res → Mem → Prop} {σ : Mem} {x0 x1 x2 x3 x4 x5 x6 x7 x8 : Option Value} {u v : Int32} : X z 214 791 [x0, x1, x2, x3, x4, x5, x6, x7, x8] (.int v :: .int u :: st) cu σ Q = (X z 214 792 [x0, x1, x2, x3, x4, x5, x6, x7, x8] (.int (u + v) :: st) cu σ Q) := by
  rw [x214_791]
  rfl
theorem v214_792 {z : P0} {st : List Value} {cu : Nat × Nat} {Q : Res → Mem → Prop} {K : Nat → Nat × Nat} {I : Nat → Nat → Int32} {R : Nat → Nat → Option Nat} {L : Nat → Nat → Int64} {sz : Nat} {ex : Bool} {x0 x1 x2 x3 x4 x5 x6 x7 x8 : Option Value} {u : Nat} {v : Int32} : X z 214 792 [x0, x1, x2, x3, x4, x5, x6, x7, x8] (.int v :: .ref u :: st) cu (K, I, R, L, sz, ex) Q = (((K u).1 = 20 ∨ (K u).1 = 50) ∧ vp_in v (K u).2 ∧ X z 214 793 [x0, x1, x2, x3, x4, x5, x6, x7, x8] (.int (I u v.toNatClampNeg) :: st) cu (K, I, R, L, sz, ex) Q) := by
  rw [x214_792]
  rfl
theorem u214_793 {z : P0} {ls : Lcs} {st : List Value} {c n : Nat} {K : Nat → Nat × Nat} {I : Nat → Nat → Int32} {R : Nat → Nat → Option Nat} {L : Nat → Nat → Int64} {sz : Nat} {ex : Bool} {Q : Res → Mem → Prop} {x : Nat} {a0 : Int32} : X z 214 793 ls (.int a0 :: .ref x :: st) (c, n) (K, I, R, L, sz, ex) Q = ((K x).1 = 111 ∧ wsum st ≤ 8 ∧ c + 0 ≤ 601024 ∧ n + 0 ≤ 7293034 ∧ X z 152 0 [some (.ref x), some (.int a0)] [] (0, 0) (K, I, R, L, sz, ex) (aftr (X z) mT 214 793 ls st (c + 0, n + 0) Q)) := v214_793
theorem v214_796 {z : P0} {st : List Value} {cu : Nat × Nat} {Q : Res → Mem → Prop} {σ : Mem} {x0 x1 x2 x3 x4 x5 x6 x7 x8 : Option Value} {u : Int32} : X z 214 796 [x0, x1, x2, x3, x4, x5, x6, x7, x8] (.int u :: st) cu σ Q = (cat2 x5 = false ∧ X z 214 798 [x0, x1, x2, x3, x4, x5, some (.int u), x7, x8] (st) cu σ Q) := by
  rw [x214_796]
  obtain ⟨K, I, R, L, sz, ex⟩ := σ
  exact i_istore.trans sl_6
theorem v214_798 {z : P0} {st : List Value} {cu : Nat × Nat} {Q : Res → Mem → Prop} {σ : Mem} {x0 x1 x3 x4 x5 x6 x7 x8 : Option Value} {u : Nat} : X z 214 798 [x0, x1, some (.ref u), x3, x4, x5, x6, x7, x8] (st) cu σ Q = (X z 214 799 [x0, x1, some (.ref u), x3, x4, x5, x6, x7, x8] (.ref u :: st) cu σ Q) := by
  rw [x214_798]
  rfl
theorem u214_799 {z : P0} {ls : Lcs} {st : List Value} {c n : Nat} {K : Nat → Nat × Nat} {I : Nat → Nat → Int32} {R : Nat → Nat → Option Nat} {L : Nat → Nat → Int64} {sz : Nat} {ex : Bool} {Q : Res → Mem → Prop} {x : Nat} : X z 214 799 ls (.ref x :: st) (c, n) (K, I, R, L, sz, ex) Q = ((K x).1 = 111 ∧ wsum st ≤ 8 ∧ c + 0 ≤ 601024 ∧ n + 0 ≤ 7293034 ∧ X z 105 0 [some (.ref x)] [] (0, 0) (K, I, R, L, sz, ex) (aftr (X z) mT 214 799 ls st (c + 0, n + 0) Q)) := v214_799
theorem v214_802 {z : P0} {st : List Value} {cu : Nat × Nat} {Q : Res → Mem → Prop} {σ : Mem} {x0 x1 x2 x3 x4 x6 x7 x8 : Option Value} {u : Int32} : X z 214 802 [x0, x1, x2, x3, x4, some (.int u), x6, x7, x8] (st) cu σ Q = (X z 214 804 [x0, x1, x2, x3, x4, some (.int u), x6, x7, x8] (.int u :: st) cu σ Q) := by
  rw [x214_802]
  rfl
theorem v214_804 {z : P0} {st : List Value} {cu : Nat × Nat} {Q : Res → Mem → Prop} {σ : Mem} {x0 x1 x2 x3 x4 x5 x6 x7 x8 : Option Value} {u v : Int32} : X z 214 804 [x0, x1, x2, x3, x4, x5, x6, x7, x8] (.int v :: .int u :: st) cu σ Q = (if u = v then X z 214 809 [x0, x1, x2, x3, x4, x5, x6, x7, x8] (st) cu σ Q else X z 214 807 [x0, x1, x2, x3, x4, x5, x6, x7, x8] (st) cu σ Q) := by
  rw [x214_804]
  obtain ⟨K, I, R, L, sz, ex⟩ := σ
  exact br_ite
theorem v214_807 {z : P0} {st : List Value} {cu : Nat × Nat} {Q : Res → Mem → Prop} {σ : Mem} {x0 x1 x2 x3 x4 x5 x6 x7 x8 : Option Value} : X z 214 807 [x0, x1, x2, x3, x4, x5, x6, x7, x8] (st) cu σ Q = (X z 214 808 [x0, x1, x2, x3, x4, x5, x6, x7, x8] (.int (nI 0) :: st) cu σ Q) := by
  rw [x214_807]
  rfl
theorem v214_808 {z : P0} {cu : Nat × Nat} {Q : Res → Mem → Prop} {σ : Mem} {x0 x1 x2 x3 x4 x5 x6 x7 x8 : Option Value} {v : Int32} : X z 214 808 [x0, x1, x2, x3, x4, x5, x6, x7, x8] ([.int v]) cu σ Q = ((v = nI 0 ∨ v = nI 1) ∧ Q (.inl (some (.int v))) σ) := by
  rw [x214_808]
  rw [nI_0, one1]
  rfl
theorem v214_809 {z : P0} {st : List Value} {cu : Nat × Nat} {Q : Res → Mem → Prop} {σ : Mem} {x0 x1 x2 x3 x4 x6 x7 x8 : Option Value} {u : Int32} : X z 214 809 [x0, x1, x2, x3, x4, some (.int u), x6, x7, x8] (st) cu σ Q = (X z 214 811 [x0, x1, x2, x3, x4, some (.int u), x6, x7, x8] (.int u :: st) cu σ Q) := by
  rw [x214_809]
  rfl
theorem v214_811 {z : P0} {st : List Value} {cu : Nat × Nat} {Q : Res → Mem → Prop} {σ : Mem} {x0 x1 x2 x3 x4 x5 x6 x7 x8 : Option Value} {u : Int32} : X z 214 811 [x0, x1, x2, x3, x4, x5, x6, x7, x8] (.int u :: st) cu σ Q = (if u = nI 0 then X z 214 814 [x0, x1, x2, x3, x4, x5, x6, x7, x8] (st) cu σ Q else X z 214 826 [x0, x1, x2, x3, x4, x5, x6, x7, x8] (st) cu σ Q) := by
  rw [x214_811]
  rw [nI_0]
  obtain ⟨K, I, R, L, sz, ex⟩ := σ
  exact br_ne
theorem v214_814 {z : P0} {st : List Value} {cu : Nat × Nat} {Q : Res → Mem → Prop} {σ : Mem} {x0 x1 x2 x4 x5 x6 x7 x8 : Option Value} {u : Nat} : X z 214 814 [x0, x1, x2, some (.ref u), x4, x5, x6, x7, x8] (st) cu σ Q = (X z 214 815 [x0, x1, x2, some (.ref u), x4, x5, x6, x7, x8] (.ref u :: st) cu σ Q) := by
  rw [x214_814]
  rfl
theorem v214_815 {z : P0} {st : List Value} {cu : Nat × Nat} {Q : Res → Mem → Prop} {σ : Mem} {x0 x1 x2 x3 x4 x5 x6 x7 x8 : Option Value} : X z 214 815 [x0, x1, x2, x3, x4, x5, x6, x7, x8] (st) cu σ Q = (X z 214 816 [x0, x1, x2, x3, x4, x5, x6, x7, x8] (.int (nI 0) :: st) cu σ Q) := by
  rw [x214_815]
  rfl
theorem v214_816 {z : P0} {st : List Value} {cu : Nat × Nat} {Q : Res → Mem → Prop} {K : Nat → Nat × Nat} {I : Nat → Nat → Int32} {R : Nat → Nat → Option Nat} {L : Nat → Nat → Int64} {sz : Nat} {ex : Bool} {x0 x1 x2 x3 x4 x5 x6 x7 x8 : Option Value} {u : Nat} {v : Int32} : X z 214 816 [x0, x1, x2, x3, x4, x5, x6, x7, x8] (.int v :: .ref u :: st) cu (K, I, R, L, sz, ex) Q = ((K u).1 = 21 ∧ vp_in v (K u).2 ∧ X z 214 817 [x0, x1, x2, x3, x4, x5, x6, x7, x8] (.long (L u v.toNatClampNeg) :: st) cu (K, I, R, L, sz, ex) Q) := by
  rw [x214_816]
  rfl
theorem v214_817 {z : P0} {st : List Value} {cu : Nat × Nat} {Q : Res → Mem → Prop} {σ : Mem} {x0 x1 x2 x3 x4 x5 x7 x8 : Option Value} {u : Int32} : X z 214 817 [x0, x1, x2, x3, x4, x5, some (.int u), x7, x8] (st) cu σ Q = (X z 214 819 [x0, x1, x2, x3, x4, x5, some (.int u), x7, x8] (.int u :: st) cu σ Q) := by
  rw [x214_817]
  rfl
theorem v214_819 {z : P0} {st : List Value} {cu : Nat × Nat} {Q : Res → Mem → Prop} {σ : Mem} {x0 x1 x2 x3 x4 x5 x6 x7 x8 : Option Value} {u : Int32} : X z 214 819 [x0, x1, x2, x3, x4, x5, x6, x7, x8] (.int u :: st) cu σ Q = (X z 214 820 [x0, x1, x2, x3, x4, x5, x6, x7, x8] (.long u.toInt64 :: st) cu σ Q) := by
  rw [x214_819]
  rfl
theorem v214_820 {z : P0} {st : List Value} {cu : Nat × Nat} {Q : Res → Mem → Prop} {σ : Mem} {x0 x1 x2 x3 x4 x5 x6 x7 x8 : Option Value} {u v : Int64} : X z 214 820 [x0, x1, x2, x3, x4, x5, x6, x7, x8] (.long v :: .long u :: st) cu σ Q = (X z 214 821 [x0, x1, x2, x3, x4, x5, x6, x7, x8] (.int (lg_cmp u v) :: st) cu σ Q) := by
  rw [x214_820]
  rfl
theorem v214_821 {z : P0} {st : List Value} {cu : Nat × Nat} {Q : Res → Mem → Prop} {σ : Mem} {x0 x1 x2 x3 x4 x5 x6 x7 x8 : Option Value} {u : Int32} : X z 214 821 [x0, x1, x2, x3, x4, x5, x6, x7, x8] (.int u :: st) cu σ Q = (if u = nI 0 then X z 214 826 [x0, x1, x2, x3, x4, x5, x6, x7, x8] (st) cu σ Q else X z 214 824 [x0, x1, x2, x3, x4, x5, x6, x7, x8] (st) cu σ Q) := by
  rw [x214_821]
  rw [nI_0]
  obtain ⟨K, I, R, L, sz, ex⟩ := σ
  exact br_ite
theorem v214_824 {z : P0} {st : List Value} {cu : Nat × Nat} {Q : Res → Mem → Prop} {σ : Mem} {x0 x1 x2 x3 x4 x5 x6 x7 x8 : Option Value} : X z 214 824 [x0, x1, x2, x3, x4, x5, x6, x7, x8] (st) cu σ Q = (X z 214 825 [x0, x1, x2, x3, x4, x5, x6, x7, x8] (.int (nI 0) :: st) cu σ Q) := by
  rw [x214_824]
  rfl
theorem v214_825 {z : P0} {cu : Nat × Nat} {Q : Res → Mem → Prop} {σ : Mem} {x0 x1 x2 x3 x4 x5 x6 x7 x8 : Option Value} {v : Int32} : X z 214 825 [x0, x1, x2, x3, x4, x5, x6, x7, x8] ([.int v]) cu σ Q = ((v = nI 0 ∨ v = nI 1) ∧ Q (.inl (some (.int v))) σ) := by
  rw [x214_825]
  rw [nI_0, one1]
  rfl
theorem v214_826 {z : P0} {st : List Value} {cu : Nat × Nat} {Q : Res → Mem → Prop} {σ : Mem} {x0 x1 x2 x3 x4 x5 x6 x7 x8 : Option Value} : X z 214 826 [x0, x1, x2, x3, x4, x5, x6, x7, x8] (st) cu σ Q = (X z 214 1598 [x0, x1, x2, x3, x4, x5, x6, x7, x8] (st) cu σ Q) := by
  rw [x214_826]
  rfl
theorem v214_829 {z : P0} {st : List Value} {cu : Nat × Nat} {Q : Res → Mem → Prop} {σ : Mem} {x0 x2 x3 x4 x5 x6 x7 x8 : Option Value} {u : Nat} : X z 214 829 [x0, some (.ref u), x2, x3, x4, x5, x6, x7, x8] (st) cu σ Q = (X z 214 830 [x0, some (.ref u), x2, x3, x4, x5, x6, x7, x8] (.ref u :: st) cu σ Q) := by
  rw [x214_829]
  rfl
theorem v214_830 {z : P0} {st : List Value} {cu : Nat × Nat} {Q : Res → Mem → Prop} {σ : Mem} {x0 x1 x2 x4 x5 x6 x7 x8 : Option Value} {u : Nat} : X z 214 830 [x0, x1, x2, some (.ref u), x4, x5, x6, x7, x8] (st) cu σ Q = (X z 214 831 [x0, x1, x2, some (.ref u), x4, x5, x6, x7, x8] (.ref u :: st) cu σ Q) := by
  rw [x214_830]
  rfl
theorem u214_831 {z : P0} {ls : Lcs} {st : List Value} {c n : Nat} {K : Nat → Nat × Nat} {I : Nat → Nat → Int32} {R : Nat → Nat → Option Nat} {L : Nat → Nat → Int64} {sz : Nat} {ex : Bool} {Q : Res → Mem → Prop} {a0 : Nat} {a1 : Nat} : X z 214 831 ls (.ref a1 :: .ref a0 :: st) (c, n) (K, I, R, L, sz, ex) Q = (wsum st ≤ 8 ∧ c + 1 ≤ 601024 ∧ n + 6 ≤ 7293034 ∧ X z 203 0 [some (.ref a0), some (.ref a1), none] [] (0, 0) (K, I, R, L, sz, ex) (aftr (X z) mT 214 831 ls st (c + 1, n + 6) Q)) := v214_831
theorem v214_834 {z : P0} {st : List Value} {cu : Nat × Nat} {Q : Res → Mem → Prop} {σ : Mem} {x0 x1 x2 x3 x4 x5 x6 x7 x8 : Option Value} {u : Int32} : X z 214 834 [x0, x1, x2, x3, x4, x5, x6, x7, x8] (.int u :: st) cu σ Q = (cat2 x4 = false ∧ X z 214 836 [x0, x1, x2, x3, x4, some (.int u), x6, x7, x8] (st) cu σ Q) := by
  rw [x214_834]
  obtain ⟨K, I, R, L, sz, ex⟩ := σ
  exact i_istore.trans sl_5
theorem v214_836 {z : P0} {st : List Value} {cu : Nat × Nat} {Q : Res → Mem → Prop} {σ : Mem} {x0 x1 x3 x4 x5 x6 x7 x8 : Option Value} {u : Nat} : X z 214 836 [x0, x1, some (.ref u), x3, x4, x5, x6, x7, x8] (st) cu σ Q = (X z 214 837 [x0, x1, some (.ref u), x3, x4, x5, x6, x7, x8] (.ref u :: st) cu σ Q) := by
  rw [x214_836]
  rfl
theorem u214_837 {z : P0} {ls : Lcs} {st : List Value} {c n : Nat} {K : Nat → Nat × Nat} {I : Nat → Nat → Int32} {R : Nat → Nat → Option Nat} {L : Nat → Nat → Int64} {sz : Nat} {ex : Bool} {Q : Res → Mem → Prop} {x : Nat} : X z 214 837 ls (.ref x :: st) (c, n) (K, I, R, L, sz, ex) Q = ((K x).1 = 111 ∧ wsum st ≤ 8 ∧ c + 0 ≤ 601024 ∧ n + 0 ≤ 7293034 ∧ X z 153 0 [some (.ref x), none] [] (0, 0) (K, I, R, L, sz, ex) (aftr (X z) mT 214 837 ls st (c + 0, n + 0) Q)) := v214_837
theorem v214_840 {z : P0} {st : List Value} {cu : Nat × Nat} {Q : Res → Mem → Prop} {σ : Mem} {x0 x1 x2 x3 x4 x5 x6 x7 x8 : Option Value} {u : Int32} : X z 214 840 [x0, x1, x2, x3, x4, x5, x6, x7, x8] (.int u :: st) cu σ Q = (cat2 x5 = false ∧ X z 214 842 [x0, x1, x2, x3, x4, x5, some (.int u), x7, x8] (st) cu σ Q) := by
  rw [x214_840]
  obtain ⟨K, I, R, L, sz, ex⟩ := σ
  exact i_istore.trans sl_6
theorem v214_842 {z : P0} {st : List Value} {cu : Nat × Nat} {Q : Res → Mem → Prop} {σ : Mem} {x0 x1 x3 x4 x5 x6 x7 x8 : Option Value} {u : Nat} : X z 214 842 [x0, x1, some (.ref u), x3, x4, x5, x6, x7, x8] (st) cu σ Q = (X z 214 843 [x0, x1, some (.ref u), x3, x4, x5, x6, x7, x8] (.ref u :: st) cu σ Q) := by
  rw [x214_842]
  rfl
theorem u214_843 {z : P0} {ls : Lcs} {st : List Value} {c n : Nat} {K : Nat → Nat × Nat} {I : Nat → Nat → Int32} {R : Nat → Nat → Option Nat} {L : Nat → Nat → Int64} {sz : Nat} {ex : Bool} {Q : Res → Mem → Prop} {x : Nat} : X z 214 843 ls (.ref x :: st) (c, n) (K, I, R, L, sz, ex) Q = ((K x).1 = 111 ∧ wsum st ≤ 8 ∧ c + 0 ≤ 601024 ∧ n + 0 ≤ 7293034 ∧ X z 105 0 [some (.ref x)] [] (0, 0) (K, I, R, L, sz, ex) (aftr (X z) mT 214 843 ls st (c + 0, n + 0) Q)) := v214_843
theorem v214_846 {z : P0} {st : List Value} {cu : Nat × Nat} {Q : Res → Mem → Prop} {σ : Mem} {x0 x1 x2 x3 x4 x6 x7 x8 : Option Value} {u : Int32} : X z 214 846 [x0, x1, x2, x3, x4, some (.int u), x6, x7, x8] (st) cu σ Q = (X z 214 848 [x0, x1, x2, x3, x4, some (.int u), x6, x7, x8] (.int u :: st) cu σ Q) := by
  rw [x214_846]
  rfl
theorem v214_848 {z : P0} {st : List Value} {cu : Nat × Nat} {Q : Res → Mem → Prop} {σ : Mem} {x0 x1 x2 x3 x4 x5 x6 x7 x8 : Option Value} {u v : Int32} : X z 214 848 [x0, x1, x2, x3, x4, x5, x6, x7, x8] (.int v :: .int u :: st) cu σ Q = (if u = v then X z 214 853 [x0, x1, x2, x3, x4, x5, x6, x7, x8] (st) cu σ Q else X z 214 851 [x0, x1, x2, x3, x4, x5, x6, x7, x8] (st) cu σ Q) := by
  rw [x214_848]
  obtain ⟨K, I, R, L, sz, ex⟩ := σ
  exact br_ite
theorem v214_851 {z : P0} {st : List Value} {cu : Nat × Nat} {Q : Res → Mem → Prop} {σ : Mem} {x0 x1 x2 x3 x4 x5 x6 x7 x8 : Option Value} : X z 214 851 [x0, x1, x2, x3, x4, x5, x6, x7, x8] (st) cu σ Q = (X z 214 852 [x0, x1, x2, x3, x4, x5, x6, x7, x8] (.int (nI 0) :: st) cu σ Q) := by
  rw [x214_851]
  rfl
theorem v214_852 {z : P0} {cu : Nat × Nat} {Q : Res → Mem → Prop} {σ : Mem} {x0 x1 x2 x3 x4 x5 x6 x7 x8 : Option Value} {v : Int32} : X z 214 852 [x0, x1, x2, x3, x4, x5, x6, x7, x8] ([.int v]) cu σ Q = ((v = nI 0 ∨ v = nI 1) ∧ Q (.inl (some (.int v))) σ) := by
  rw [x214_852]
  rw [nI_0, one1]
  rfl
theorem v214_853 {z : P0} {st : List Value} {cu : Nat × Nat} {Q : Res → Mem → Prop} {σ : Mem} {x0 x1 x2 x3 x4 x6 x7 x8 : Option Value} {u : Int32} : X z 214 853 [x0, x1, x2, x3, x4, some (.int u), x6, x7, x8] (st) cu σ Q = (X z 214 855 [x0, x1, x2, x3, x4, some (.int u), x6, x7, x8] (.int u :: st) cu σ Q) := by
  rw [x214_853]
  rfl
theorem v214_855 {z : P0} {st : List Value} {cu : Nat × Nat} {Q : Res → Mem → Prop} {σ : Mem} {x0 x1 x2 x3 x4 x5 x6 x7 x8 : Option Value} {u : Int32} : X z 214 855 [x0, x1, x2, x3, x4, x5, x6, x7, x8] (.int u :: st) cu σ Q = (if u = nI 0 then X z 214 858 [x0, x1, x2, x3, x4, x5, x6, x7, x8] (st) cu σ Q else X z 214 870 [x0, x1, x2, x3, x4, x5, x6, x7, x8] (st) cu σ Q) := by
  rw [x214_855]
  rw [nI_0]
  obtain ⟨K, I, R, L, sz, ex⟩ := σ
  exact br_ne
theorem v214_858 {z : P0} {st : List Value} {cu : Nat × Nat} {Q : Res → Mem → Prop} {σ : Mem} {x0 x1 x2 x4 x5 x6 x7 x8 : Option Value} {u : Nat} : X z 214 858 [x0, x1, x2, some (.ref u), x4, x5, x6, x7, x8] (st) cu σ Q = (X z 214 859 [x0, x1, x2, some (.ref u), x4, x5, x6, x7, x8] (.ref u :: st) cu σ Q) := by
  rw [x214_858]
  rfl
theorem v214_859 {z : P0} {st : List Value} {cu : Nat × Nat} {Q : Res → Mem → Prop} {σ : Mem} {x0 x1 x2 x3 x4 x5 x6 x7 x8 : Option Value} : X z 214 859 [x0, x1, x2, x3, x4, x5, x6, x7, x8] (st) cu σ Q = (X z 214 860 [x0, x1, x2, x3, x4, x5, x6, x7, x8] (.int (nI 0) :: st) cu σ Q) := by
  rw [x214_859]
  rfl
theorem v214_860 {z : P0} {st : List Value} {cu : Nat × Nat} {Q : Res → Mem → Prop} {K : Nat → Nat × Nat} {I : Nat → Nat → Int32} {R : Nat → Nat → Option Nat} {L : Nat → Nat → Int64} {sz : Nat} {ex : Bool} {x0 x1 x2 x3 x4 x5 x6 x7 x8 : Option Value} {u : Nat} {v : Int32} : X z 214 860 [x0, x1, x2, x3, x4, x5, x6, x7, x8] (.int v :: .ref u :: st) cu (K, I, R, L, sz, ex) Q = ((K u).1 = 21 ∧ vp_in v (K u).2 ∧ X z 214 861 [x0, x1, x2, x3, x4, x5, x6, x7, x8] (.long (L u v.toNatClampNeg) :: st) cu (K, I, R, L, sz, ex) Q) := by
  rw [x214_860]
  rfl
theorem v214_861 {z : P0} {st : List Value} {cu : Nat × Nat} {Q : Res → Mem → Prop} {σ : Mem} {x0 x1 x2 x3 x4 x5 x7 x8 : Option Value} {u : Int32} : X z 214 861 [x0, x1, x2, x3, x4, x5, some (.int u), x7, x8] (st) cu σ Q = (X z 214 863 [x0, x1, x2, x3, x4, x5, some (.int u), x7, x8] (.int u :: st) cu σ Q) := by
  rw [x214_861]
  rfl
theorem v214_863 {z : P0} {st : List Value} {cu : Nat × Nat} {Q : Res → Mem → Prop} {σ : Mem} {x0 x1 x2 x3 x4 x5 x6 x7 x8 : Option Value} {u : Int32} : X z 214 863 [x0, x1, x2, x3, x4, x5, x6, x7, x8] (.int u :: st) cu σ Q = (X z 214 864 [x0, x1, x2, x3, x4, x5, x6, x7, x8] (.long u.toInt64 :: st) cu σ Q) := by
  rw [x214_863]
  rfl
theorem v214_864 {z : P0} {st : List Value} {cu : Nat × Nat} {Q : Res → Mem → Prop} {σ : Mem} {x0 x1 x2 x3 x4 x5 x6 x7 x8 : Option Value} {u v : Int64} : X z 214 864 [x0, x1, x2, x3, x4, x5, x6, x7, x8] (.long v :: .long u :: st) cu σ Q = (X z 214 865 [x0, x1, x2, x3, x4, x5, x6, x7, x8] (.int (lg_cmp u v) :: st) cu σ Q) := by
  rw [x214_864]
  rfl
theorem v214_865 {z : P0} {st : List Value} {cu : Nat × Nat} {Q : Res → Mem → Prop} {σ : Mem} {x0 x1 x2 x3 x4 x5 x6 x7 x8 : Option Value} {u : Int32} : X z 214 865 [x0, x1, x2, x3, x4, x5, x6, x7, x8] (.int u :: st) cu σ Q = (if u = nI 0 then X z 214 870 [x0, x1, x2, x3, x4, x5, x6, x7, x8] (st) cu σ Q else X z 214 868 [x0, x1, x2, x3, x4, x5, x6, x7, x8] (st) cu σ Q) := by
  rw [x214_865]
  rw [nI_0]
  obtain ⟨K, I, R, L, sz, ex⟩ := σ
  exact br_ite
theorem v214_868 {z : P0} {st : List Value} {cu : Nat × Nat} {Q : Res → Mem → Prop} {σ : Mem} {x0 x1 x2 x3 x4 x5 x6 x7 x8 : Option Value} : X z 214 868 [x0, x1, x2, x3, x4, x5, x6, x7, x8] (st) cu σ Q = (X z 214 869 [x0, x1, x2, x3, x4, x5, x6, x7, x8] (.int (nI 0) :: st) cu σ Q) := by
  rw [x214_868]
  rfl
theorem v214_869 {z : P0} {cu : Nat × Nat} {Q : Res → Mem → Prop} {σ : Mem} {x0 x1 x2 x3 x4 x5 x6 x7 x8 : Option Value} {v : Int32} : X z 214 869 [x0, x1, x2, x3, x4, x5, x6, x7, x8] ([.int v]) cu σ Q = ((v = nI 0 ∨ v = nI 1) ∧ Q (.inl (some (.int v))) σ) := by
  rw [x214_869]
  rw [nI_0, one1]
  rfl
theorem v214_870 {z : P0} {st : List Value} {cu : Nat × Nat} {Q : Res → Mem → Prop} {σ : Mem} {x0 x1 x2 x3 x4 x5 x6 x7 x8 : Option Value} : X z 214 870 [x0, x1, x2, x3, x4, x5, x6, x7, x8] (st) cu σ Q = (X z 214 1598 [x0, x1, x2, x3, x4, x5, x6, x7, x8] (st) cu σ Q) := by
  rw [x214_870]
  rfl
theorem v214_873 {z : P0} {st : List Value} {cu : Nat × Nat} {Q : Res → Mem → Prop} {σ : Mem} {x0 x2 x3 x4 x5 x6 x7 x8 : Option Value} {u : Nat} : X z 214 873 [x0, some (.ref u), x2, x3, x4, x5, x6, x7, x8] (st) cu σ Q = (X z 214 874 [x0, some (.ref u), x2, x3, x4, x5, x6, x7, x8] (.ref u :: st) cu σ Q) := by
  rw [x214_873]
  rfl
theorem v214_874 {z : P0} {st : List Value} {cu : Nat × Nat} {Q : Res → Mem → Prop} {σ : Mem} {x1 x2 x3 x4 x5 x6 x7 x8 : Option Value} {u : Nat} : X z 214 874 [some (.ref u), x1, x2, x3, x4, x5, x6, x7, x8] (st) cu σ Q = (X z 214 875 [some (.ref u), x1, x2, x3, x4, x5, x6, x7, x8] (.ref u :: st) cu σ Q) := by
  rw [x214_874]
  rfl
theorem v214_875 {z : P0} {st : List Value} {cu : Nat × Nat} {Q : Res → Mem → Prop} {σ : Mem} {x0 x1 x2 x3 x5 x6 x7 x8 : Option Value} {u : Int32} : X z 214 875 [x0, x1, x2, x3, some (.int u), x5, x6, x7, x8] (st) cu σ Q = (X z 214 877 [x0, x1, x2, x3, some (.int u), x5, x6, x7, x8] (.int u :: st) cu σ Q) := by
  rw [x214_875]
  rfl
theorem v214_877 {z : P0} {st : List Value} {cu : Nat × Nat} {Q : Res → Mem → Prop} {σ : Mem} {x0 x1 x2 x3 x4 x5 x6 x7 x8 : Option Value} : X z 214 877 [x0, x1, x2, x3, x4, x5, x6, x7, x8] (st) cu σ Q = (X z 214 878 [x0, x1, x2, x3, x4, x5, x6, x7, x8] (.int (nI 1) :: st) cu σ Q) := by
  rw [x214_877]
  rfl
theorem v214_878 {z : P0} {st : List Value} {cu : Nat × Nat} {Q : Res → Mem → Prop} {σ : Mem} {x0 x1 x2 x3 x4 x5 x6 x7 x8 : Option Value} {u v : Int32} : X z 214 878 [x0, x1, x2, x3, x4, x5, x6, x7, x8] (.int v :: .int u :: st) cu σ Q = (X z 214 879 [x0, x1, x2, x3, x4, x5, x6, x7, x8] (.int (u + v) :: st) cu σ Q) := by
  rw [x214_878]
  rfl
theorem v214_879 {z : P0} {st : List Value} {cu : Nat × Nat} {Q : Res → Mem → Prop} {K : Nat → Nat × Nat} {I : Nat → Nat → Int32} {R : Nat → Nat → Option Nat} {L : Nat → Nat → Int64} {sz : Nat} {ex : Bool} {x0 x1 x2 x3 x4 x5 x6 x7 x8 : Option Value} {u : Nat} {v : Int32} : X z 214 879 [x0, x1, x2, x3, x4, x5, x6, x7, x8] (.int v :: .ref u :: st) cu (K, I, R, L, sz, ex) Q = (((K u).1 = 20 ∨ (K u).1 = 50) ∧ vp_in v (K u).2 ∧ X z 214 880 [x0, x1, x2, x3, x4, x5, x6, x7, x8] (.int (I u v.toNatClampNeg) :: st) cu (K, I, R, L, sz, ex) Q) := by
  rw [x214_879]
  rfl
theorem v214_880 {z : P0} {st : List Value} {cu : Nat × Nat} {Q : Res → Mem → Prop} {σ : Mem} {x1 x2 x3 x4 x5 x6 x7 x8 : Option Value} {u : Nat} : X z 214 880 [some (.ref u), x1, x2, x3, x4, x5, x6, x7, x8] (st) cu σ Q = (X z 214 881 [some (.ref u), x1, x2, x3, x4, x5, x6, x7, x8] (.ref u :: st) cu σ Q) := by
  rw [x214_880]
  rfl
theorem v214_881 {z : P0} {st : List Value} {cu : Nat × Nat} {Q : Res → Mem → Prop} {σ : Mem} {x0 x1 x2 x3 x5 x6 x7 x8 : Option Value} {u : Int32} : X z 214 881 [x0, x1, x2, x3, some (.int u), x5, x6, x7, x8] (st) cu σ Q = (X z 214 883 [x0, x1, x2, x3, some (.int u), x5, x6, x7, x8] (.int u :: st) cu σ Q) := by
  rw [x214_881]
  rfl
theorem v214_883 {z : P0} {st : List Value} {cu : Nat × Nat} {Q : Res → Mem → Prop} {σ : Mem} {x0 x1 x2 x3 x4 x5 x6 x7 x8 : Option Value} : X z 214 883 [x0, x1, x2, x3, x4, x5, x6, x7, x8] (st) cu σ Q = (X z 214 884 [x0, x1, x2, x3, x4, x5, x6, x7, x8] (.int (nI 2) :: st) cu σ Q) := by
  rw [x214_883]
  rfl
theorem v214_884 {z : P0} {st : List Value} {cu : Nat × Nat} {Q : Res → Mem → Prop} {σ : Mem} {x0 x1 x2 x3 x4 x5 x6 x7 x8 : Option Value} {u v : Int32} : X z 214 884 [x0, x1, x2, x3, x4, x5, x6, x7, x8] (.int v :: .int u :: st) cu σ Q = (X z 214 885 [x0, x1, x2, x3, x4, x5, x6, x7, x8] (.int (u + v) :: st) cu σ Q) := by
  rw [x214_884]
  rfl
theorem v214_885 {z : P0} {st : List Value} {cu : Nat × Nat} {Q : Res → Mem → Prop} {K : Nat → Nat × Nat} {I : Nat → Nat → Int32} {R : Nat → Nat → Option Nat} {L : Nat → Nat → Int64} {sz : Nat} {ex : Bool} {x0 x1 x2 x3 x4 x5 x6 x7 x8 : Option Value} {u : Nat} {v : Int32} : X z 214 885 [x0, x1, x2, x3, x4, x5, x6, x7, x8] (.int v :: .ref u :: st) cu (K, I, R, L, sz, ex) Q = (((K u).1 = 20 ∨ (K u).1 = 50) ∧ vp_in v (K u).2 ∧ X z 214 886 [x0, x1, x2, x3, x4, x5, x6, x7, x8] (.int (I u v.toNatClampNeg) :: st) cu (K, I, R, L, sz, ex) Q) := by
  rw [x214_885]
  rfl
theorem v214_886 {z : P0} {st : List Value} {cu : Nat × Nat} {Q : Res → Mem → Prop} {σ : Mem} {x0 x1 x2 x4 x5 x6 x7 x8 : Option Value} {u : Nat} : X z 214 886 [x0, x1, x2, some (.ref u), x4, x5, x6, x7, x8] (st) cu σ Q = (X z 214 887 [x0, x1, x2, some (.ref u), x4, x5, x6, x7, x8] (.ref u :: st) cu σ Q) := by
  rw [x214_886]
  rfl
theorem u214_887 {z : P0} {ls : Lcs} {st : List Value} {c n : Nat} {K : Nat → Nat × Nat} {I : Nat → Nat → Int32} {R : Nat → Nat → Option Nat} {L : Nat → Nat → Int64} {sz : Nat} {ex : Bool} {Q : Res → Mem → Prop} {a0 : Nat} {a1 : Int32} {a2 : Int32} {a3 : Nat} : X z 214 887 ls (.ref a3 :: .int a2 :: .int a1 :: .ref a0 :: st) (c, n) (K, I, R, L, sz, ex) Q = (wsum st ≤ 8 ∧ c + 1 ≤ 601024 ∧ n + 6 ≤ 7293034 ∧ X z 204 0 [some (.ref a0), some (.int a1), some (.int a2), some (.ref a3), none] [] (0, 0) (K, I, R, L, sz, ex) (aftr (X z) mT 214 887 ls st (c + 1, n + 6) Q)) := v214_887
theorem v214_890 {z : P0} {st : List Value} {cu : Nat × Nat} {Q : Res → Mem → Prop} {σ : Mem} {x0 x1 x2 x3 x4 x5 x6 x7 x8 : Option Value} {u : Int32} : X z 214 890 [x0, x1, x2, x3, x4, x5, x6, x7, x8] (.int u :: st) cu σ Q = (cat2 x4 = false ∧ X z 214 892 [x0, x1, x2, x3, x4, some (.int u), x6, x7, x8] (st) cu σ Q) := by
  rw [x214_890]
  obtain ⟨K, I, R, L, sz, ex⟩ := σ
  exact i_istore.trans sl_5
theorem v214_892 {z : P0} {st : List Value} {cu : Nat × Nat} {Q : Res → Mem → Prop} {σ : Mem} {x0 x1 x3 x4 x5 x6 x7 x8 : Option Value} {u : Nat} : X z 214 892 [x0, x1, some (.ref u), x3, x4, x5, x6, x7, x8] (st) cu σ Q = (X z 214 893 [x0, x1, some (.ref u), x3, x4, x5, x6, x7, x8] (.ref u :: st) cu σ Q) := by
  rw [x214_892]
  rfl
theorem v214_893 {z : P0} {st : List Value} {cu : Nat × Nat} {Q : Res → Mem → Prop} {σ : Mem} {x1 x2 x3 x4 x5 x6 x7 x8 : Option Value} {u : Nat} : X z 214 893 [some (.ref u), x1, x2, x3, x4, x5, x6, x7, x8] (st) cu σ Q = (X z 214 894 [some (.ref u), x1, x2, x3, x4, x5, x6, x7, x8] (.ref u :: st) cu σ Q) := by
  rw [x214_893]
  rfl
theorem v214_894 {z : P0} {st : List Value} {cu : Nat × Nat} {Q : Res → Mem → Prop} {σ : Mem} {x0 x1 x2 x3 x5 x6 x7 x8 : Option Value} {u : Int32} : X z 214 894 [x0, x1, x2, x3, some (.int u), x5, x6, x7, x8] (st) cu σ Q = (X z 214 896 [x0, x1, x2, x3, some (.int u), x5, x6, x7, x8] (.int u :: st) cu σ Q) := by
  rw [x214_894]
  rfl
theorem v214_896 {z : P0} {st : List Value} {cu : Nat × Nat} {Q : Res → Mem → Prop} {σ : Mem} {x0 x1 x2 x3 x4 x5 x6 x7 x8 : Option Value} : X z 214 896 [x0, x1, x2, x3, x4, x5, x6, x7, x8] (st) cu σ Q = (X z 214 897 [x0, x1, x2, x3, x4, x5, x6, x7, x8] (.int (nI 1) :: st) cu σ Q) := by
  rw [x214_896]
  rfl
theorem v214_897 {z : P0} {st : List Value} {cu : Nat × Nat} {Q : Res → Mem → Prop} {σ : Mem} {x0 x1 x2 x3 x4 x5 x6 x7 x8 : Option Value} {u v : Int32} : X z 214 897 [x0, x1, x2, x3, x4, x5, x6, x7, x8] (.int v :: .int u :: st) cu σ Q = (X z 214 898 [x0, x1, x2, x3, x4, x5, x6, x7, x8] (.int (u + v) :: st) cu σ Q) := by
  rw [x214_897]
  rfl
theorem v214_898 {z : P0} {st : List Value} {cu : Nat × Nat} {Q : Res → Mem → Prop} {K : Nat → Nat × Nat} {I : Nat → Nat → Int32} {R : Nat → Nat → Option Nat} {L : Nat → Nat → Int64} {sz : Nat} {ex : Bool} {x0 x1 x2 x3 x4 x5 x6 x7 x8 : Option Value} {u : Nat} {v : Int32} : X z 214 898 [x0, x1, x2, x3, x4, x5, x6, x7, x8] (.int v :: .ref u :: st) cu (K, I, R, L, sz, ex) Q = (((K u).1 = 20 ∨ (K u).1 = 50) ∧ vp_in v (K u).2 ∧ X z 214 899 [x0, x1, x2, x3, x4, x5, x6, x7, x8] (.int (I u v.toNatClampNeg) :: st) cu (K, I, R, L, sz, ex) Q) := by
  rw [x214_898]
  rfl
theorem v214_899 {z : P0} {st : List Value} {cu : Nat × Nat} {Q : Res → Mem → Prop} {σ : Mem} {x1 x2 x3 x4 x5 x6 x7 x8 : Option Value} {u : Nat} : X z 214 899 [some (.ref u), x1, x2, x3, x4, x5, x6, x7, x8] (st) cu σ Q = (X z 214 900 [some (.ref u), x1, x2, x3, x4, x5, x6, x7, x8] (.ref u :: st) cu σ Q) := by
  rw [x214_899]
  rfl
theorem v214_900 {z : P0} {st : List Value} {cu : Nat × Nat} {Q : Res → Mem → Prop} {σ : Mem} {x0 x1 x2 x3 x5 x6 x7 x8 : Option Value} {u : Int32} : X z 214 900 [x0, x1, x2, x3, some (.int u), x5, x6, x7, x8] (st) cu σ Q = (X z 214 902 [x0, x1, x2, x3, some (.int u), x5, x6, x7, x8] (.int u :: st) cu σ Q) := by
  rw [x214_900]
  rfl
theorem v214_902 {z : P0} {st : List Value} {cu : Nat × Nat} {Q : Res → Mem → Prop} {σ : Mem} {x0 x1 x2 x3 x4 x5 x6 x7 x8 : Option Value} : X z 214 902 [x0, x1, x2, x3, x4, x5, x6, x7, x8] (st) cu σ Q = (X z 214 903 [x0, x1, x2, x3, x4, x5, x6, x7, x8] (.int (nI 2) :: st) cu σ Q) := by
  rw [x214_902]
  rfl
theorem v214_903 {z : P0} {st : List Value} {cu : Nat × Nat} {Q : Res → Mem → Prop} {σ : Mem} {x0 x1 x2 x3 x4 x5 x6 x7 x8 : Option Value} {u v : Int32} : X z 214 903 [x0, x1, x2, x3, x4, x5, x6, x7, x8] (.int v :: .int u :: st) cu σ Q = (X z 214 904 [x0, x1, x2, x3, x4, x5, x6, x7, x8] (.int (u + v) :: st) cu σ Q) := by
  rw [x214_903]
  rfl
theorem v214_904 {z : P0} {st : List Value} {cu : Nat × Nat} {Q : Res → Mem → Prop} {K : Nat → Nat × Nat} {I : Nat → Nat → Int32} {R : Nat → Nat → Option Nat} {L : Nat → Nat → Int64} {sz : Nat} {ex : Bool} {x0 x1 x2 x3 x4 x5 x6 x7 x8 : Option Value} {u : Nat} {v : Int32} : X z 214 904 [x0, x1, x2, x3, x4, x5, x6, x7, x8] (.int v :: .ref u :: st) cu (K, I, R, L, sz, ex) Q = (((K u).1 = 20 ∨ (K u).1 = 50) ∧ vp_in v (K u).2 ∧ X z 214 905 [x0, x1, x2, x3, x4, x5, x6, x7, x8] (.int (I u v.toNatClampNeg) :: st) cu (K, I, R, L, sz, ex) Q) := by
  rw [x214_904]
  rfl
theorem u214_905 {z : P0} {ls : Lcs} {st : List Value} {c n : Nat} {K : Nat → Nat × Nat} {I : Nat → Nat → Int32} {R : Nat → Nat → Option Nat} {L : Nat → Nat → Int64} {sz : Nat} {ex : Bool} {Q : Res → Mem → Prop} {x : Nat} {a0 : Int32} {a1 : Int32} : X z 214 905 ls (.int a1 :: .int a0 :: .ref x :: st) (c, n) (K, I, R, L, sz, ex) Q = ((K x).1 = 111 ∧ wsum st ≤ 8 ∧ c + 0 ≤ 601024 ∧ n + 0 ≤ 7293034 ∧ X z 156 0 [some (.ref x), some (.int a0), some (.int a1)] [] (0, 0) (K, I, R, L, sz, ex) (aftr (X z) mT 214 905 ls st (c + 0, n + 0) Q)) := v214_905
theorem v214_908 {z : P0} {st : List Value} {cu : Nat × Nat} {Q : Res → Mem → Prop} {σ : Mem} {x0 x1 x2 x3 x4 x5 x6 x7 x8 : Option Value} {u : Int32} : X z 214 908 [x0, x1, x2, x3, x4, x5, x6, x7, x8] (.int u :: st) cu σ Q = (cat2 x5 = false ∧ X z 214 910 [x0, x1, x2, x3, x4, x5, some (.int u), x7, x8] (st) cu σ Q) := by
  rw [x214_908]
  obtain ⟨K, I, R, L, sz, ex⟩ := σ
  exact i_istore.trans sl_6
theorem v214_910 {z : P0} {st : List Value} {cu : Nat × Nat} {Q : Res → Mem → Prop} {σ : Mem} {x0 x1 x3 x4 x5 x6 x7 x8 : Option Value} {u : Nat} : X z 214 910 [x0, x1, some (.ref u), x3, x4, x5, x6, x7, x8] (st) cu σ Q = (X z 214 911 [x0, x1, some (.ref u), x3, x4, x5, x6, x7, x8] (.ref u :: st) cu σ Q) := by
  rw [x214_910]
  rfl
theorem u214_911 {z : P0} {ls : Lcs} {st : List Value} {c n : Nat} {K : Nat → Nat × Nat} {I : Nat → Nat → Int32} {R : Nat → Nat → Option Nat} {L : Nat → Nat → Int64} {sz : Nat} {ex : Bool} {Q : Res → Mem → Prop} {x : Nat} : X z 214 911 ls (.ref x :: st) (c, n) (K, I, R, L, sz, ex) Q = ((K x).1 = 111 ∧ wsum st ≤ 8 ∧ c + 0 ≤ 601024 ∧ n + 0 ≤ 7293034 ∧ X z 105 0 [some (.ref x)] [] (0, 0) (K, I, R, L, sz, ex) (aftr (X z) mT 214 911 ls st (c + 0, n + 0) Q)) := v214_911
theorem v214_914 {z : P0} {st : List Value} {cu : Nat × Nat} {Q : Res → Mem → Prop} {σ : Mem} {x0 x1 x2 x3 x4 x6 x7 x8 : Option Value} {u : Int32} : X z 214 914 [x0, x1, x2, x3, x4, some (.int u), x6, x7, x8] (st) cu σ Q = (X z 214 916 [x0, x1, x2, x3, x4, some (.int u), x6, x7, x8] (.int u :: st) cu σ Q) := by
  rw [x214_914]
  rfl
theorem v214_916 {z : P0} {st : List Value} {cu : Nat × Nat} {Q : Res → Mem → Prop} {σ : Mem} {x0 x1 x2 x3 x4 x5 x6 x7 x8 : Option Value} {u v : Int32} : X z 214 916 [x0, x1, x2, x3, x4, x5, x6, x7, x8] (.int v :: .int u :: st) cu σ Q = (if u = v then X z 214 921 [x0, x1, x2, x3, x4, x5, x6, x7, x8] (st) cu σ Q else X z 214 919 [x0, x1, x2, x3, x4, x5, x6, x7, x8] (st) cu σ Q) := by
  rw [x214_916]
  obtain ⟨K, I, R, L, sz, ex⟩ := σ
  exact br_ite
theorem v214_919 {z : P0} {st : List Value} {cu : Nat × Nat} {Q : Res → Mem → Prop} {σ : Mem} {x0 x1 x2 x3 x4 x5 x6 x7 x8 : Option Value} : X z 214 919 [x0, x1, x2, x3, x4, x5, x6, x7, x8] (st) cu σ Q = (X z 214 920 [x0, x1, x2, x3, x4, x5, x6, x7, x8] (.int (nI 0) :: st) cu σ Q) := by
  rw [x214_919]
  rfl
theorem v214_920 {z : P0} {cu : Nat × Nat} {Q : Res → Mem → Prop} {σ : Mem} {x0 x1 x2 x3 x4 x5 x6 x7 x8 : Option Value} {v : Int32} : X z 214 920 [x0, x1, x2, x3, x4, x5, x6, x7, x8] ([.int v]) cu σ Q = ((v = nI 0 ∨ v = nI 1) ∧ Q (.inl (some (.int v))) σ) := by
  rw [x214_920]
  rw [nI_0, one1]
  rfl
theorem v214_921 {z : P0} {st : List Value} {cu : Nat × Nat} {Q : Res → Mem → Prop} {σ : Mem} {x0 x1 x2 x3 x4 x6 x7 x8 : Option Value} {u : Int32} : X z 214 921 [x0, x1, x2, x3, x4, some (.int u), x6, x7, x8] (st) cu σ Q = (X z 214 923 [x0, x1, x2, x3, x4, some (.int u), x6, x7, x8] (.int u :: st) cu σ Q) := by
  rw [x214_921]
  rfl
theorem v214_923 {z : P0} {st : List Value} {cu : Nat × Nat} {Q : Res → Mem → Prop} {σ : Mem} {x0 x1 x2 x3 x4 x5 x6 x7 x8 : Option Value} {u : Int32} : X z 214 923 [x0, x1, x2, x3, x4, x5, x6, x7, x8] (.int u :: st) cu σ Q = (if u = nI 0 then X z 214 926 [x0, x1, x2, x3, x4, x5, x6, x7, x8] (st) cu σ Q else X z 214 938 [x0, x1, x2, x3, x4, x5, x6, x7, x8] (st) cu σ Q) := by
  rw [x214_923]
  rw [nI_0]
  obtain ⟨K, I, R, L, sz, ex⟩ := σ
  exact br_ne
theorem v214_926 {z : P0} {st : List Value} {cu : Nat × Nat} {Q : Res → Mem → Prop} {σ : Mem} {x0 x1 x2 x4 x5 x6 x7 x8 : Option Value} {u : Nat} : X z 214 926 [x0, x1, x2, some (.ref u), x4, x5, x6, x7, x8] (st) cu σ Q = (X z 214 927 [x0, x1, x2, some (.ref u), x4, x5, x6, x7, x8] (.ref u :: st) cu σ Q) := by
  rw [x214_926]
  rfl
theorem v214_927 {z : P0} {st : List Value} {cu : Nat × Nat} {Q : Res → Mem → Prop} {σ : Mem} {x0 x1 x2 x3 x4 x5 x6 x7 x8 : Option Value} : X z 214 927 [x0, x1, x2, x3, x4, x5, x6, x7, x8] (st) cu σ Q = (X z 214 928 [x0, x1, x2, x3, x4, x5, x6, x7, x8] (.int (nI 0) :: st) cu σ Q) := by
  rw [x214_927]
  rfl
theorem v214_928 {z : P0} {st : List Value} {cu : Nat × Nat} {Q : Res → Mem → Prop} {K : Nat → Nat × Nat} {I : Nat → Nat → Int32} {R : Nat → Nat → Option Nat} {L : Nat → Nat → Int64} {sz : Nat} {ex : Bool} {x0 x1 x2 x3 x4 x5 x6 x7 x8 : Option Value} {u : Nat} {v : Int32} : X z 214 928 [x0, x1, x2, x3, x4, x5, x6, x7, x8] (.int v :: .ref u :: st) cu (K, I, R, L, sz, ex) Q = ((K u).1 = 21 ∧ vp_in v (K u).2 ∧ X z 214 929 [x0, x1, x2, x3, x4, x5, x6, x7, x8] (.long (L u v.toNatClampNeg) :: st) cu (K, I, R, L, sz, ex) Q) := by
  rw [x214_928]
  rfl
theorem v214_929 {z : P0} {st : List Value} {cu : Nat × Nat} {Q : Res → Mem → Prop} {σ : Mem} {x0 x1 x2 x3 x4 x5 x7 x8 : Option Value} {u : Int32} : X z 214 929 [x0, x1, x2, x3, x4, x5, some (.int u), x7, x8] (st) cu σ Q = (X z 214 931 [x0, x1, x2, x3, x4, x5, some (.int u), x7, x8] (.int u :: st) cu σ Q) := by
  rw [x214_929]
  rfl
theorem v214_931 {z : P0} {st : List Value} {cu : Nat × Nat} {Q : Res → Mem → Prop} {σ : Mem} {x0 x1 x2 x3 x4 x5 x6 x7 x8 : Option Value} {u : Int32} : X z 214 931 [x0, x1, x2, x3, x4, x5, x6, x7, x8] (.int u :: st) cu σ Q = (X z 214 932 [x0, x1, x2, x3, x4, x5, x6, x7, x8] (.long u.toInt64 :: st) cu σ Q) := by
  rw [x214_931]
  rfl
theorem v214_932 {z : P0} {st : List Value} {cu : Nat × Nat} {Q : Res → Mem → Prop} {σ : Mem} {x0 x1 x2 x3 x4 x5 x6 x7 x8 : Option Value} {u v : Int64} : X z 214 932 [x0, x1, x2, x3, x4, x5, x6, x7, x8] (.long v :: .long u :: st) cu σ Q = (X z 214 933 [x0, x1, x2, x3, x4, x5, x6, x7, x8] (.int (lg_cmp u v) :: st) cu σ Q) := by
  rw [x214_932]
  rfl
theorem v214_933 {z : P0} {st : List Value} {cu : Nat × Nat} {Q : Res → Mem → Prop} {σ : Mem} {x0 x1 x2 x3 x4 x5 x6 x7 x8 : Option Value} {u : Int32} : X z 214 933 [x0, x1, x2, x3, x4, x5, x6, x7, x8] (.int u :: st) cu σ Q = (if u = nI 0 then X z 214 938 [x0, x1, x2, x3, x4, x5, x6, x7, x8] (st) cu σ Q else X z 214 936 [x0, x1, x2, x3, x4, x5, x6, x7, x8] (st) cu σ Q) := by
  rw [x214_933]
  rw [nI_0]
  obtain ⟨K, I, R, L, sz, ex⟩ := σ
  exact br_ite
theorem v214_936 {z : P0} {st : List Value} {cu : Nat × Nat} {Q : Res → Mem → Prop} {σ : Mem} {x0 x1 x2 x3 x4 x5 x6 x7 x8 : Option Value} : X z 214 936 [x0, x1, x2, x3, x4, x5, x6, x7, x8] (st) cu σ Q = (X z 214 937 [x0, x1, x2, x3, x4, x5, x6, x7, x8] (.int (nI 0) :: st) cu σ Q) := by
  rw [x214_936]
  rfl
theorem v214_937 {z : P0} {cu : Nat × Nat} {Q : Res → Mem → Prop} {σ : Mem} {x0 x1 x2 x3 x4 x5 x6 x7 x8 : Option Value} {v : Int32} : X z 214 937 [x0, x1, x2, x3, x4, x5, x6, x7, x8] ([.int v]) cu σ Q = ((v = nI 0 ∨ v = nI 1) ∧ Q (.inl (some (.int v))) σ) := by
  rw [x214_937]
  rw [nI_0, one1]
  rfl
theorem v214_938 {z : P0} {st : List Value} {cu : Nat × Nat} {Q : Res → Mem → Prop} {σ : Mem} {x0 x1 x2 x3 x4 x5 x6 x7 x8 : Option Value} : X z 214 938 [x0, x1, x2, x3, x4, x5, x6, x7, x8] (st) cu σ Q = (X z 214 1598 [x0, x1, x2, x3, x4, x5, x6, x7, x8] (st) cu σ Q) := by
  rw [x214_938]
  rfl
theorem v214_941 {z : P0} {st : List Value} {cu : Nat × Nat} {Q : Res → Mem → Prop} {σ : Mem} {x0 x2 x3 x4 x5 x6 x7 x8 : Option Value} {u : Nat} : X z 214 941 [x0, some (.ref u), x2, x3, x4, x5, x6, x7, x8] (st) cu σ Q = (X z 214 942 [x0, some (.ref u), x2, x3, x4, x5, x6, x7, x8] (.ref u :: st) cu σ Q) := by
  rw [x214_941]
  rfl
theorem v214_942 {z : P0} {st : List Value} {cu : Nat × Nat} {Q : Res → Mem → Prop} {σ : Mem} {x1 x2 x3 x4 x5 x6 x7 x8 : Option Value} {u : Nat} : X z 214 942 [some (.ref u), x1, x2, x3, x4, x5, x6, x7, x8] (st) cu σ Q = (X z 214 943 [some (.ref u), x1, x2, x3, x4, x5, x6, x7, x8] (.ref u :: st) cu σ Q) := by
  rw [x214_942]
  rfl
theorem v214_943 {z : P0} {st : List Value} {cu : Nat × Nat} {Q : Res → Mem → Prop} {σ : Mem} {x0 x1 x2 x3 x5 x6 x7 x8 : Option Value} {u : Int32} : X z 214 943 [x0, x1, x2, x3, some (.int u), x5, x6, x7, x8] (st) cu σ Q = (X z 214 945 [x0, x1, x2, x3, some (.int u), x5, x6, x7, x8] (.int u :: st) cu σ Q) := by
  rw [x214_943]
  rfl
theorem v214_945 {z : P0} {st : List Value} {cu : Nat × Nat} {Q : Res → Mem → Prop} {σ : Mem} {x0 x1 x2 x3 x4 x5 x6 x7 x8 : Option Value} : X z 214 945 [x0, x1, x2, x3, x4, x5, x6, x7, x8] (st) cu σ Q = (X z 214 946 [x0, x1, x2, x3, x4, x5, x6, x7, x8] (.int (nI 1) :: st) cu σ Q) := by
  rw [x214_945]
  rfl
theorem v214_946 {z : P0} {st : List Value} {cu : Nat × Nat} {Q : Res → Mem → Prop} {σ : Mem} {x0 x1 x2 x3 x4 x5 x6 x7 x8 : Option Value} {u v : Int32} : X z 214 946 [x0, x1, x2, x3, x4, x5, x6, x7, x8] (.int v :: .int u :: st) cu σ Q = (X z 214 947 [x0, x1, x2, x3, x4, x5, x6, x7, x8] (.int (u + v) :: st) cu σ Q) := by
  rw [x214_946]
  rfl
theorem v214_947 {z : P0} {st : List Value} {cu : Nat × Nat} {Q : Res → Mem → Prop} {K : Nat → Nat × Nat} {I : Nat → Nat → Int32} {R : Nat → Nat → Option Nat} {L : Nat → Nat → Int64} {sz : Nat} {ex : Bool} {x0 x1 x2 x3 x4 x5 x6 x7 x8 : Option Value} {u : Nat} {v : Int32} : X z 214 947 [x0, x1, x2, x3, x4, x5, x6, x7, x8] (.int v :: .ref u :: st) cu (K, I, R, L, sz, ex) Q = (((K u).1 = 20 ∨ (K u).1 = 50) ∧ vp_in v (K u).2 ∧ X z 214 948 [x0, x1, x2, x3, x4, x5, x6, x7, x8] (.int (I u v.toNatClampNeg) :: st) cu (K, I, R, L, sz, ex) Q) := by
  rw [x214_947]
  rfl
theorem v214_948 {z : P0} {st : List Value} {cu : Nat × Nat} {Q : Res → Mem → Prop} {σ : Mem} {x1 x2 x3 x4 x5 x6 x7 x8 : Option Value} {u : Nat} : X z 214 948 [some (.ref u), x1, x2, x3, x4, x5, x6, x7, x8] (st) cu σ Q = (X z 214 949 [some (.ref u), x1, x2, x3, x4, x5, x6, x7, x8] (.ref u :: st) cu σ Q) := by
  rw [x214_948]
  rfl
theorem v214_949 {z : P0} {st : List Value} {cu : Nat × Nat} {Q : Res → Mem → Prop} {σ : Mem} {x0 x1 x2 x3 x5 x6 x7 x8 : Option Value} {u : Int32} : X z 214 949 [x0, x1, x2, x3, some (.int u), x5, x6, x7, x8] (st) cu σ Q = (X z 214 951 [x0, x1, x2, x3, some (.int u), x5, x6, x7, x8] (.int u :: st) cu σ Q) := by
  rw [x214_949]
  rfl
theorem v214_951 {z : P0} {st : List Value} {cu : Nat × Nat} {Q : Res → Mem → Prop} {σ : Mem} {x0 x1 x2 x3 x4 x5 x6 x7 x8 : Option Value} : X z 214 951 [x0, x1, x2, x3, x4, x5, x6, x7, x8] (st) cu σ Q = (X z 214 952 [x0, x1, x2, x3, x4, x5, x6, x7, x8] (.int (nI 2) :: st) cu σ Q) := by
  rw [x214_951]
  rfl
theorem v214_952 {z : P0} {st : List Value} {cu : Nat × Nat} {Q : Res → Mem → Prop} {σ : Mem} {x0 x1 x2 x3 x4 x5 x6 x7 x8 : Option Value} {u v : Int32} : X z 214 952 [x0, x1, x2, x3, x4, x5, x6, x7, x8] (.int v :: .int u :: st) cu σ Q = (X z 214 953 [x0, x1, x2, x3, x4, x5, x6, x7, x8] (.int (u + v) :: st) cu σ Q) := by
  rw [x214_952]
  rfl
theorem v214_953 {z : P0} {st : List Value} {cu : Nat × Nat} {Q : Res → Mem → Prop} {K : Nat → Nat × Nat} {I : Nat → Nat → Int32} {R : Nat → Nat → Option Nat} {L : Nat → Nat → Int64} {sz : Nat} {ex : Bool} {x0 x1 x2 x3 x4 x5 x6 x7 x8 : Option Value} {u : Nat} {v : Int32} : X z 214 953 [x0, x1, x2, x3, x4, x5, x6, x7, x8] (.int v :: .ref u :: st) cu (K, I, R, L, sz, ex) Q = (((K u).1 = 20 ∨ (K u).1 = 50) ∧ vp_in v (K u).2 ∧ X z 214 954 [x0, x1, x2, x3, x4, x5, x6, x7, x8] (.int (I u v.toNatClampNeg) :: st) cu (K, I, R, L, sz, ex) Q) := by
  rw [x214_953]
  rfl
theorem v214_954 {z : P0} {st : List Value} {cu : Nat × Nat} {Q : Res → Mem → Prop} {σ : Mem} {x0 x1 x2 x4 x5 x6 x7 x8 : Option Value} {u : Nat} : X z 214 954 [x0, x1, x2, some (.ref u), x4, x5, x6, x7, x8] (st) cu σ Q = (X z 214 955 [x0, x1, x2, some (.ref u), x4, x5, x6, x7, x8] (.ref u :: st) cu σ Q) := by
  rw [x214_954]
  rfl
theorem u214_955 {z : P0} {ls : Lcs} {st : List Value} {c n : Nat} {K : Nat → Nat × Nat} {I : Nat → Nat → Int32} {R : Nat → Nat → Option Nat} {L : Nat → Nat → Int64} {sz : Nat} {ex : Bool} {Q : Res → Mem → Prop} {a0 : Nat} {a1 : Int32} {a2 : Int32} {a3 : Nat} : X z 214 955 ls (.ref a3 :: .int a2 :: .int a1 :: .ref a0 :: st) (c, n) (K, I, R, L, sz, ex) Q = (wsum st ≤ 8 ∧ c + 1 ≤ 601024 ∧ n + 6 ≤ 7293034 ∧ X z 205 0 [some (.ref a0), some (.int a1), some (.int a2), some (.ref a3), none] [] (0, 0) (K, I, R, L, sz, ex) (aftr (X z) mT 214 955 ls st (c + 1, n + 6) Q)) := v214_955
theorem v214_958 {z : P0} {st : List Value} {cu : Nat × Nat} {Q : Res → Mem → Prop} {σ : Mem} {x0 x1 x2 x3 x4 x5 x6 x7 x8 : Option Value} {u : Int32} : X z 214 958 [x0, x1, x2, x3, x4, x5, x6, x7, x8] (.int u :: st) cu σ Q = (cat2 x4 = false ∧ X z 214 960 [x0, x1, x2, x3, x4, some (.int u), x6, x7, x8] (st) cu σ Q) := by
  rw [x214_958]
  obtain ⟨K, I, R, L, sz, ex⟩ := σ
  exact i_istore.trans sl_5
theorem v214_960 {z : P0} {st : List Value} {cu : Nat × Nat} {Q : Res → Mem → Prop} {σ : Mem} {x0 x1 x3 x4 x5 x6 x7 x8 : Option Value} {u : Nat} : X z 214 960 [x0, x1, some (.ref u), x3, x4, x5, x6, x7, x8] (st) cu σ Q = (X z 214 961 [x0, x1, some (.ref u), x3, x4, x5, x6, x7, x8] (.ref u :: st) cu σ Q) := by
  rw [x214_960]
  rfl
theorem v214_961 {z : P0} {st : List Value} {cu : Nat × Nat} {Q : Res → Mem → Prop} {σ : Mem} {x1 x2 x3 x4 x5 x6 x7 x8 : Option Value} {u : Nat} : X z 214 961 [some (.ref u), x1, x2, x3, x4, x5, x6, x7, x8] (st) cu σ Q = (X z 214 962 [some (.ref u), x1, x2, x3, x4, x5, x6, x7, x8] (.ref u :: st) cu σ Q) := by
  rw [x214_961]
  rfl
theorem v214_962 {z : P0} {st : List Value} {cu : Nat × Nat} {Q : Res → Mem → Prop} {σ : Mem} {x0 x1 x2 x3 x5 x6 x7 x8 : Option Value} {u : Int32} : X z 214 962 [x0, x1, x2, x3, some (.int u), x5, x6, x7, x8] (st) cu σ Q = (X z 214 964 [x0, x1, x2, x3, some (.int u), x5, x6, x7, x8] (.int u :: st) cu σ Q) := by
  rw [x214_962]
  rfl
theorem v214_964 {z : P0} {st : List Value} {cu : Nat × Nat} {Q : Res → Mem → Prop} {σ : Mem} {x0 x1 x2 x3 x4 x5 x6 x7 x8 : Option Value} : X z 214 964 [x0, x1, x2, x3, x4, x5, x6, x7, x8] (st) cu σ Q = (X z 214 965 [x0, x1, x2, x3, x4, x5, x6, x7, x8] (.int (nI 1) :: st) cu σ Q) := by
  rw [x214_964]
  rfl
theorem v214_965 {z : P0} {st : List Value} {cu : Nat × Nat} {Q : Res → Mem → Prop} {σ : Mem} {x0 x1 x2 x3 x4 x5 x6 x7 x8 : Option Value} {u v : Int32} : X z 214 965 [x0, x1, x2, x3, x4, x5, x6, x7, x8] (.int v :: .int u :: st) cu σ Q = (X z 214 966 [x0, x1, x2, x3, x4, x5, x6, x7, x8] (.int (u + v) :: st) cu σ Q) := by
  rw [x214_965]
  rfl
theorem v214_966 {z : P0} {st : List Value} {cu : Nat × Nat} {Q : Res → Mem → Prop} {K : Nat → Nat × Nat} {I : Nat → Nat → Int32} {R : Nat → Nat → Option Nat} {L : Nat → Nat → Int64} {sz : Nat} {ex : Bool} {x0 x1 x2 x3 x4 x5 x6 x7 x8 : Option Value} {u : Nat} {v : Int32} : X z 214 966 [x0, x1, x2, x3, x4, x5, x6, x7, x8] (.int v :: .ref u :: st) cu (K, I, R, L, sz, ex) Q = (((K u).1 = 20 ∨ (K u).1 = 50) ∧ vp_in v (K u).2 ∧ X z 214 967 [x0, x1, x2, x3, x4, x5, x6, x7, x8] (.int (I u v.toNatClampNeg) :: st) cu (K, I, R, L, sz, ex) Q) := by
  rw [x214_966]
  rfl
theorem v214_967 {z : P0} {st : List Value} {cu : Nat × Nat} {Q : Res → Mem → Prop} {σ : Mem} {x1 x2 x3 x4 x5 x6 x7 x8 : Option Value} {u : Nat} : X z 214 967 [some (.ref u), x1, x2, x3, x4, x5, x6, x7, x8] (st) cu σ Q = (X z 214 968 [some (.ref u), x1, x2, x3, x4, x5, x6, x7, x8] (.ref u :: st) cu σ Q) := by
  rw [x214_967]
  rfl
theorem v214_968 {z : P0} {st : List Value} {cu : Nat × Nat} {Q : Res → Mem → Prop} {σ : Mem} {x0 x1 x2 x3 x5 x6 x7 x8 : Option Value} {u : Int32} : X z 214 968 [x0, x1, x2, x3, some (.int u), x5, x6, x7, x8] (st) cu σ Q = (X z 214 970 [x0, x1, x2, x3, some (.int u), x5, x6, x7, x8] (.int u :: st) cu σ Q) := by
  rw [x214_968]
  rfl
theorem v214_970 {z : P0} {st : List Value} {cu : Nat × Nat} {Q : Res → Mem → Prop} {σ : Mem} {x0 x1 x2 x3 x4 x5 x6 x7 x8 : Option Value} : X z 214 970 [x0, x1, x2, x3, x4, x5, x6, x7, x8] (st) cu σ Q = (X z 214 971 [x0, x1, x2, x3, x4, x5, x6, x7, x8] (.int (nI 2) :: st) cu σ Q) := by
  rw [x214_970]
  rfl
theorem v214_971 {z : P0} {st : List Value} {cu : Nat × Nat} {Q : Res → Mem → Prop} {σ : Mem} {x0 x1 x2 x3 x4 x5 x6 x7 x8 : Option Value} {u v : Int32} : X z 214 971 [x0, x1, x2, x3, x4, x5, x6, x7, x8] (.int v :: .int u :: st) cu σ Q = (X z 214 972 [x0, x1, x2, x3, x4, x5, x6, x7, x8] (.int (u + v) :: st) cu σ Q) := by
  rw [x214_971]
  rfl
theorem v214_972 {z : P0} {st : List Value} {cu : Nat × Nat} {Q : Res → Mem → Prop} {K : Nat → Nat × Nat} {I : Nat → Nat → Int32} {R : Nat → Nat → Option Nat} {L : Nat → Nat → Int64} {sz : Nat} {ex : Bool} {x0 x1 x2 x3 x4 x5 x6 x7 x8 : Option Value} {u : Nat} {v : Int32} : X z 214 972 [x0, x1, x2, x3, x4, x5, x6, x7, x8] (.int v :: .ref u :: st) cu (K, I, R, L, sz, ex) Q = (((K u).1 = 20 ∨ (K u).1 = 50) ∧ vp_in v (K u).2 ∧ X z 214 973 [x0, x1, x2, x3, x4, x5, x6, x7, x8] (.int (I u v.toNatClampNeg) :: st) cu (K, I, R, L, sz, ex) Q) := by
  rw [x214_972]
  rfl
theorem u214_973 {z : P0} {ls : Lcs} {st : List Value} {c n : Nat} {K : Nat → Nat × Nat} {I : Nat → Nat → Int32} {R : Nat → Nat → Option Nat} {L : Nat → Nat → Int64} {sz : Nat} {ex : Bool} {Q : Res → Mem → Prop} {x : Nat} {a0 : Int32} {a1 : Int32} : X z 214 973 ls (.int a1 :: .int a0 :: .ref x :: st) (c, n) (K, I, R, L, sz, ex) Q = ((K x).1 = 111 ∧ wsum st ≤ 8 ∧ c + 0 ≤ 601024 ∧ n + 0 ≤ 7293034 ∧ X z 157 0 [some (.ref x), some (.int a0), some (.int a1)] [] (0, 0) (K, I, R, L, sz, ex) (aftr (X z) mT 214 973 ls st (c + 0, n + 0) Q)) := v214_973
theorem v214_976 {z : P0} {st : List Value} {cu : Nat × Nat} {Q : Res → Mem → Prop} {σ : Mem} {x0 x1 x2 x3 x4 x5 x6 x7 x8 : Option Value} {u : Int32} : X z 214 976 [x0, x1, x2, x3, x4, x5, x6, x7, x8] (.int u :: st) cu σ Q = (cat2 x5 = false ∧ X z 214 978 [x0, x1, x2, x3, x4, x5, some (.int u), x7, x8] (st) cu σ Q) := by
  rw [x214_976]
  obtain ⟨K, I, R, L, sz, ex⟩ := σ
  exact i_istore.trans sl_6
theorem v214_978 {z : P0} {st : List Value} {cu : Nat × Nat} {Q : Res → Mem → Prop} {σ : Mem} {x0 x1 x3 x4 x5 x6 x7 x8 : Option Value} {u : Nat} : X z 214 978 [x0, x1, some (.ref u), x3, x4, x5, x6, x7, x8] (st) cu σ Q = (X z 214 979 [x0, x1, some (.ref u), x3, x4, x5, x6, x7, x8] (.ref u :: st) cu σ Q) := by
  rw [x214_978]
  rfl
theorem u214_979 {z : P0} {ls : Lcs} {st : List Value} {c n : Nat} {K : Nat → Nat × Nat} {I : Nat → Nat → Int32} {R : Nat → Nat → Option Nat} {L : Nat → Nat → Int64} {sz : Nat} {ex : Bool} {Q : Res → Mem → Prop} {x : Nat} : X z 214 979 ls (.ref x :: st) (c, n) (K, I, R, L, sz, ex) Q = ((K x).1 = 111 ∧ wsum st ≤ 8 ∧ c + 0 ≤ 601024 ∧ n + 0 ≤ 7293034 ∧ X z 105 0 [some (.ref x)] [] (0, 0) (K, I, R, L, sz, ex) (aftr (X z) mT 214 979 ls st (c + 0, n + 0) Q)) := v214_979
theorem v214_982 {z : P0} {st : List Value} {cu : Nat × Nat} {Q : Res → Mem → Prop} {σ : Mem} {x0 x1 x2 x3 x4 x6 x7 x8 : Option Value} {u : Int32} : X z 214 982 [x0, x1, x2, x3, x4, some (.int u), x6, x7, x8] (st) cu σ Q = (X z 214 984 [x0, x1, x2, x3, x4, some (.int u), x6, x7, x8] (.int u :: st) cu σ Q) := by
  rw [x214_982]
  rfl
theorem v214_984 {z : P0} {st : List Value} {cu : Nat × Nat} {Q : Res → Mem → Prop} {σ : Mem} {x0 x1 x2 x3 x4 x5 x6 x7 x8 : Option Value} {u v : Int32} : X z 214 984 [x0, x1, x2, x3, x4, x5, x6, x7, x8] (.int v :: .int u :: st) cu σ Q = (if u = v then X z 214 989 [x0, x1, x2, x3, x4, x5, x6, x7, x8] (st) cu σ Q else X z 214 987 [x0, x1, x2, x3, x4, x5, x6, x7, x8] (st) cu σ Q) := by
  rw [x214_984]
  obtain ⟨K, I, R, L, sz, ex⟩ := σ
  exact br_ite
theorem v214_987 {z : P0} {st : List Value} {cu : Nat × Nat} {Q : Res → Mem → Prop} {σ : Mem} {x0 x1 x2 x3 x4 x5 x6 x7 x8 : Option Value} : X z 214 987 [x0, x1, x2, x3, x4, x5, x6, x7, x8] (st) cu σ Q = (X z 214 988 [x0, x1, x2, x3, x4, x5, x6, x7, x8] (.int (nI 0) :: st) cu σ Q) := by
  rw [x214_987]
  rfl
theorem v214_988 {z : P0} {cu : Nat × Nat} {Q : Res → Mem → Prop} {σ : Mem} {x0 x1 x2 x3 x4 x5 x6 x7 x8 : Option Value} {v : Int32} : X z 214 988 [x0, x1, x2, x3, x4, x5, x6, x7, x8] ([.int v]) cu σ Q = ((v = nI 0 ∨ v = nI 1) ∧ Q (.inl (some (.int v))) σ) := by
  rw [x214_988]
  rw [nI_0, one1]
  rfl
theorem v214_989 {z : P0} {st : List Value} {cu : Nat × Nat} {Q : Res → Mem → Prop} {σ : Mem} {x0 x1 x2 x3 x4 x6 x7 x8 : Option Value} {u : Int32} : X z 214 989 [x0, x1, x2, x3, x4, some (.int u), x6, x7, x8] (st) cu σ Q = (X z 214 991 [x0, x1, x2, x3, x4, some (.int u), x6, x7, x8] (.int u :: st) cu σ Q) := by
  rw [x214_989]
  rfl
theorem v214_991 {z : P0} {st : List Value} {cu : Nat × Nat} {Q : Res → Mem → Prop} {σ : Mem} {x0 x1 x2 x3 x4 x5 x6 x7 x8 : Option Value} {u : Int32} : X z 214 991 [x0, x1, x2, x3, x4, x5, x6, x7, x8] (.int u :: st) cu σ Q = (if u = nI 0 then X z 214 994 [x0, x1, x2, x3, x4, x5, x6, x7, x8] (st) cu σ Q else X z 214 1006 [x0, x1, x2, x3, x4, x5, x6, x7, x8] (st) cu σ Q) := by
  rw [x214_991]
  rw [nI_0]
  obtain ⟨K, I, R, L, sz, ex⟩ := σ
  exact br_ne
theorem v214_994 {z : P0} {st : List Value} {cu : Nat × Nat} {Q : Res → Mem → Prop} {σ : Mem} {x0 x1 x2 x4 x5 x6 x7 x8 : Option Value} {u : Nat} : X z 214 994 [x0, x1, x2, some (.ref u), x4, x5, x6, x7, x8] (st) cu σ Q = (X z 214 995 [x0, x1, x2, some (.ref u), x4, x5, x6, x7, x8] (.ref u :: st) cu σ Q) := by
  rw [x214_994]
  rfl
theorem v214_995 {z : P0} {st : List Value} {cu : Nat × Nat} {Q : Res → Mem → Prop} {σ : Mem} {x0 x1 x2 x3 x4 x5 x6 x7 x8 : Option Value} : X z 214 995 [x0, x1, x2, x3, x4, x5, x6, x7, x8] (st) cu σ Q = (X z 214 996 [x0, x1, x2, x3, x4, x5, x6, x7, x8] (.int (nI 0) :: st) cu σ Q) := by
  rw [x214_995]
  rfl
theorem v214_996 {z : P0} {st : List Value} {cu : Nat × Nat} {Q : Res → Mem → Prop} {K : Nat → Nat × Nat} {I : Nat → Nat → Int32} {R : Nat → Nat → Option Nat} {L : Nat → Nat → Int64} {sz : Nat} {ex : Bool} {x0 x1 x2 x3 x4 x5 x6 x7 x8 : Option Value} {u : Nat} {v : Int32} : X z 214 996 [x0, x1, x2, x3, x4, x5, x6, x7, x8] (.int v :: .ref u :: st) cu (K, I, R, L, sz, ex) Q = ((K u).1 = 21 ∧ vp_in v (K u).2 ∧ X z 214 997 [x0, x1, x2, x3, x4, x5, x6, x7, x8] (.long (L u v.toNatClampNeg) :: st) cu (K, I, R, L, sz, ex) Q) := by
  rw [x214_996]
  rfl
theorem v214_997 {z : P0} {st : List Value} {cu : Nat × Nat} {Q : Res → Mem → Prop} {σ : Mem} {x0 x1 x2 x3 x4 x5 x7 x8 : Option Value} {u : Int32} : X z 214 997 [x0, x1, x2, x3, x4, x5, some (.int u), x7, x8] (st) cu σ Q = (X z 214 999 [x0, x1, x2, x3, x4, x5, some (.int u), x7, x8] (.int u :: st) cu σ Q) := by
  rw [x214_997]
  rfl
theorem v214_999 {z : P0} {st : List Value} {cu : Nat × Nat} {Q : Res → Mem → Prop} {σ : Mem} {x0 x1 x2 x3 x4 x5 x6 x7 x8 : Option Value} {u : Int32} : X z 214 999 [x0, x1, x2, x3, x4, x5, x6, x7, x8] (.int u :: st) cu σ Q = (X z 214 1000 [x0, x1, x2, x3, x4, x5, x6, x7, x8] (.long u.toInt64 :: st) cu σ Q) := by
  rw [x214_999]
  rfl
theorem v214_1000 {z : P0} {st : List Value} {cu : Nat × Nat} {Q : Res → Mem → Prop} {σ : Mem} {x0 x1 x2 x3 x4 x5 x6 x7 x8 : Option Value} {u v : Int64} : X z 214 1000 [x0, x1, x2, x3, x4, x5, x6, x7, x8] (.long v :: .long u :: st) cu σ Q = (X z 214 1001 [x0, x1, x2, x3, x4, x5, x6, x7, x8] (.int (lg_cmp u v) :: st) cu σ Q) := by
  rw [x214_1000]
  rfl
theorem v214_1001 {z : P0} {st : List Value} {cu : Nat × Nat} {Q : Res → Mem → Prop} {σ : Mem} {x0 x1 x2 x3 x4 x5 x6 x7 x8 : Option Value} {u : Int32} : X z 214 1001 [x0, x1, x2, x3, x4, x5, x6, x7, x8] (.int u :: st) cu σ Q = (if u = nI 0 then X z 214 1006 [x0, x1, x2, x3, x4, x5, x6, x7, x8] (st) cu σ Q else X z 214 1004 [x0, x1, x2, x3, x4, x5, x6, x7, x8] (st) cu σ Q) := by
  rw [x214_1001]
  rw [nI_0]
  obtain ⟨K, I, R, L, sz, ex⟩ := σ
  exact br_ite
theorem v214_1004 {z : P0} {st : List Value} {cu : Nat × Nat} {Q : Res → Mem → Prop} {σ : Mem} {x0 x1 x2 x3 x4 x5 x6 x7 x8 : Option Value} : X z 214 1004 [x0, x1, x2, x3, x4, x5, x6, x7, x8] (st) cu σ Q = (X z 214 1005 [x0, x1, x2, x3, x4, x5, x6, x7, x8] (.int (nI 0) :: st) cu σ Q) := by
  rw [x214_1004]
  rfl
theorem v214_1005 {z : P0} {cu : Nat × Nat} {Q : Res → Mem → Prop} {σ : Mem} {x0 x1 x2 x3 x4 x5 x6 x7 x8 : Option Value} {v : Int32} : X z 214 1005 [x0, x1, x2, x3, x4, x5, x6, x7, x8] ([.int v]) cu σ Q = ((v = nI 0 ∨ v = nI 1) ∧ Q (.inl (some (.int v))) σ) := by
  rw [x214_1005]
  rw [nI_0, one1]
  rfl
theorem v214_1006 {z : P0} {st : List Value} {cu : Nat × Nat} {Q : Res → Mem → Prop} {σ : Mem} {x0 x1 x2 x3 x4 x5 x6 x7 x8 : Option Value} : X z 214 1006 [x0, x1, x2, x3, x4, x5, x6, x7, x8] (st) cu σ Q = (X z 214 1598 [x0, x1, x2, x3, x4, x5, x6, x7, x8] (st) cu σ Q) := by
  rw [x214_1006]
  rfl
theorem v214_1009 {z : P0} {st : List Value} {cu : Nat × Nat} {Q : Res → Mem → Prop} {σ : Mem} {x0 x2 x3 x4 x5 x6 x7 x8 : Option Value} {u : Nat} : X z 214 1009 [x0, some (.ref u), x2, x3, x4, x5, x6, x7, x8] (st) cu σ Q = (X z 214 1010 [x0, some (.ref u), x2, x3, x4, x5, x6, x7, x8] (.ref u :: st) cu σ Q) := by
  rw [x214_1009]
  rfl
theorem v214_1010 {z : P0} {st : List Value} {cu : Nat × Nat} {Q : Res → Mem → Prop} {σ : Mem} {x1 x2 x3 x4 x5 x6 x7 x8 : Option Value} {u : Nat} : X z 214 1010 [some (.ref u), x1, x2, x3, x4, x5, x6, x7, x8] (st) cu σ Q = (X z 214 1011 [some (.ref u), x1, x2, x3, x4, x5, x6, x7, x8] (.ref u :: st) cu σ Q) := by
  rw [x214_1010]
  rfl
theorem v214_1011 {z : P0} {st : List Value} {cu : Nat × Nat} {Q : Res → Mem → Prop} {σ : Mem} {x0 x1 x2 x3 x5 x6 x7 x8 : Option Value} {u : Int32} : X z 214 1011 [x0, x1, x2, x3, some (.int u), x5, x6, x7, x8] (st) cu σ Q = (X z 214 1013 [x0, x1, x2, x3, some (.int u), x5, x6, x7, x8] (.int u :: st) cu σ Q) := by
  rw [x214_1011]
  rfl
theorem v214_1013 {z : P0} {st : List Value} {cu : Nat × Nat} {Q : Res → Mem → Prop} {σ : Mem} {x0 x1 x2 x3 x4 x5 x6 x7 x8 : Option Value} : X z 214 1013 [x0, x1, x2, x3, x4, x5, x6, x7, x8] (st) cu σ Q = (X z 214 1014 [x0, x1, x2, x3, x4, x5, x6, x7, x8] (.int (nI 1) :: st) cu σ Q) := by
  rw [x214_1013]
  rfl
theorem v214_1014 {z : P0} {st : List Value} {cu : Nat × Nat} {Q : Res → Mem → Prop} {σ : Mem} {x0 x1 x2 x3 x4 x5 x6 x7 x8 : Option Value} {u v : Int32} : X z 214 1014 [x0, x1, x2, x3, x4, x5, x6, x7, x8] (.int v :: .int u :: st) cu σ Q = (X z 214 1015 [x0, x1, x2, x3, x4, x5, x6, x7, x8] (.int (u + v) :: st) cu σ Q) := by
  rw [x214_1014]
  rfl
theorem v214_1015 {z : P0} {st : List Value} {cu : Nat × Nat} {Q : Res → Mem → Prop} {K : Nat → Nat × Nat} {I : Nat → Nat → Int32} {R : Nat → Nat → Option Nat} {L : Nat → Nat → Int64} {sz : Nat} {ex : Bool} {x0 x1 x2 x3 x4 x5 x6 x7 x8 : Option Value} {u : Nat} {v : Int32} : X z 214 1015 [x0, x1, x2, x3, x4, x5, x6, x7, x8] (.int v :: .ref u :: st) cu (K, I, R, L, sz, ex) Q = (((K u).1 = 20 ∨ (K u).1 = 50) ∧ vp_in v (K u).2 ∧ X z 214 1016 [x0, x1, x2, x3, x4, x5, x6, x7, x8] (.int (I u v.toNatClampNeg) :: st) cu (K, I, R, L, sz, ex) Q) := by
  rw [x214_1015]
  rfl
theorem v214_1016 {z : P0} {st : List Value} {cu : Nat × Nat} {Q : Res → Mem → Prop} {σ : Mem} {x1 x2 x3 x4 x5 x6 x7 x8 : Option Value} {u : Nat} : X z 214 1016 [some (.ref u), x1, x2, x3, x4, x5, x6, x7, x8] (st) cu σ Q = (X z 214 1017 [some (.ref u), x1, x2, x3, x4, x5, x6, x7, x8] (.ref u :: st) cu σ Q) := by
  rw [x214_1016]
  rfl
theorem v214_1017 {z : P0} {st : List Value} {cu : Nat × Nat} {Q : Res → Mem → Prop} {σ : Mem} {x0 x1 x2 x3 x5 x6 x7 x8 : Option Value} {u : Int32} : X z 214 1017 [x0, x1, x2, x3, some (.int u), x5, x6, x7, x8] (st) cu σ Q = (X z 214 1019 [x0, x1, x2, x3, some (.int u), x5, x6, x7, x8] (.int u :: st) cu σ Q) := by
  rw [x214_1017]
  rfl
theorem v214_1019 {z : P0} {st : List Value} {cu : Nat × Nat} {Q : Res → Mem → Prop} {σ : Mem} {x0 x1 x2 x3 x4 x5 x6 x7 x8 : Option Value} : X z 214 1019 [x0, x1, x2, x3, x4, x5, x6, x7, x8] (st) cu σ Q = (X z 214 1020 [x0, x1, x2, x3, x4, x5, x6, x7, x8] (.int (nI 2) :: st) cu σ Q) := by
  rw [x214_1019]
  rfl
theorem v214_1020 {z : P0} {st : List Value} {cu : Nat × Nat} {Q : Res → Mem → Prop} {σ : Mem} {x0 x1 x2 x3 x4 x5 x6 x7 x8 : Option Value} {u v : Int32} : X z 214 1020 [x0, x1, x2, x3, x4, x5, x6, x7, x8] (.int v :: .int u :: st) cu σ Q = (X z 214 1021 [x0, x1, x2, x3, x4, x5, x6, x7, x8] (.int (u + v) :: st) cu σ Q) := by
  rw [x214_1020]
  rfl
theorem v214_1021 {z : P0} {st : List Value} {cu : Nat × Nat} {Q : Res → Mem → Prop} {K : Nat → Nat × Nat} {I : Nat → Nat → Int32} {R : Nat → Nat → Option Nat} {L : Nat → Nat → Int64} {sz : Nat} {ex : Bool} {x0 x1 x2 x3 x4 x5 x6 x7 x8 : Option Value} {u : Nat} {v : Int32} : X z 214 1021 [x0, x1, x2, x3, x4, x5, x6, x7, x8] (.int v :: .ref u :: st) cu (K, I, R, L, sz, ex) Q = (((K u).1 = 20 ∨ (K u).1 = 50) ∧ vp_in v (K u).2 ∧ X z 214 1022 [x0, x1, x2, x3, x4, x5, x6, x7, x8] (.int (I u v.toNatClampNeg) :: st) cu (K, I, R, L, sz, ex) Q) := by
  rw [x214_1021]
  rfl
theorem v214_1022 {z : P0} {st : List Value} {cu : Nat × Nat} {Q : Res → Mem → Prop} {σ : Mem} {x0 x1 x2 x4 x5 x6 x7 x8 : Option Value} {u : Nat} : X z 214 1022 [x0, x1, x2, some (.ref u), x4, x5, x6, x7, x8] (st) cu σ Q = (X z 214 1023 [x0, x1, x2, some (.ref u), x4, x5, x6, x7, x8] (.ref u :: st) cu σ Q) := by
  rw [x214_1022]
  rfl
theorem u214_1023 {z : P0} {ls : Lcs} {st : List Value} {c n : Nat} {K : Nat → Nat × Nat} {I : Nat → Nat → Int32} {R : Nat → Nat → Option Nat} {L : Nat → Nat → Int64} {sz : Nat} {ex : Bool} {Q : Res → Mem → Prop} {a0 : Nat} {a1 : Int32} {a2 : Int32} {a3 : Nat} : X z 214 1023 ls (.ref a3 :: .int a2 :: .int a1 :: .ref a0 :: st) (c, n) (K, I, R, L, sz, ex) Q = (wsum st ≤ 8 ∧ c + 1 ≤ 601024 ∧ n + 6 ≤ 7293034 ∧ X z 206 0 [some (.ref a0), some (.int a1), some (.int a2), some (.ref a3), none] [] (0, 0) (K, I, R, L, sz, ex) (aftr (X z) mT 214 1023 ls st (c + 1, n + 6) Q)) := v214_1023
theorem v214_1026 {z : P0} {st : List Value} {cu : Nat × Nat} {Q : Res → Mem → Prop} {σ : Mem} {x0 x1 x2 x3 x4 x5 x6 x7 x8 : Option Value} {u : Int32} : X z 214 1026 [x0, x1, x2, x3, x4, x5, x6, x7, x8] (.int u :: st) cu σ Q = (cat2 x4 = false ∧ X z 214 1028 [x0, x1, x2, x3, x4, some (.int u), x6, x7, x8] (st) cu σ Q) := by
  rw [x214_1026]
  obtain ⟨K, I, R, L, sz, ex⟩ := σ
  exact i_istore.trans sl_5
theorem v214_1028 {z : P0} {st : List Value} {cu : Nat × Nat} {Q : Res → Mem → Prop} {σ : Mem} {x0 x1 x3 x4 x5 x6 x7 x8 : Option Value} {u : Nat} : X z 214 1028 [x0, x1, some (.ref u), x3, x4, x5, x6, x7, x8] (st) cu σ Q = (X z 214 1029 [x0, x1, some (.ref u), x3, x4, x5, x6, x7, x8] (.ref u :: st) cu σ Q) := by
  rw [x214_1028]
  rfl
theorem v214_1029 {z : P0} {st : List Value} {cu : Nat × Nat} {Q : Res → Mem → Prop} {σ : Mem} {x1 x2 x3 x4 x5 x6 x7 x8 : Option Value} {u : Nat} : X z 214 1029 [some (.ref u), x1, x2, x3, x4, x5, x6, x7, x8] (st) cu σ Q = (X z 214 1030 [some (.ref u), x1, x2, x3, x4, x5, x6, x7, x8] (.ref u :: st) cu σ Q) := by
  rw [x214_1029]
  rfl
theorem v214_1030 {z : P0} {st : List Value} {cu : Nat × Nat} {Q : Res → Mem → Prop} {σ : Mem} {x0 x1 x2 x3 x5 x6 x7 x8 : Option Value} {u : Int32} : X z 214 1030 [x0, x1, x2, x3, some (.int u), x5, x6, x7, x8] (st) cu σ Q = (X z 214 1032 [x0, x1, x2, x3, some (.int u), x5, x6, x7, x8] (.int u :: st) cu σ Q) := by
  rw [x214_1030]
  rfl
theorem v214_1032 {z : P0} {st : List Value} {cu : Nat × Nat} {Q : Res → Mem → Prop} {σ : Mem} {x0 x1 x2 x3 x4 x5 x6 x7 x8 : Option Value} : X z 214 1032 [x0, x1, x2, x3, x4, x5, x6, x7, x8] (st) cu σ Q = (X z 214 1033 [x0, x1, x2, x3, x4, x5, x6, x7, x8] (.int (nI 1) :: st) cu σ Q) := by
  rw [x214_1032]
  rfl
theorem v214_1033 {z : P0} {st : List Value} {cu : Nat × Nat} {Q : Res → Mem → Prop} {σ : Mem} {x0 x1 x2 x3 x4 x5 x6 x7 x8 : Option Value} {u v : Int32} : X z 214 1033 [x0, x1, x2, x3, x4, x5, x6, x7, x8] (.int v :: .int u :: st) cu σ Q = (X z 214 1034 [x0, x1, x2, x3, x4, x5, x6, x7, x8] (.int (u + v) :: st) cu σ Q) := by
  rw [x214_1033]
  rfl
theorem v214_1034 {z : P0} {st : List Value} {cu : Nat × Nat} {Q : Res → Mem → Prop} {K : Nat → Nat × Nat} {I : Nat → Nat → Int32} {R : Nat → Nat → Option Nat} {L : Nat → Nat → Int64} {sz : Nat} {ex : Bool} {x0 x1 x2 x3 x4 x5 x6 x7 x8 : Option Value} {u : Nat} {v : Int32} : X z 214 1034 [x0, x1, x2, x3, x4, x5, x6, x7, x8] (.int v :: .ref u :: st) cu (K, I, R, L, sz, ex) Q = (((K u).1 = 20 ∨ (K u).1 = 50) ∧ vp_in v (K u).2 ∧ X z 214 1035 [x0, x1, x2, x3, x4, x5, x6, x7, x8] (.int (I u v.toNatClampNeg) :: st) cu (K, I, R, L, sz, ex) Q) := by
  rw [x214_1034]
  rfl
theorem v214_1035 {z : P0} {st : List Value} {cu : Nat × Nat} {Q : Res → Mem → Prop} {σ : Mem} {x1 x2 x3 x4 x5 x6 x7 x8 : Option Value} {u : Nat} : X z 214 1035 [some (.ref u), x1, x2, x3, x4, x5, x6, x7, x8] (st) cu σ Q = (X z 214 1036 [some (.ref u), x1, x2, x3, x4, x5, x6, x7, x8] (.ref u :: st) cu σ Q) := by
  rw [x214_1035]
  rfl
theorem v214_1036 {z : P0} {st : List Value} {cu : Nat × Nat} {Q : Res → Mem → Prop} {σ : Mem} {x0 x1 x2 x3 x5 x6 x7 x8 : Option Value} {u : Int32} : X z 214 1036 [x0, x1, x2, x3, some (.int u), x5, x6, x7, x8] (st) cu σ Q = (X z 214 1038 [x0, x1, x2, x3, some (.int u), x5, x6, x7, x8] (.int u :: st) cu σ Q) := by
  rw [x214_1036]
  rfl
theorem v214_1038 {z : P0} {st : List Value} {cu : Nat × Nat} {Q : Res → Mem → Prop} {σ : Mem} {x0 x1 x2 x3 x4 x5 x6 x7 x8 : Option Value} : X z 214 1038 [x0, x1, x2, x3, x4, x5, x6, x7, x8] (st) cu σ Q = (X z 214 1039 [x0, x1, x2, x3, x4, x5, x6, x7, x8] (.int (nI 2) :: st) cu σ Q) := by
  rw [x214_1038]
  rfl
theorem v214_1039 {z : P0} {st : List Value} {cu : Nat × Nat} {Q : Res → Mem → Prop} {σ : Mem} {x0 x1 x2 x3 x4 x5 x6 x7 x8 : Option Value} {u v : Int32} : X z 214 1039 [x0, x1, x2, x3, x4, x5, x6, x7, x8] (.int v :: .int u :: st) cu σ Q = (X z 214 1040 [x0, x1, x2, x3, x4, x5, x6, x7, x8] (.int (u + v) :: st) cu σ Q) := by
  rw [x214_1039]
  rfl
theorem v214_1040 {z : P0} {st : List Value} {cu : Nat × Nat} {Q : Res → Mem → Prop} {K : Nat → Nat × Nat} {I : Nat → Nat → Int32} {R : Nat → Nat → Option Nat} {L : Nat → Nat → Int64} {sz : Nat} {ex : Bool} {x0 x1 x2 x3 x4 x5 x6 x7 x8 : Option Value} {u : Nat} {v : Int32} : X z 214 1040 [x0, x1, x2, x3, x4, x5, x6, x7, x8] (.int v :: .ref u :: st) cu (K, I, R, L, sz, ex) Q = (((K u).1 = 20 ∨ (K u).1 = 50) ∧ vp_in v (K u).2 ∧ X z 214 1041 [x0, x1, x2, x3, x4, x5, x6, x7, x8] (.int (I u v.toNatClampNeg) :: st) cu (K, I, R, L, sz, ex) Q) := by
  rw [x214_1040]
  rfl
theorem u214_1041 {z : P0} {ls : Lcs} {st : List Value} {c n : Nat} {K : Nat → Nat × Nat} {I : Nat → Nat → Int32} {R : Nat → Nat → Option Nat} {L : Nat → Nat → Int64} {sz : Nat} {ex : Bool} {Q : Res → Mem → Prop} {x : Nat} {a0 : Int32} {a1 : Int32} : X z 214 1041 ls (.int a1 :: .int a0 :: .ref x :: st) (c, n) (K, I, R, L, sz, ex) Q = ((K x).1 = 111 ∧ wsum st ≤ 8 ∧ c + 0 ≤ 601024 ∧ n + 0 ≤ 7293034 ∧ X z 160 0 [some (.ref x), some (.int a0), some (.int a1)] [] (0, 0) (K, I, R, L, sz, ex) (aftr (X z) mT 214 1041 ls st (c + 0, n + 0) Q)) := v214_1041
theorem v214_1044 {z : P0} {st : List Value} {cu : Nat × Nat} {Q : Res → Mem → Prop} {σ : Mem} {x0 x1 x2 x3 x4 x5 x6 x7 x8 : Option Value} {u : Int32} : X z 214 1044 [x0, x1, x2, x3, x4, x5, x6, x7, x8] (.int u :: st) cu σ Q = (cat2 x5 = false ∧ X z 214 1046 [x0, x1, x2, x3, x4, x5, some (.int u), x7, x8] (st) cu σ Q) := by
  rw [x214_1044]
  obtain ⟨K, I, R, L, sz, ex⟩ := σ
  exact i_istore.trans sl_6
theorem v214_1046 {z : P0} {st : List Value} {cu : Nat × Nat} {Q : Res → Mem → Prop} {σ : Mem} {x0 x1 x3 x4 x5 x6 x7 x8 : Option Value} {u : Nat} : X z 214 1046 [x0, x1, some (.ref u), x3, x4, x5, x6, x7, x8] (st) cu σ Q = (X z 214 1047 [x0, x1, some (.ref u), x3, x4, x5, x6, x7, x8] (.ref u :: st) cu σ Q) := by
  rw [x214_1046]
  rfl
theorem u214_1047 {z : P0} {ls : Lcs} {st : List Value} {c n : Nat} {K : Nat → Nat × Nat} {I : Nat → Nat → Int32} {R : Nat → Nat → Option Nat} {L : Nat → Nat → Int64} {sz : Nat} {ex : Bool} {Q : Res → Mem → Prop} {x : Nat} : X z 214 1047 ls (.ref x :: st) (c, n) (K, I, R, L, sz, ex) Q = ((K x).1 = 111 ∧ wsum st ≤ 8 ∧ c + 0 ≤ 601024 ∧ n + 0 ≤ 7293034 ∧ X z 105 0 [some (.ref x)] [] (0, 0) (K, I, R, L, sz, ex) (aftr (X z) mT 214 1047 ls st (c + 0, n + 0) Q)) := v214_1047
theorem v214_1050 {z : P0} {st : List Value} {cu : Nat × Nat} {Q : Res → Mem → Prop} {σ : Mem} {x0 x1 x2 x3 x4 x6 x7 x8 : Option Value} {u : Int32} : X z 214 1050 [x0, x1, x2, x3, x4, some (.int u), x6, x7, x8] (st) cu σ Q = (X z 214 1052 [x0, x1, x2, x3, x4, some (.int u), x6, x7, x8] (.int u :: st) cu σ Q) := by
  rw [x214_1050]
  rfl
theorem v214_1052 {z : P0} {st : List Value} {cu : Nat × Nat} {Q : Res → Mem → Prop} {σ : Mem} {x0 x1 x2 x3 x4 x5 x6 x7 x8 : Option Value} {u v : Int32} : X z 214 1052 [x0, x1, x2, x3, x4, x5, x6, x7, x8] (.int v :: .int u :: st) cu σ Q = (if u = v then X z 214 1057 [x0, x1, x2, x3, x4, x5, x6, x7, x8] (st) cu σ Q else X z 214 1055 [x0, x1, x2, x3, x4, x5, x6, x7, x8] (st) cu σ Q) := by
  rw [x214_1052]
  obtain ⟨K, I, R, L, sz, ex⟩ := σ
  exact br_ite
theorem v214_1055 {z : P0} {st : List Value} {cu : Nat × Nat} {Q : Res → Mem → Prop} {σ : Mem} {x0 x1 x2 x3 x4 x5 x6 x7 x8 : Option Value} : X z 214 1055 [x0, x1, x2, x3, x4, x5, x6, x7, x8] (st) cu σ Q = (X z 214 1056 [x0, x1, x2, x3, x4, x5, x6, x7, x8] (.int (nI 0) :: st) cu σ Q) := by
  rw [x214_1055]
  rfl
theorem v214_1056 {z : P0} {cu : Nat × Nat} {Q : Res → Mem → Prop} {σ : Mem} {x0 x1 x2 x3 x4 x5 x6 x7 x8 : Option Value} {v : Int32} : X z 214 1056 [x0, x1, x2, x3, x4, x5, x6, x7, x8] ([.int v]) cu σ Q = ((v = nI 0 ∨ v = nI 1) ∧ Q (.inl (some (.int v))) σ) := by
  rw [x214_1056]
  rw [nI_0, one1]
  rfl
theorem v214_1057 {z : P0} {st : List Value} {cu : Nat × Nat} {Q : Res → Mem → Prop} {σ : Mem} {x0 x1 x2 x3 x4 x6 x7 x8 : Option Value} {u : Int32} : X z 214 1057 [x0, x1, x2, x3, x4, some (.int u), x6, x7, x8] (st) cu σ Q = (X z 214 1059 [x0, x1, x2, x3, x4, some (.int u), x6, x7, x8] (.int u :: st) cu σ Q) := by
  rw [x214_1057]
  rfl
theorem v214_1059 {z : P0} {st : List Value} {cu : Nat × Nat} {Q : Res → Mem → Prop} {σ : Mem} {x0 x1 x2 x3 x4 x5 x6 x7 x8 : Option Value} {u : Int32} : X z 214 1059 [x0, x1, x2, x3, x4, x5, x6, x7, x8] (.int u :: st) cu σ Q = (if u = nI 0 then X z 214 1062 [x0, x1, x2, x3, x4, x5, x6, x7, x8] (st) cu σ Q else X z 214 1074 [x0, x1, x2, x3, x4, x5, x6, x7, x8] (st) cu σ Q) := by
  rw [x214_1059]
  rw [nI_0]
  obtain ⟨K, I, R, L, sz, ex⟩ := σ
  exact br_ne
theorem v214_1062 {z : P0} {st : List Value} {cu : Nat × Nat} {Q : Res → Mem → Prop} {σ : Mem} {x0 x1 x2 x4 x5 x6 x7 x8 : Option Value} {u : Nat} : X z 214 1062 [x0, x1, x2, some (.ref u), x4, x5, x6, x7, x8] (st) cu σ Q = (X z 214 1063 [x0, x1, x2, some (.ref u), x4, x5, x6, x7, x8] (.ref u :: st) cu σ Q) := by
  rw [x214_1062]
  rfl
theorem v214_1063 {z : P0} {st : List Value} {cu : Nat × Nat} {Q : Res → Mem → Prop} {σ : Mem} {x0 x1 x2 x3 x4 x5 x6 x7 x8 : Option Value} : X z 214 1063 [x0, x1, x2, x3, x4, x5, x6, x7, x8] (st) cu σ Q = (X z 214 1064 [x0, x1, x2, x3, x4, x5, x6, x7, x8] (.int (nI 0) :: st) cu σ Q) := by
  rw [x214_1063]
  rfl
theorem v214_1064 {z : P0} {st : List Value} {cu : Nat × Nat} {Q : Res → Mem → Prop} {K : Nat → Nat × Nat} {I : Nat → Nat → Int32} {R : Nat → Nat → Option Nat} {L : Nat → Nat → Int64} {sz : Nat} {ex : Bool} {x0 x1 x2 x3 x4 x5 x6 x7 x8 : Option Value} {u : Nat} {v : Int32} : X z 214 1064 [x0, x1, x2, x3, x4, x5, x6, x7, x8] (.int v :: .ref u :: st) cu (K, I, R, L, sz, ex) Q = ((K u).1 = 21 ∧ vp_in v (K u).2 ∧ X z 214 1065 [x0, x1, x2, x3, x4, x5, x6, x7, x8] (.long (L u v.toNatClampNeg) :: st) cu (K, I, R, L, sz, ex) Q) := by
  rw [x214_1064]
  rfl
theorem v214_1065 {z : P0} {st : List Value} {cu : Nat × Nat} {Q : Res → Mem → Prop} {σ : Mem} {x0 x1 x2 x3 x4 x5 x7 x8 : Option Value} {u : Int32} : X z 214 1065 [x0, x1, x2, x3, x4, x5, some (.int u), x7, x8] (st) cu σ Q = (X z 214 1067 [x0, x1, x2, x3, x4, x5, some (.int u), x7, x8] (.int u :: st) cu σ Q) := by
  rw [x214_1065]
  rfl
theorem v214_1067 {z : P0} {st : List Value} {cu : Nat × Nat} {Q : Res → Mem → Prop} {σ : Mem} {x0 x1 x2 x3 x4 x5 x6 x7 x8 : Option Value} {u : Int32} : X z 214 1067 [x0, x1, x2, x3, x4, x5, x6, x7, x8] (.int u :: st) cu σ Q = (X z 214 1068 [x0, x1, x2, x3, x4, x5, x6, x7, x8] (.long u.toInt64 :: st) cu σ Q) := by
  rw [x214_1067]
  rfl
theorem v214_1068 {z : P0} {st : List Value} {cu : Nat × Nat} {Q : Res → Mem → Prop} {σ : Mem} {x0 x1 x2 x3 x4 x5 x6 x7 x8 : Option Value} {u v : Int64} : X z 214 1068 [x0, x1, x2, x3, x4, x5, x6, x7, x8] (.long v :: .long u :: st) cu σ Q = (X z 214 1069 [x0, x1, x2, x3, x4, x5, x6, x7, x8] (.int (lg_cmp u v) :: st) cu σ Q) := by
  rw [x214_1068]
  rfl
theorem v214_1069 {z : P0} {st : List Value} {cu : Nat × Nat} {Q : Res → Mem → Prop} {σ : Mem} {x0 x1 x2 x3 x4 x5 x6 x7 x8 : Option Value} {u : Int32} : X z 214 1069 [x0, x1, x2, x3, x4, x5, x6, x7, x8] (.int u :: st) cu σ Q = (if u = nI 0 then X z 214 1074 [x0, x1, x2, x3, x4, x5, x6, x7, x8] (st) cu σ Q else X z 214 1072 [x0, x1, x2, x3, x4, x5, x6, x7, x8] (st) cu σ Q) := by
  rw [x214_1069]
  rw [nI_0]
  obtain ⟨K, I, R, L, sz, ex⟩ := σ
  exact br_ite
theorem v214_1072 {z : P0} {st : List Value} {cu : Nat × Nat} {Q : Res → Mem → Prop} {σ : Mem} {x0 x1 x2 x3 x4 x5 x6 x7 x8 : Option Value} : X z 214 1072 [x0, x1, x2, x3, x4, x5, x6, x7, x8] (st) cu σ Q = (X z 214 1073 [x0, x1, x2, x3, x4, x5, x6, x7, x8] (.int (nI 0) :: st) cu σ Q) := by
  rw [x214_1072]
  rfl
theorem v214_1073 {z : P0} {cu : Nat × Nat} {Q : Res → Mem → Prop} {σ : Mem} {x0 x1 x2 x3 x4 x5 x6 x7 x8 : Option Value} {v : Int32} : X z 214 1073 [x0, x1, x2, x3, x4, x5, x6, x7, x8] ([.int v]) cu σ Q = ((v = nI 0 ∨ v = nI 1) ∧ Q (.inl (some (.int v))) σ) := by
  rw [x214_1073]
  rw [nI_0, one1]
  rfl
theorem v214_1074 {z : P0} {st : List Value} {cu : Nat × Nat} {Q : Res → Mem → Prop} {σ : Mem} {x0 x1 x2 x3 x4 x5 x6 x7 x8 : Option Value} : X z 214 1074 [x0, x1, x2, x3, x4, x5, x6, x7, x8] (st) cu σ Q = (X z 214 1598 [x0, x1, x2, x3, x4, x5, x6, x7, x8] (st) cu σ Q) := by
  rw [x214_1074]
  rfl
theorem v214_1077 {z : P0} {st : List Value} {cu : Nat × Nat} {Q : Res → Mem → Prop} {σ : Mem} {x0 x2 x3 x4 x5 x6 x7 x8 : Option Value} {u : Nat} : X z 214 1077 [x0, some (.ref u), x2, x3, x4, x5, x6, x7, x8] (st) cu σ Q = (X z 214 1078 [x0, some (.ref u), x2, x3, x4, x5, x6, x7, x8] (.ref u :: st) cu σ Q) := by
  rw [x214_1077]
  rfl
theorem v214_1078 {z : P0} {st : List Value} {cu : Nat × Nat} {Q : Res → Mem → Prop} {σ : Mem} {x1 x2 x3 x4 x5 x6 x7 x8 : Option Value} {u : Nat} : X z 214 1078 [some (.ref u), x1, x2, x3, x4, x5, x6, x7, x8] (st) cu σ Q = (X z 214 1079 [some (.ref u), x1, x2, x3, x4, x5, x6, x7, x8] (.ref u :: st) cu σ Q) := by
  rw [x214_1078]
  rfl
theorem v214_1079 {z : P0} {st : List Value} {cu : Nat × Nat} {Q : Res → Mem → Prop} {σ : Mem} {x0 x1 x2 x3 x5 x6 x7 x8 : Option Value} {u : Int32} : X z 214 1079 [x0, x1, x2, x3, some (.int u), x5, x6, x7, x8] (st) cu σ Q = (X z 214 1081 [x0, x1, x2, x3, some (.int u), x5, x6, x7, x8] (.int u :: st) cu σ Q) := by
  rw [x214_1079]
  rfl
theorem v214_1081 {z : P0} {st : List Value} {cu : Nat × Nat} {Q : Res → Mem → Prop} {σ : Mem} {x0 x1 x2 x3 x4 x5 x6 x7 x8 : Option Value} : X z 214 1081 [x0, x1, x2, x3, x4, x5, x6, x7, x8] (st) cu σ Q = (X z 214 1082 [x0, x1, x2, x3, x4, x5, x6, x7, x8] (.int (nI 1) :: st) cu σ Q) := by
  rw [x214_1081]
  rfl
theorem v214_1082 {z : P0} {st : List Value} {cu : Nat × Nat} {Q : Res → Mem → Prop} {σ : Mem} {x0 x1 x2 x3 x4 x5 x6 x7 x8 : Option Value} {u v : Int32} : X z 214 1082 [x0, x1, x2, x3, x4, x5, x6, x7, x8] (.int v :: .int u :: st) cu σ Q = (X z 214 1083 [x0, x1, x2, x3, x4, x5, x6, x7, x8] (.int (u + v) :: st) cu σ Q) := by
  rw [x214_1082]
  rfl
theorem v214_1083 {z : P0} {st : List Value} {cu : Nat × Nat} {Q : Res → Mem → Prop} {K : Nat → Nat × Nat} {I : Nat → Nat → Int32} {R : Nat → Nat → Option Nat} {L : Nat → Nat → Int64} {sz : Nat} {ex : Bool} {x0 x1 x2 x3 x4 x5 x6 x7 x8 : Option Value} {u : Nat} {v : Int32} : X z 214 1083 [x0, x1, x2, x3, x4, x5, x6, x7, x8] (.int v :: .ref u :: st) cu (K, I, R, L, sz, ex) Q = (((K u).1 = 20 ∨ (K u).1 = 50) ∧ vp_in v (K u).2 ∧ X z 214 1084 [x0, x1, x2, x3, x4, x5, x6, x7, x8] (.int (I u v.toNatClampNeg) :: st) cu (K, I, R, L, sz, ex) Q) := by
  rw [x214_1083]
  rfl
theorem v214_1084 {z : P0} {st : List Value} {cu : Nat × Nat} {Q : Res → Mem → Prop} {σ : Mem} {x1 x2 x3 x4 x5 x6 x7 x8 : Option Value} {u : Nat} : X z 214 1084 [some (.ref u), x1, x2, x3, x4, x5, x6, x7, x8] (st) cu σ Q = (X z 214 1085 [some (.ref u), x1, x2, x3, x4, x5, x6, x7, x8] (.ref u :: st) cu σ Q) := by
  rw [x214_1084]
  rfl
theorem v214_1085 {z : P0} {st : List Value} {cu : Nat × Nat} {Q : Res → Mem → Prop} {σ : Mem} {x0 x1 x2 x3 x5 x6 x7 x8 : Option Value} {u : Int32} : X z 214 1085 [x0, x1, x2, x3, some (.int u), x5, x6, x7, x8] (st) cu σ Q = (X z 214 1087 [x0, x1, x2, x3, some (.int u), x5, x6, x7, x8] (.int u :: st) cu σ Q) := by
  rw [x214_1085]
  rfl
theorem v214_1087 {z : P0} {st : List Value} {cu : Nat × Nat} {Q : Res → Mem → Prop} {σ : Mem} {x0 x1 x2 x3 x4 x5 x6 x7 x8 : Option Value} : X z 214 1087 [x0, x1, x2, x3, x4, x5, x6, x7, x8] (st) cu σ Q = (X z 214 1088 [x0, x1, x2, x3, x4, x5, x6, x7, x8] (.int (nI 2) :: st) cu σ Q) := by
  rw [x214_1087]
  rfl
theorem v214_1088 {z : P0} {st : List Value} {cu : Nat × Nat} {Q : Res → Mem → Prop} {σ : Mem} {x0 x1 x2 x3 x4 x5 x6 x7 x8 : Option Value} {u v : Int32} : X z 214 1088 [x0, x1, x2, x3, x4, x5, x6, x7, x8] (.int v :: .int u :: st) cu σ Q = (X z 214 1089 [x0, x1, x2, x3, x4, x5, x6, x7, x8] (.int (u + v) :: st) cu σ Q) := by
  rw [x214_1088]
  rfl
theorem v214_1089 {z : P0} {st : List Value} {cu : Nat × Nat} {Q : Res → Mem → Prop} {K : Nat → Nat × Nat} {I : Nat → Nat → Int32} {R : Nat → Nat → Option Nat} {L : Nat → Nat → Int64} {sz : Nat} {ex : Bool} {x0 x1 x2 x3 x4 x5 x6 x7 x8 : Option Value} {u : Nat} {v : Int32} : X z 214 1089 [x0, x1, x2, x3, x4, x5, x6, x7, x8] (.int v :: .ref u :: st) cu (K, I, R, L, sz, ex) Q = (((K u).1 = 20 ∨ (K u).1 = 50) ∧ vp_in v (K u).2 ∧ X z 214 1090 [x0, x1, x2, x3, x4, x5, x6, x7, x8] (.int (I u v.toNatClampNeg) :: st) cu (K, I, R, L, sz, ex) Q) := by
  rw [x214_1089]
  rfl
theorem v214_1090 {z : P0} {st : List Value} {cu : Nat × Nat} {Q : Res → Mem → Prop} {σ : Mem} {x0 x1 x2 x4 x5 x6 x7 x8 : Option Value} {u : Nat} : X z 214 1090 [x0, x1, x2, some (.ref u), x4, x5, x6, x7, x8] (st) cu σ Q = (X z 214 1091 [x0, x1, x2, some (.ref u), x4, x5, x6, x7, x8] (.ref u :: st) cu σ Q) := by
  rw [x214_1090]
  rfl
theorem u214_1091 {z : P0} {ls : Lcs} {st : List Value} {c n : Nat} {K : Nat → Nat × Nat} {I : Nat → Nat → Int32} {R : Nat → Nat → Option Nat} {L : Nat → Nat → Int64} {sz : Nat} {ex : Bool} {Q : Res → Mem → Prop} {a0 : Nat} {a1 : Int32} {a2 : Int32} {a3 : Nat} : X z 214 1091 ls (.ref a3 :: .int a2 :: .int a1 :: .ref a0 :: st) (c, n) (K, I, R, L, sz, ex) Q = (wsum st ≤ 8 ∧ c + 1 ≤ 601024 ∧ n + 6 ≤ 7293034 ∧ X z 207 0 [some (.ref a0), some (.int a1), some (.int a2), some (.ref a3), none] [] (0, 0) (K, I, R, L, sz, ex) (aftr (X z) mT 214 1091 ls st (c + 1, n + 6) Q)) := v214_1091
theorem v214_1094 {z : P0} {st : List Value} {cu : Nat × Nat} {Q : Res → Mem → Prop} {σ : Mem} {x0 x1 x2 x3 x4 x5 x6 x7 x8 : Option Value} {u : Int32} : X z 214 1094 [x0, x1, x2, x3, x4, x5, x6, x7, x8] (.int u :: st) cu σ Q = (cat2 x4 = false ∧ X z 214 1096 [x0, x1, x2, x3, x4, some (.int u), x6, x7, x8] (st) cu σ Q) := by
  rw [x214_1094]
  obtain ⟨K, I, R, L, sz, ex⟩ := σ
  exact i_istore.trans sl_5
theorem v214_1096 {z : P0} {st : List Value} {cu : Nat × Nat} {Q : Res → Mem → Prop} {σ : Mem} {x0 x1 x3 x4 x5 x6 x7 x8 : Option Value} {u : Nat} : X z 214 1096 [x0, x1, some (.ref u), x3, x4, x5, x6, x7, x8] (st) cu σ Q = (X z 214 1097 [x0, x1, some (.ref u), x3, x4, x5, x6, x7, x8] (.ref u :: st) cu σ Q) := by
  rw [x214_1096]
  rfl
theorem v214_1097 {z : P0} {st : List Value} {cu : Nat × Nat} {Q : Res → Mem → Prop} {σ : Mem} {x1 x2 x3 x4 x5 x6 x7 x8 : Option Value} {u : Nat} : X z 214 1097 [some (.ref u), x1, x2, x3, x4, x5, x6, x7, x8] (st) cu σ Q = (X z 214 1098 [some (.ref u), x1, x2, x3, x4, x5, x6, x7, x8] (.ref u :: st) cu σ Q) := by
  rw [x214_1097]
  rfl
theorem v214_1098 {z : P0} {st : List Value} {cu : Nat × Nat} {Q : Res → Mem → Prop} {σ : Mem} {x0 x1 x2 x3 x5 x6 x7 x8 : Option Value} {u : Int32} : X z 214 1098 [x0, x1, x2, x3, some (.int u), x5, x6, x7, x8] (st) cu σ Q = (X z 214 1100 [x0, x1, x2, x3, some (.int u), x5, x6, x7, x8] (.int u :: st) cu σ Q) := by
  rw [x214_1098]
  rfl
theorem v214_1100 {z : P0} {st : List Value} {cu : Nat × Nat} {Q : Res → Mem → Prop} {σ : Mem} {x0 x1 x2 x3 x4 x5 x6 x7 x8 : Option Value} : X z 214 1100 [x0, x1, x2, x3, x4, x5, x6, x7, x8] (st) cu σ Q = (X z 214 1101 [x0, x1, x2, x3, x4, x5, x6, x7, x8] (.int (nI 1) :: st) cu σ Q) := by
  rw [x214_1100]
  rfl
theorem v214_1101 {z : P0} {st : List Value} {cu : Nat × Nat} {Q : Res → Mem → Prop} {σ : Mem} {x0 x1 x2 x3 x4 x5 x6 x7 x8 : Option Value} {u v : Int32} : X z 214 1101 [x0, x1, x2, x3, x4, x5, x6, x7, x8] (.int v :: .int u :: st) cu σ Q = (X z 214 1102 [x0, x1, x2, x3, x4, x5, x6, x7, x8] (.int (u + v) :: st) cu σ Q) := by
  rw [x214_1101]
  rfl
theorem v214_1102 {z : P0} {st : List Value} {cu : Nat × Nat} {Q : Res → Mem → Prop} {K : Nat → Nat × Nat} {I : Nat → Nat → Int32} {R : Nat → Nat → Option Nat} {L : Nat → Nat → Int64} {sz : Nat} {ex : Bool} {x0 x1 x2 x3 x4 x5 x6 x7 x8 : Option Value} {u : Nat} {v : Int32} : X z 214 1102 [x0, x1, x2, x3, x4, x5, x6, x7, x8] (.int v :: .ref u :: st) cu (K, I, R, L, sz, ex) Q = (((K u).1 = 20 ∨ (K u).1 = 50) ∧ vp_in v (K u).2 ∧ X z 214 1103 [x0, x1, x2, x3, x4, x5, x6, x7, x8] (.int (I u v.toNatClampNeg) :: st) cu (K, I, R, L, sz, ex) Q) := by
  rw [x214_1102]
  rfl
theorem v214_1103 {z : P0} {st : List Value} {cu : Nat × Nat} {Q : Res → Mem → Prop} {σ : Mem} {x1 x2 x3 x4 x5 x6 x7 x8 : Option Value} {u : Nat} : X z 214 1103 [some (.ref u), x1, x2, x3, x4, x5, x6, x7, x8] (st) cu σ Q = (X z 214 1104 [some (.ref u), x1, x2, x3, x4, x5, x6, x7, x8] (.ref u :: st) cu σ Q) := by
  rw [x214_1103]
  rfl
theorem v214_1104 {z : P0} {st : List Value} {cu : Nat × Nat} {Q : Res → Mem → Prop} {σ : Mem} {x0 x1 x2 x3 x5 x6 x7 x8 : Option Value} {u : Int32} : X z 214 1104 [x0, x1, x2, x3, some (.int u), x5, x6, x7, x8] (st) cu σ Q = (X z 214 1106 [x0, x1, x2, x3, some (.int u), x5, x6, x7, x8] (.int u :: st) cu σ Q) := by
  rw [x214_1104]
  rfl
theorem v214_1106 {z : P0} {st : List Value} {cu : Nat × Nat} {Q : Res → Mem → Prop} {σ : Mem} {x0 x1 x2 x3 x4 x5 x6 x7 x8 : Option Value} : X z 214 1106 [x0, x1, x2, x3, x4, x5, x6, x7, x8] (st) cu σ Q = (X z 214 1107 [x0, x1, x2, x3, x4, x5, x6, x7, x8] (.int (nI 2) :: st) cu σ Q) := by
  rw [x214_1106]
  rfl
theorem v214_1107 {z : P0} {st : List Value} {cu : Nat × Nat} {Q : Res → Mem → Prop} {σ : Mem} {x0 x1 x2 x3 x4 x5 x6 x7 x8 : Option Value} {u v : Int32} : X z 214 1107 [x0, x1, x2, x3, x4, x5, x6, x7, x8] (.int v :: .int u :: st) cu σ Q = (X z 214 1108 [x0, x1, x2, x3, x4, x5, x6, x7, x8] (.int (u + v) :: st) cu σ Q) := by
  rw [x214_1107]
  rfl
theorem v214_1108 {z : P0} {st : List Value} {cu : Nat × Nat} {Q : Res → Mem → Prop} {K : Nat → Nat × Nat} {I : Nat → Nat → Int32} {R : Nat → Nat → Option Nat} {L : Nat → Nat → Int64} {sz : Nat} {ex : Bool} {x0 x1 x2 x3 x4 x5 x6 x7 x8 : Option Value} {u : Nat} {v : Int32} : X z 214 1108 [x0, x1, x2, x3, x4, x5, x6, x7, x8] (.int v :: .ref u :: st) cu (K, I, R, L, sz, ex) Q = (((K u).1 = 20 ∨ (K u).1 = 50) ∧ vp_in v (K u).2 ∧ X z 214 1109 [x0, x1, x2, x3, x4, x5, x6, x7, x8] (.int (I u v.toNatClampNeg) :: st) cu (K, I, R, L, sz, ex) Q) := by
  rw [x214_1108]
  rfl
theorem u214_1109 {z : P0} {ls : Lcs} {st : List Value} {c n : Nat} {K : Nat → Nat × Nat} {I : Nat → Nat → Int32} {R : Nat → Nat → Option Nat} {L : Nat → Nat → Int64} {sz : Nat} {ex : Bool} {Q : Res → Mem → Prop} {x : Nat} {a0 : Int32} {a1 : Int32} : X z 214 1109 ls (.int a1 :: .int a0 :: .ref x :: st) (c, n) (K, I, R, L, sz, ex) Q = ((K x).1 = 111 ∧ wsum st ≤ 8 ∧ c + 0 ≤ 601024 ∧ n + 0 ≤ 7293034 ∧ X z 162 0 [some (.ref x), some (.int a0), some (.int a1)] [] (0, 0) (K, I, R, L, sz, ex) (aftr (X z) mT 214 1109 ls st (c + 0, n + 0) Q)) := v214_1109
theorem v214_1112 {z : P0} {st : List Value} {cu : Nat × Nat} {Q : Res → Mem → Prop} {σ : Mem} {x0 x1 x2 x3 x4 x5 x6 x7 x8 : Option Value} {u : Int32} : X z 214 1112 [x0, x1, x2, x3, x4, x5, x6, x7, x8] (.int u :: st) cu σ Q = (cat2 x5 = false ∧ X z 214 1114 [x0, x1, x2, x3, x4, x5, some (.int u), x7, x8] (st) cu σ Q) := by
  rw [x214_1112]
  obtain ⟨K, I, R, L, sz, ex⟩ := σ
  exact i_istore.trans sl_6
theorem v214_1114 {z : P0} {st : List Value} {cu : Nat × Nat} {Q : Res → Mem → Prop} {σ : Mem} {x0 x1 x3 x4 x5 x6 x7 x8 : Option Value} {u : Nat} : X z 214 1114 [x0, x1, some (.ref u), x3, x4, x5, x6, x7, x8] (st) cu σ Q = (X z 214 1115 [x0, x1, some (.ref u), x3, x4, x5, x6, x7, x8] (.ref u :: st) cu σ Q) := by
  rw [x214_1114]
  rfl
theorem u214_1115 {z : P0} {ls : Lcs} {st : List Value} {c n : Nat} {K : Nat → Nat × Nat} {I : Nat → Nat → Int32} {R : Nat → Nat → Option Nat} {L : Nat → Nat → Int64} {sz : Nat} {ex : Bool} {Q : Res → Mem → Prop} {x : Nat} : X z 214 1115 ls (.ref x :: st) (c, n) (K, I, R, L, sz, ex) Q = ((K x).1 = 111 ∧ wsum st ≤ 8 ∧ c + 0 ≤ 601024 ∧ n + 0 ≤ 7293034 ∧ X z 105 0 [some (.ref x)] [] (0, 0) (K, I, R, L, sz, ex) (aftr (X z) mT 214 1115 ls st (c + 0, n + 0) Q)) := v214_1115
theorem v214_1118 {z : P0} {st : List Value} {cu : Nat × Nat} {Q : Res → Mem → Prop} {σ : Mem} {x0 x1 x2 x3 x4 x6 x7 x8 : Option Value} {u : Int32} : X z 214 1118 [x0, x1, x2, x3, x4, some (.int u), x6, x7, x8] (st) cu σ Q = (X z 214 1120 [x0, x1, x2, x3, x4, some (.int u), x6, x7, x8] (.int u :: st) cu σ Q) := by
  rw [x214_1118]
  rfl
theorem v214_1120 {z : P0} {st : List Value} {cu : Nat × Nat} {Q : Res → Mem → Prop} {σ : Mem} {x0 x1 x2 x3 x4 x5 x6 x7 x8 : Option Value} {u v : Int32} : X z 214 1120 [x0, x1, x2, x3, x4, x5, x6, x7, x8] (.int v :: .int u :: st) cu σ Q = (if u = v then X z 214 1125 [x0, x1, x2, x3, x4, x5, x6, x7, x8] (st) cu σ Q else X z 214 1123 [x0, x1, x2, x3, x4, x5, x6, x7, x8] (st) cu σ Q) := by
  rw [x214_1120]
  obtain ⟨K, I, R, L, sz, ex⟩ := σ
  exact br_ite
theorem v214_1123 {z : P0} {st : List Value} {cu : Nat × Nat} {Q : Res → Mem → Prop} {σ : Mem} {x0 x1 x2 x3 x4 x5 x6 x7 x8 : Option Value} : X z 214 1123 [x0, x1, x2, x3, x4, x5, x6, x7, x8] (st) cu σ Q = (X z 214 1124 [x0, x1, x2, x3, x4, x5, x6, x7, x8] (.int (nI 0) :: st) cu σ Q) := by
  rw [x214_1123]
  rfl
theorem v214_1124 {z : P0} {cu : Nat × Nat} {Q : Res → Mem → Prop} {σ : Mem} {x0 x1 x2 x3 x4 x5 x6 x7 x8 : Option Value} {v : Int32} : X z 214 1124 [x0, x1, x2, x3, x4, x5, x6, x7, x8] ([.int v]) cu σ Q = ((v = nI 0 ∨ v = nI 1) ∧ Q (.inl (some (.int v))) σ) := by
  rw [x214_1124]
  rw [nI_0, one1]
  rfl
theorem v214_1125 {z : P0} {st : List Value} {cu : Nat × Nat} {Q : Res → Mem → Prop} {σ : Mem} {x0 x1 x2 x3 x4 x6 x7 x8 : Option Value} {u : Int32} : X z 214 1125 [x0, x1, x2, x3, x4, some (.int u), x6, x7, x8] (st) cu σ Q = (X z 214 1127 [x0, x1, x2, x3, x4, some (.int u), x6, x7, x8] (.int u :: st) cu σ Q) := by
  rw [x214_1125]
  rfl
theorem v214_1127 {z : P0} {st : List Value} {cu : Nat × Nat} {Q : Res → Mem → Prop} {σ : Mem} {x0 x1 x2 x3 x4 x5 x6 x7 x8 : Option Value} {u : Int32} : X z 214 1127 [x0, x1, x2, x3, x4, x5, x6, x7, x8] (.int u :: st) cu σ Q = (if u = nI 0 then X z 214 1130 [x0, x1, x2, x3, x4, x5, x6, x7, x8] (st) cu σ Q else X z 214 1142 [x0, x1, x2, x3, x4, x5, x6, x7, x8] (st) cu σ Q) := by
  rw [x214_1127]
  rw [nI_0]
  obtain ⟨K, I, R, L, sz, ex⟩ := σ
  exact br_ne
theorem v214_1130 {z : P0} {st : List Value} {cu : Nat × Nat} {Q : Res → Mem → Prop} {σ : Mem} {x0 x1 x2 x4 x5 x6 x7 x8 : Option Value} {u : Nat} : X z 214 1130 [x0, x1, x2, some (.ref u), x4, x5, x6, x7, x8] (st) cu σ Q = (X z 214 1131 [x0, x1, x2, some (.ref u), x4, x5, x6, x7, x8] (.ref u :: st) cu σ Q) := by
  rw [x214_1130]
  rfl
theorem v214_1131 {z : P0} {st : List Value} {cu : Nat × Nat} {Q : Res → Mem → Prop} {σ : Mem} {x0 x1 x2 x3 x4 x5 x6 x7 x8 : Option Value} : X z 214 1131 [x0, x1, x2, x3, x4, x5, x6, x7, x8] (st) cu σ Q = (X z 214 1132 [x0, x1, x2, x3, x4, x5, x6, x7, x8] (.int (nI 0) :: st) cu σ Q) := by
  rw [x214_1131]
  rfl
theorem v214_1132 {z : P0} {st : List Value} {cu : Nat × Nat} {Q : Res → Mem → Prop} {K : Nat → Nat × Nat} {I : Nat → Nat → Int32} {R : Nat → Nat → Option Nat} {L : Nat → Nat → Int64} {sz : Nat} {ex : Bool} {x0 x1 x2 x3 x4 x5 x6 x7 x8 : Option Value} {u : Nat} {v : Int32} : X z 214 1132 [x0, x1, x2, x3, x4, x5, x6, x7, x8] (.int v :: .ref u :: st) cu (K, I, R, L, sz, ex) Q = ((K u).1 = 21 ∧ vp_in v (K u).2 ∧ X z 214 1133 [x0, x1, x2, x3, x4, x5, x6, x7, x8] (.long (L u v.toNatClampNeg) :: st) cu (K, I, R, L, sz, ex) Q) := by
  rw [x214_1132]
  rfl
theorem v214_1133 {z : P0} {st : List Value} {cu : Nat × Nat} {Q : Res → Mem → Prop} {σ : Mem} {x0 x1 x2 x3 x4 x5 x7 x8 : Option Value} {u : Int32} : X z 214 1133 [x0, x1, x2, x3, x4, x5, some (.int u), x7, x8] (st) cu σ Q = (X z 214 1135 [x0, x1, x2, x3, x4, x5, some (.int u), x7, x8] (.int u :: st) cu σ Q) := by
  rw [x214_1133]
  rfl
theorem v214_1135 {z : P0} {st : List Value} {cu : Nat × Nat} {Q : Res → Mem → Prop} {σ : Mem} {x0 x1 x2 x3 x4 x5 x6 x7 x8 : Option Value} {u : Int32} : X z 214 1135 [x0, x1, x2, x3, x4, x5, x6, x7, x8] (.int u :: st) cu σ Q = (X z 214 1136 [x0, x1, x2, x3, x4, x5, x6, x7, x8] (.long u.toInt64 :: st) cu σ Q) := by
  rw [x214_1135]
  rfl
theorem v214_1136 {z : P0} {st : List Value} {cu : Nat × Nat} {Q : Res → Mem → Prop} {σ : Mem} {x0 x1 x2 x3 x4 x5 x6 x7 x8 : Option Value} {u v : Int64} : X z 214 1136 [x0, x1, x2, x3, x4, x5, x6, x7, x8] (.long v :: .long u :: st) cu σ Q = (X z 214 1137 [x0, x1, x2, x3, x4, x5, x6, x7, x8] (.int (lg_cmp u v) :: st) cu σ Q) := by
  rw [x214_1136]
  rfl
theorem v214_1137 {z : P0} {st : List Value} {cu : Nat × Nat} {Q : Res → Mem → Prop} {σ : Mem} {x0 x1 x2 x3 x4 x5 x6 x7 x8 : Option Value} {u : Int32} : X z 214 1137 [x0, x1, x2, x3, x4, x5, x6, x7, x8] (.int u :: st) cu σ Q = (if u = nI 0 then X z 214 1142 [x0, x1, x2, x3, x4, x5, x6, x7, x8] (st) cu σ Q else X z 214 1140 [x0, x1, x2, x3, x4, x5, x6, x7, x8] (st) cu σ Q) := by
  rw [x214_1137]
  rw [nI_0]
  obtain ⟨K, I, R, L, sz, ex⟩ := σ
  exact br_ite
theorem v214_1140 {z : P0} {st : List Value} {cu : Nat × Nat} {Q : Res → Mem → Prop} {σ : Mem} {x0 x1 x2 x3 x4 x5 x6 x7 x8 : Option Value} : X z 214 1140 [x0, x1, x2, x3, x4, x5, x6, x7, x8] (st) cu σ Q = (X z 214 1141 [x0, x1, x2, x3, x4, x5, x6, x7, x8] (.int (nI 0) :: st) cu σ Q) := by
  rw [x214_1140]
  rfl
theorem v214_1141 {z : P0} {cu : Nat × Nat} {Q : Res → Mem → Prop} {σ : Mem} {x0 x1 x2 x3 x4 x5 x6 x7 x8 : Option Value} {v : Int32} : X z 214 1141 [x0, x1, x2, x3, x4, x5, x6, x7, x8] ([.int v]) cu σ Q = ((v = nI 0 ∨ v = nI 1) ∧ Q (.inl (some (.int v))) σ) := by
  rw [x214_1141]
  rw [nI_0, one1]
  rfl
theorem v214_1142 {z : P0} {st : List Value} {cu : Nat × Nat} {Q : Res → Mem → Prop} {σ : Mem} {x0 x1 x2 x3 x4 x5 x6 x7 x8 : Option Value} : X z 214 1142 [x0, x1, x2, x3, x4, x5, x6, x7, x8] (st) cu σ Q = (X z 214 1598 [x0, x1, x2, x3, x4, x5, x6, x7, x8] (st) cu σ Q) := by
  rw [x214_1142]
  rfl
theorem v214_1145 {z : P0} {st : List Value} {cu : Nat × Nat} {Q : Res → Mem → Prop} {σ : Mem} {x0 x2 x3 x4 x5 x6 x7 x8 : Option Value} {u : Nat} : X z 214 1145 [x0, some (.ref u), x2, x3, x4, x5, x6, x7, x8] (st) cu σ Q = (X z 214 1146 [x0, some (.ref u), x2, x3, x4, x5, x6, x7, x8] (.ref u :: st) cu σ Q) := by
  rw [x214_1145]
  rfl
theorem v214_1146 {z : P0} {st : List Value} {cu : Nat × Nat} {Q : Res → Mem → Prop} {σ : Mem} {x1 x2 x3 x4 x5 x6 x7 x8 : Option Value} {u : Nat} : X z 214 1146 [some (.ref u), x1, x2, x3, x4, x5, x6, x7, x8] (st) cu σ Q = (X z 214 1147 [some (.ref u), x1, x2, x3, x4, x5, x6, x7, x8] (.ref u :: st) cu σ Q) := by
  rw [x214_1146]
  rfl
theorem v214_1147 {z : P0} {st : List Value} {cu : Nat × Nat} {Q : Res → Mem → Prop} {σ : Mem} {x0 x1 x2 x3 x5 x6 x7 x8 : Option Value} {u : Int32} : X z 214 1147 [x0, x1, x2, x3, some (.int u), x5, x6, x7, x8] (st) cu σ Q = (X z 214 1149 [x0, x1, x2, x3, some (.int u), x5, x6, x7, x8] (.int u :: st) cu σ Q) := by
  rw [x214_1147]
  rfl
theorem v214_1149 {z : P0} {st : List Value} {cu : Nat × Nat} {Q : Res → Mem → Prop} {σ : Mem} {x0 x1 x2 x3 x4 x5 x6 x7 x8 : Option Value} : X z 214 1149 [x0, x1, x2, x3, x4, x5, x6, x7, x8] (st) cu σ Q = (X z 214 1150 [x0, x1, x2, x3, x4, x5, x6, x7, x8] (.int (nI 1) :: st) cu σ Q) := by
  rw [x214_1149]
  rfl
theorem v214_1150 {z : P0} {st : List Value} {cu : Nat × Nat} {Q : Res → Mem → Prop} {σ : Mem} {x0 x1 x2 x3 x4 x5 x6 x7 x8 : Option Value} {u v : Int32} : X z 214 1150 [x0, x1, x2, x3, x4, x5, x6, x7, x8] (.int v :: .int u :: st) cu σ Q = (X z 214 1151 [x0, x1, x2, x3, x4, x5, x6, x7, x8] (.int (u + v) :: st) cu σ Q) := by
  rw [x214_1150]
  rfl
theorem v214_1151 {z : P0} {st : List Value} {cu : Nat × Nat} {Q : Res → Mem → Prop} {K : Nat → Nat × Nat} {I : Nat → Nat → Int32} {R : Nat → Nat → Option Nat} {L : Nat → Nat → Int64} {sz : Nat} {ex : Bool} {x0 x1 x2 x3 x4 x5 x6 x7 x8 : Option Value} {u : Nat} {v : Int32} : X z 214 1151 [x0, x1, x2, x3, x4, x5, x6, x7, x8] (.int v :: .ref u :: st) cu (K, I, R, L, sz, ex) Q = (((K u).1 = 20 ∨ (K u).1 = 50) ∧ vp_in v (K u).2 ∧ X z 214 1152 [x0, x1, x2, x3, x4, x5, x6, x7, x8] (.int (I u v.toNatClampNeg) :: st) cu (K, I, R, L, sz, ex) Q) := by
  rw [x214_1151]
  rfl
theorem v214_1152 {z : P0} {st : List Value} {cu : Nat × Nat} {Q : Res → Mem → Prop} {σ : Mem} {x1 x2 x3 x4 x5 x6 x7 x8 : Option Value} {u : Nat} : X z 214 1152 [some (.ref u), x1, x2, x3, x4, x5, x6, x7, x8] (st) cu σ Q = (X z 214 1153 [some (.ref u), x1, x2, x3, x4, x5, x6, x7, x8] (.ref u :: st) cu σ Q) := by
  rw [x214_1152]
  rfl
theorem v214_1153 {z : P0} {st : List Value} {cu : Nat × Nat} {Q : Res → Mem → Prop} {σ : Mem} {x0 x1 x2 x3 x5 x6 x7 x8 : Option Value} {u : Int32} : X z 214 1153 [x0, x1, x2, x3, some (.int u), x5, x6, x7, x8] (st) cu σ Q = (X z 214 1155 [x0, x1, x2, x3, some (.int u), x5, x6, x7, x8] (.int u :: st) cu σ Q) := by
  rw [x214_1153]
  rfl
theorem v214_1155 {z : P0} {st : List Value} {cu : Nat × Nat} {Q : Res → Mem → Prop} {σ : Mem} {x0 x1 x2 x3 x4 x5 x6 x7 x8 : Option Value} : X z 214 1155 [x0, x1, x2, x3, x4, x5, x6, x7, x8] (st) cu σ Q = (X z 214 1156 [x0, x1, x2, x3, x4, x5, x6, x7, x8] (.int (nI 2) :: st) cu σ Q) := by
  rw [x214_1155]
  rfl
theorem v214_1156 {z : P0} {st : List Value} {cu : Nat × Nat} {Q : Res → Mem → Prop} {σ : Mem} {x0 x1 x2 x3 x4 x5 x6 x7 x8 : Option Value} {u v : Int32} : X z 214 1156 [x0, x1, x2, x3, x4, x5, x6, x7, x8] (.int v :: .int u :: st) cu σ Q = (X z 214 1157 [x0, x1, x2, x3, x4, x5, x6, x7, x8] (.int (u + v) :: st) cu σ Q) := by
  rw [x214_1156]
  rfl
theorem v214_1157 {z : P0} {st : List Value} {cu : Nat × Nat} {Q : Res → Mem → Prop} {K : Nat → Nat × Nat} {I : Nat → Nat → Int32} {R : Nat → Nat → Option Nat} {L : Nat → Nat → Int64} {sz : Nat} {ex : Bool} {x0 x1 x2 x3 x4 x5 x6 x7 x8 : Option Value} {u : Nat} {v : Int32} : X z 214 1157 [x0, x1, x2, x3, x4, x5, x6, x7, x8] (.int v :: .ref u :: st) cu (K, I, R, L, sz, ex) Q = (((K u).1 = 20 ∨ (K u).1 = 50) ∧ vp_in v (K u).2 ∧ X z 214 1158 [x0, x1, x2, x3, x4, x5, x6, x7, x8] (.int (I u v.toNatClampNeg) :: st) cu (K, I, R, L, sz, ex) Q) := by
  rw [x214_1157]
  rfl
theorem v214_1158 {z : P0} {st : List Value} {cu : Nat × Nat} {Q : Res → Mem → Prop} {σ : Mem} {x0 x1 x2 x4 x5 x6 x7 x8 : Option Value} {u : Nat} : X z 214 1158 [x0, x1, x2, some (.ref u), x4, x5, x6, x7, x8] (st) cu σ Q = (X z 214 1159 [x0, x1, x2, some (.ref u), x4, x5, x6, x7, x8] (.ref u :: st) cu σ Q) := by
  rw [x214_1158]
  rfl
theorem u214_1159 {z : P0} {ls : Lcs} {st : List Value} {c n : Nat} {K : Nat → Nat × Nat} {I : Nat → Nat → Int32} {R : Nat → Nat → Option Nat} {L : Nat → Nat → Int64} {sz : Nat} {ex : Bool} {Q : Res → Mem → Prop} {a0 : Nat} {a1 : Int32} {a2 : Int32} {a3 : Nat} : X z 214 1159 ls (.ref a3 :: .int a2 :: .int a1 :: .ref a0 :: st) (c, n) (K, I, R, L, sz, ex) Q = (wsum st ≤ 8 ∧ c + 1 ≤ 601024 ∧ n + 6 ≤ 7293034 ∧ X z 208 0 [some (.ref a0), some (.int a1), some (.int a2), some (.ref a3), none] [] (0, 0) (K, I, R, L, sz, ex) (aftr (X z) mT 214 1159 ls st (c + 1, n + 6) Q)) := v214_1159
theorem v214_1162 {z : P0} {st : List Value} {cu : Nat × Nat} {Q : Res → Mem → Prop} {σ : Mem} {x0 x1 x2 x3 x4 x5 x6 x7 x8 : Option Value} {u : Int32} : X z 214 1162 [x0, x1, x2, x3, x4, x5, x6, x7, x8] (.int u :: st) cu σ Q = (cat2 x4 = false ∧ X z 214 1164 [x0, x1, x2, x3, x4, some (.int u), x6, x7, x8] (st) cu σ Q) := by
  rw [x214_1162]
  obtain ⟨K, I, R, L, sz, ex⟩ := σ
  exact i_istore.trans sl_5
theorem v214_1164 {z : P0} {st : List Value} {cu : Nat × Nat} {Q : Res → Mem → Prop} {σ : Mem} {x0 x1 x3 x4 x5 x6 x7 x8 : Option Value} {u : Nat} : X z 214 1164 [x0, x1, some (.ref u), x3, x4, x5, x6, x7, x8] (st) cu σ Q = (X z 214 1165 [x0, x1, some (.ref u), x3, x4, x5, x6, x7, x8] (.ref u :: st) cu σ Q) := by
  rw [x214_1164]
  rfl
theorem v214_1165 {z : P0} {st : List Value} {cu : Nat × Nat} {Q : Res → Mem → Prop} {σ : Mem} {x1 x2 x3 x4 x5 x6 x7 x8 : Option Value} {u : Nat} : X z 214 1165 [some (.ref u), x1, x2, x3, x4, x5, x6, x7, x8] (st) cu σ Q = (X z 214 1166 [some (.ref u), x1, x2, x3, x4, x5, x6, x7, x8] (.ref u :: st) cu σ Q) := by
  rw [x214_1165]
  rfl
theorem v214_1166 {z : P0} {st : List Value} {cu : Nat × Nat} {Q : Res → Mem → Prop} {σ : Mem} {x0 x1 x2 x3 x5 x6 x7 x8 : Option Value} {u : Int32} : X z 214 1166 [x0, x1, x2, x3, some (.int u), x5, x6, x7, x8] (st) cu σ Q = (X z 214 1168 [x0, x1, x2, x3, some (.int u), x5, x6, x7, x8] (.int u :: st) cu σ Q) := by
  rw [x214_1166]
  rfl
theorem v214_1168 {z : P0} {st : List Value} {cu : Nat × Nat} {Q : Res → Mem → Prop} {σ : Mem} {x0 x1 x2 x3 x4 x5 x6 x7 x8 : Option Value} : X z 214 1168 [x0, x1, x2, x3, x4, x5, x6, x7, x8] (st) cu σ Q = (X z 214 1169 [x0, x1, x2, x3, x4, x5, x6, x7, x8] (.int (nI 1) :: st) cu σ Q) := by
  rw [x214_1168]
  rfl
theorem v214_1169 {z : P0} {st : List Value} {cu : Nat × Nat} {Q : Res → Mem → Prop} {σ : Mem} {x0 x1 x2 x3 x4 x5 x6 x7 x8 : Option Value} {u v : Int32} : X z 214 1169 [x0, x1, x2, x3, x4, x5, x6, x7, x8] (.int v :: .int u :: st) cu σ Q = (X z 214 1170 [x0, x1, x2, x3, x4, x5, x6, x7, x8] (.int (u + v) :: st) cu σ Q) := by
  rw [x214_1169]
  rfl
theorem v214_1170 {z : P0} {st : List Value} {cu : Nat × Nat} {Q : Res → Mem → Prop} {K : Nat → Nat × Nat} {I : Nat → Nat → Int32} {R : Nat → Nat → Option Nat} {L : Nat → Nat → Int64} {sz : Nat} {ex : Bool} {x0 x1 x2 x3 x4 x5 x6 x7 x8 : Option Value} {u : Nat} {v : Int32} : X z 214 1170 [x0, x1, x2, x3, x4, x5, x6, x7, x8] (.int v :: .ref u :: st) cu (K, I, R, L, sz, ex) Q = (((K u).1 = 20 ∨ (K u).1 = 50) ∧ vp_in v (K u).2 ∧ X z 214 1171 [x0, x1, x2, x3, x4, x5, x6, x7, x8] (.int (I u v.toNatClampNeg) :: st) cu (K, I, R, L, sz, ex) Q) := by
  rw [x214_1170]
  rfl
theorem v214_1171 {z : P0} {st : List Value} {cu : Nat × Nat} {Q : Res → Mem → Prop} {σ : Mem} {x1 x2 x3 x4 x5 x6 x7 x8 : Option Value} {u : Nat} : X z 214 1171 [some (.ref u), x1, x2, x3, x4, x5, x6, x7, x8] (st) cu σ Q = (X z 214 1172 [some (.ref u), x1, x2, x3, x4, x5, x6, x7, x8] (.ref u :: st) cu σ Q) := by
  rw [x214_1171]
  rfl
theorem v214_1172 {z : P0} {st : List Value} {cu : Nat × Nat} {Q : Res → Mem → Prop} {σ : Mem} {x0 x1 x2 x3 x5 x6 x7 x8 : Option Value} {u : Int32} : X z 214 1172 [x0, x1, x2, x3, some (.int u), x5, x6, x7, x8] (st) cu σ Q = (X z 214 1174 [x0, x1, x2, x3, some (.int u), x5, x6, x7, x8] (.int u :: st) cu σ Q) := by
  rw [x214_1172]
  rfl
theorem v214_1174 {z : P0} {st : List Value} {cu : Nat × Nat} {Q : Res → Mem → Prop} {σ : Mem} {x0 x1 x2 x3 x4 x5 x6 x7 x8 : Option Value} : X z 214 1174 [x0, x1, x2, x3, x4, x5, x6, x7, x8] (st) cu σ Q = (X z 214 1175 [x0, x1, x2, x3, x4, x5, x6, x7, x8] (.int (nI 2) :: st) cu σ Q) := by
  rw [x214_1174]
  rfl
theorem v214_1175 {z : P0} {st : List Value} {cu : Nat × Nat} {Q : Res → Mem → Prop} {σ : Mem} {x0 x1 x2 x3 x4 x5 x6 x7 x8 : Option Value} {u v : Int32} : X z 214 1175 [x0, x1, x2, x3, x4, x5, x6, x7, x8] (.int v :: .int u :: st) cu σ Q = (X z 214 1176 [x0, x1, x2, x3, x4, x5, x6, x7, x8] (.int (u + v) :: st) cu σ Q) := by
  rw [x214_1175]
  rfl
theorem v214_1176 {z : P0} {st : List Value} {cu : Nat × Nat} {Q : Res → Mem → Prop} {K : Nat → Nat × Nat} {I : Nat → Nat → Int32} {R : Nat → Nat → Option Nat} {L : Nat → Nat → Int64} {sz : Nat} {ex : Bool} {x0 x1 x2 x3 x4 x5 x6 x7 x8 : Option Value} {u : Nat} {v : Int32} : X z 214 1176 [x0, x1, x2, x3, x4, x5, x6, x7, x8] (.int v :: .ref u :: st) cu (K, I, R, L, sz, ex) Q = (((K u).1 = 20 ∨ (K u).1 = 50) ∧ vp_in v (K u).2 ∧ X z 214 1177 [x0, x1, x2, x3, x4, x5, x6, x7, x8] (.int (I u v.toNatClampNeg) :: st) cu (K, I, R, L, sz, ex) Q) := by
  rw [x214_1176]
  rfl
theorem u214_1177 {z : P0} {ls : Lcs} {st : List Value} {c n : Nat} {K : Nat → Nat × Nat} {I : Nat → Nat → Int32} {R : Nat → Nat → Option Nat} {L : Nat → Nat → Int64} {sz : Nat} {ex : Bool} {Q : Res → Mem → Prop} {x : Nat} {a0 : Int32} {a1 : Int32} : X z 214 1177 ls (.int a1 :: .int a0 :: .ref x :: st) (c, n) (K, I, R, L, sz, ex) Q = ((K x).1 = 111 ∧ wsum st ≤ 8 ∧ c + 0 ≤ 601024 ∧ n + 0 ≤ 7293034 ∧ X z 163 0 [some (.ref x), some (.int a0), some (.int a1)] [] (0, 0) (K, I, R, L, sz, ex) (aftr (X z) mT 214 1177 ls st (c + 0, n + 0) Q)) := v214_1177
theorem v214_1180 {z : P0} {st : List Value} {cu : Nat × Nat} {Q : Res → Mem → Prop} {σ : Mem} {x0 x1 x2 x3 x4 x5 x6 x7 x8 : Option Value} {u : Int32} : X z 214 1180 [x0, x1, x2, x3, x4, x5, x6, x7, x8] (.int u :: st) cu σ Q = (cat2 x5 = false ∧ X z 214 1182 [x0, x1, x2, x3, x4, x5, some (.int u), x7, x8] (st) cu σ Q) := by
  rw [x214_1180]
  obtain ⟨K, I, R, L, sz, ex⟩ := σ
  exact i_istore.trans sl_6
theorem v214_1182 {z : P0} {st : List Value} {cu : Nat × Nat} {Q : Res → Mem → Prop} {σ : Mem} {x0 x1 x3 x4 x5 x6 x7 x8 : Option Value} {u : Nat} : X z 214 1182 [x0, x1, some (.ref u), x3, x4, x5, x6, x7, x8] (st) cu σ Q = (X z 214 1183 [x0, x1, some (.ref u), x3, x4, x5, x6, x7, x8] (.ref u :: st) cu σ Q) := by
  rw [x214_1182]
  rfl
theorem u214_1183 {z : P0} {ls : Lcs} {st : List Value} {c n : Nat} {K : Nat → Nat × Nat} {I : Nat → Nat → Int32} {R : Nat → Nat → Option Nat} {L : Nat → Nat → Int64} {sz : Nat} {ex : Bool} {Q : Res → Mem → Prop} {x : Nat} : X z 214 1183 ls (.ref x :: st) (c, n) (K, I, R, L, sz, ex) Q = ((K x).1 = 111 ∧ wsum st ≤ 8 ∧ c + 0 ≤ 601024 ∧ n + 0 ≤ 7293034 ∧ X z 105 0 [some (.ref x)] [] (0, 0) (K, I, R, L, sz, ex) (aftr (X z) mT 214 1183 ls st (c + 0, n + 0) Q)) := v214_1183
theorem v214_1186 {z : P0} {st : List Value} {cu : Nat × Nat} {Q : Res → Mem → Prop} {σ : Mem} {x0 x1 x2 x3 x4 x6 x7 x8 : Option Value} {u : Int32} : X z 214 1186 [x0, x1, x2, x3, x4, some (.int u), x6, x7, x8] (st) cu σ Q = (X z 214 1188 [x0, x1, x2, x3, x4, some (.int u), x6, x7, x8] (.int u :: st) cu σ Q) := by
  rw [x214_1186]
  rfl
theorem v214_1188 {z : P0} {st : List Value} {cu : Nat × Nat} {Q : Res → Mem → Prop} {σ : Mem} {x0 x1 x2 x3 x4 x5 x6 x7 x8 : Option Value} {u v : Int32} : X z 214 1188 [x0, x1, x2, x3, x4, x5, x6, x7, x8] (.int v :: .int u :: st) cu σ Q = (if u = v then X z 214 1193 [x0, x1, x2, x3, x4, x5, x6, x7, x8] (st) cu σ Q else X z 214 1191 [x0, x1, x2, x3, x4, x5, x6, x7, x8] (st) cu σ Q) := by
  rw [x214_1188]
  obtain ⟨K, I, R, L, sz, ex⟩ := σ
  exact br_ite
theorem v214_1191 {z : P0} {st : List Value} {cu : Nat × Nat} {Q : Res → Mem → Prop} {σ : Mem} {x0 x1 x2 x3 x4 x5 x6 x7 x8 : Option Value} : X z 214 1191 [x0, x1, x2, x3, x4, x5, x6, x7, x8] (st) cu σ Q = (X z 214 1192 [x0, x1, x2, x3, x4, x5, x6, x7, x8] (.int (nI 0) :: st) cu σ Q) := by
  rw [x214_1191]
  rfl
theorem v214_1192 {z : P0} {cu : Nat × Nat} {Q : Res → Mem → Prop} {σ : Mem} {x0 x1 x2 x3 x4 x5 x6 x7 x8 : Option Value} {v : Int32} : X z 214 1192 [x0, x1, x2, x3, x4, x5, x6, x7, x8] ([.int v]) cu σ Q = ((v = nI 0 ∨ v = nI 1) ∧ Q (.inl (some (.int v))) σ) := by
  rw [x214_1192]
  rw [nI_0, one1]
  rfl
theorem v214_1193 {z : P0} {st : List Value} {cu : Nat × Nat} {Q : Res → Mem → Prop} {σ : Mem} {x0 x1 x2 x3 x4 x6 x7 x8 : Option Value} {u : Int32} : X z 214 1193 [x0, x1, x2, x3, x4, some (.int u), x6, x7, x8] (st) cu σ Q = (X z 214 1195 [x0, x1, x2, x3, x4, some (.int u), x6, x7, x8] (.int u :: st) cu σ Q) := by
  rw [x214_1193]
  rfl
theorem v214_1195 {z : P0} {st : List Value} {cu : Nat × Nat} {Q : Res → Mem → Prop} {σ : Mem} {x0 x1 x2 x3 x4 x5 x6 x7 x8 : Option Value} {u : Int32} : X z 214 1195 [x0, x1, x2, x3, x4, x5, x6, x7, x8] (.int u :: st) cu σ Q = (if u = nI 0 then X z 214 1198 [x0, x1, x2, x3, x4, x5, x6, x7, x8] (st) cu σ Q else X z 214 1210 [x0, x1, x2, x3, x4, x5, x6, x7, x8] (st) cu σ Q) := by
  rw [x214_1195]
  rw [nI_0]
  obtain ⟨K, I, R, L, sz, ex⟩ := σ
  exact br_ne
theorem v214_1198 {z : P0} {st : List Value} {cu : Nat × Nat} {Q : Res → Mem → Prop} {σ : Mem} {x0 x1 x2 x4 x5 x6 x7 x8 : Option Value} {u : Nat} : X z 214 1198 [x0, x1, x2, some (.ref u), x4, x5, x6, x7, x8] (st) cu σ Q = (X z 214 1199 [x0, x1, x2, some (.ref u), x4, x5, x6, x7, x8] (.ref u :: st) cu σ Q) := by
  rw [x214_1198]
  rfl
theorem v214_1199 {z : P0} {st : List Value} {cu : Nat × Nat} {Q : Res → Mem → Prop} {σ : Mem} {x0 x1 x2 x3 x4 x5 x6 x7 x8 : Option Value} : X z 214 1199 [x0, x1, x2, x3, x4, x5, x6, x7, x8] (st) cu σ Q = (X z 214 1200 [x0, x1, x2, x3, x4, x5, x6, x7, x8] (.int (nI 0) :: st) cu σ Q) := by
  rw [x214_1199]
  rfl
theorem v214_1200 {z : P0} {st : List Value} {cu : Nat × Nat} {Q : Res → Mem → Prop} {K : Nat → Nat × Nat} {I : Nat → Nat → Int32} {R : Nat → Nat → Option Nat} {L : Nat → Nat → Int64} {sz : Nat} {ex : Bool} {x0 x1 x2 x3 x4 x5 x6 x7 x8 : Option Value} {u : Nat} {v : Int32} : X z 214 1200 [x0, x1, x2, x3, x4, x5, x6, x7, x8] (.int v :: .ref u :: st) cu (K, I, R, L, sz, ex) Q = ((K u).1 = 21 ∧ vp_in v (K u).2 ∧ X z 214 1201 [x0, x1, x2, x3, x4, x5, x6, x7, x8] (.long (L u v.toNatClampNeg) :: st) cu (K, I, R, L, sz, ex) Q) := by
  rw [x214_1200]
  rfl
theorem v214_1201 {z : P0} {st : List Value} {cu : Nat × Nat} {Q : Res → Mem → Prop} {σ : Mem} {x0 x1 x2 x3 x4 x5 x7 x8 : Option Value} {u : Int32} : X z 214 1201 [x0, x1, x2, x3, x4, x5, some (.int u), x7, x8] (st) cu σ Q = (X z 214 1203 [x0, x1, x2, x3, x4, x5, some (.int u), x7, x8] (.int u :: st) cu σ Q) := by
  rw [x214_1201]
  rfl
theorem v214_1203 {z : P0} {st : List Value} {cu : Nat × Nat} {Q : Res → Mem → Prop} {σ : Mem} {x0 x1 x2 x3 x4 x5 x6 x7 x8 : Option Value} {u : Int32} : X z 214 1203 [x0, x1, x2, x3, x4, x5, x6, x7, x8] (.int u :: st) cu σ Q = (X z 214 1204 [x0, x1, x2, x3, x4, x5, x6, x7, x8] (.long u.toInt64 :: st) cu σ Q) := by
  rw [x214_1203]
  rfl
theorem v214_1204 {z : P0} {st : List Value} {cu : Nat × Nat} {Q : Res → Mem → Prop} {σ : Mem} {x0 x1 x2 x3 x4 x5 x6 x7 x8 : Option Value} {u v : Int64} : X z 214 1204 [x0, x1, x2, x3, x4, x5, x6, x7, x8] (.long v :: .long u :: st) cu σ Q = (X z 214 1205 [x0, x1, x2, x3, x4, x5, x6, x7, x8] (.int (lg_cmp u v) :: st) cu σ Q) := by
  rw [x214_1204]
  rfl
theorem v214_1205 {z : P0} {st : List Value} {cu : Nat × Nat} {Q : Res → Mem → Prop} {σ : Mem} {x0 x1 x2 x3 x4 x5 x6 x7 x8 : Option Value} {u : Int32} : X z 214 1205 [x0, x1, x2, x3, x4, x5, x6, x7, x8] (.int u :: st) cu σ Q = (if u = nI 0 then X z 214 1210 [x0, x1, x2, x3, x4, x5, x6, x7, x8] (st) cu σ Q else X z 214 1208 [x0, x1, x2, x3, x4, x5, x6, x7, x8] (st) cu σ Q) := by
  rw [x214_1205]
  rw [nI_0]
  obtain ⟨K, I, R, L, sz, ex⟩ := σ
  exact br_ite
theorem v214_1208 {z : P0} {st : List Value} {cu : Nat × Nat} {Q : Res → Mem → Prop} {σ : Mem} {x0 x1 x2 x3 x4 x5 x6 x7 x8 : Option Value} : X z 214 1208 [x0, x1, x2, x3, x4, x5, x6, x7, x8] (st) cu σ Q = (X z 214 1209 [x0, x1, x2, x3, x4, x5, x6, x7, x8] (.int (nI 0) :: st) cu σ Q) := by
  rw [x214_1208]
  rfl
theorem v214_1209 {z : P0} {cu : Nat × Nat} {Q : Res → Mem → Prop} {σ : Mem} {x0 x1 x2 x3 x4 x5 x6 x7 x8 : Option Value} {v : Int32} : X z 214 1209 [x0, x1, x2, x3, x4, x5, x6, x7, x8] ([.int v]) cu σ Q = ((v = nI 0 ∨ v = nI 1) ∧ Q (.inl (some (.int v))) σ) := by
  rw [x214_1209]
  rw [nI_0, one1]
  rfl
theorem v214_1210 {z : P0} {st : List Value} {cu : Nat × Nat} {Q : Res → Mem → Prop} {σ : Mem} {x0 x1 x2 x3 x4 x5 x6 x7 x8 : Option Value} : X z 214 1210 [x0, x1, x2, x3, x4, x5, x6, x7, x8] (st) cu σ Q = (X z 214 1598 [x0, x1, x2, x3, x4, x5, x6, x7, x8] (st) cu σ Q) := by
  rw [x214_1210]
  rfl
theorem v214_1213 {z : P0} {st : List Value} {cu : Nat × Nat} {Q : Res → Mem → Prop} {σ : Mem} {x0 x2 x3 x4 x5 x6 x7 x8 : Option Value} {u : Nat} : X z 214 1213 [x0, some (.ref u), x2, x3, x4, x5, x6, x7, x8] (st) cu σ Q = (X z 214 1214 [x0, some (.ref u), x2, x3, x4, x5, x6, x7, x8] (.ref u :: st) cu σ Q) := by
  rw [x214_1213]
  rfl
theorem v214_1214 {z : P0} {st : List Value} {cu : Nat × Nat} {Q : Res → Mem → Prop} {σ : Mem} {x1 x2 x3 x4 x5 x6 x7 x8 : Option Value} {u : Nat} : X z 214 1214 [some (.ref u), x1, x2, x3, x4, x5, x6, x7, x8] (st) cu σ Q = (X z 214 1215 [some (.ref u), x1, x2, x3, x4, x5, x6, x7, x8] (.ref u :: st) cu σ Q) := by
  rw [x214_1214]
  rfl
theorem v214_1215 {z : P0} {st : List Value} {cu : Nat × Nat} {Q : Res → Mem → Prop} {σ : Mem} {x0 x1 x2 x3 x5 x6 x7 x8 : Option Value} {u : Int32} : X z 214 1215 [x0, x1, x2, x3, some (.int u), x5, x6, x7, x8] (st) cu σ Q = (X z 214 1217 [x0, x1, x2, x3, some (.int u), x5, x6, x7, x8] (.int u :: st) cu σ Q) := by
  rw [x214_1215]
  rfl
theorem v214_1217 {z : P0} {st : List Value} {cu : Nat × Nat} {Q : Res → Mem → Prop} {σ : Mem} {x0 x1 x2 x3 x4 x5 x6 x7 x8 : Option Value} : X z 214 1217 [x0, x1, x2, x3, x4, x5, x6, x7, x8] (st) cu σ Q = (X z 214 1218 [x0, x1, x2, x3, x4, x5, x6, x7, x8] (.int (nI 1) :: st) cu σ Q) := by
  rw [x214_1217]
  rfl
theorem v214_1218 {z : P0} {st : List Value} {cu : Nat × Nat} {Q : Res → Mem → Prop} {σ : Mem} {x0 x1 x2 x3 x4 x5 x6 x7 x8 : Option Value} {u v : Int32} : X z 214 1218 [x0, x1, x2, x3, x4, x5, x6, x7, x8] (.int v :: .int u :: st) cu σ Q = (X z 214 1219 [x0, x1, x2, x3, x4, x5, x6, x7, x8] (.int (u + v) :: st) cu σ Q) := by
  rw [x214_1218]
  rfl
theorem v214_1219 {z : P0} {st : List Value} {cu : Nat × Nat} {Q : Res → Mem → Prop} {K : Nat → Nat × Nat} {I : Nat → Nat → Int32} {R : Nat → Nat → Option Nat} {L : Nat → Nat → Int64} {sz : Nat} {ex : Bool} {x0 x1 x2 x3 x4 x5 x6 x7 x8 : Option Value} {u : Nat} {v : Int32} : X z 214 1219 [x0, x1, x2, x3, x4, x5, x6, x7, x8] (.int v :: .ref u :: st) cu (K, I, R, L, sz, ex) Q = (((K u).1 = 20 ∨ (K u).1 = 50) ∧ vp_in v (K u).2 ∧ X z 214 1220 [x0, x1, x2, x3, x4, x5, x6, x7, x8] (.int (I u v.toNatClampNeg) :: st) cu (K, I, R, L, sz, ex) Q) := by
  rw [x214_1219]
  rfl
theorem v214_1220 {z : P0} {st : List Value} {cu : Nat × Nat} {Q : Res → Mem → Prop} {σ : Mem} {x0 x1 x2 x4 x5 x6 x7 x8 : Option Value} {u : Nat} : X z 214 1220 [x0, x1, x2, some (.ref u), x4, x5, x6, x7, x8] (st) cu σ Q = (X z 214 1221 [x0, x1, x2, some (.ref u), x4, x5, x6, x7, x8] (.ref u :: st) cu σ Q) := by
  rw [x214_1220]
  rfl
theorem u214_1221 {z : P0} {ls : Lcs} {st : List Value} {c n : Nat} {K : Nat → Nat × Nat} {I : Nat → Nat → Int32} {R : Nat → Nat → Option Nat} {L : Nat → Nat → Int64} {sz : Nat} {ex : Bool} {Q : Res → Mem → Prop} {a0 : Nat} {a1 : Int32} {a2 : Nat} : X z 214 1221 ls (.ref a2 :: .int a1 :: .ref a0 :: st) (c, n) (K, I, R, L, sz, ex) Q = (wsum st ≤ 8 ∧ c + 1 ≤ 601024 ∧ n + 6 ≤ 7293034 ∧ X z 209 0 [some (.ref a0), some (.int a1), some (.ref a2), none] [] (0, 0) (K, I, R, L, sz, ex) (aftr (X z) mT 214 1221 ls st (c + 1, n + 6) Q)) := v214_1221
theorem v214_1224 {z : P0} {st : List Value} {cu : Nat × Nat} {Q : Res → Mem → Prop} {σ : Mem} {x0 x1 x2 x3 x4 x5 x6 x7 x8 : Option Value} {u : Int32} : X z 214 1224 [x0, x1, x2, x3, x4, x5, x6, x7, x8] (.int u :: st) cu σ Q = (cat2 x4 = false ∧ X z 214 1226 [x0, x1, x2, x3, x4, some (.int u), x6, x7, x8] (st) cu σ Q) := by
  rw [x214_1224]
  obtain ⟨K, I, R, L, sz, ex⟩ := σ
  exact i_istore.trans sl_5
theorem v214_1226 {z : P0} {st : List Value} {cu : Nat × Nat} {Q : Res → Mem → Prop} {σ : Mem} {x0 x1 x3 x4 x5 x6 x7 x8 : Option Value} {u : Nat} : X z 214 1226 [x0, x1, some (.ref u), x3, x4, x5, x6, x7, x8] (st) cu σ Q = (X z 214 1227 [x0, x1, some (.ref u), x3, x4, x5, x6, x7, x8] (.ref u :: st) cu σ Q) := by
  rw [x214_1226]
  rfl
theorem v214_1227 {z : P0} {st : List Value} {cu : Nat × Nat} {Q : Res → Mem → Prop} {σ : Mem} {x1 x2 x3 x4 x5 x6 x7 x8 : Option Value} {u : Nat} : X z 214 1227 [some (.ref u), x1, x2, x3, x4, x5, x6, x7, x8] (st) cu σ Q = (X z 214 1228 [some (.ref u), x1, x2, x3, x4, x5, x6, x7, x8] (.ref u :: st) cu σ Q) := by
  rw [x214_1227]
  rfl
theorem v214_1228 {z : P0} {st : List Value} {cu : Nat × Nat} {Q : Res → Mem → Prop} {σ : Mem} {x0 x1 x2 x3 x5 x6 x7 x8 : Option Value} {u : Int32} : X z 214 1228 [x0, x1, x2, x3, some (.int u), x5, x6, x7, x8] (st) cu σ Q = (X z 214 1230 [x0, x1, x2, x3, some (.int u), x5, x6, x7, x8] (.int u :: st) cu σ Q) := by
  rw [x214_1228]
  rfl
theorem v214_1230 {z : P0} {st : List Value} {cu : Nat × Nat} {Q : Res → Mem → Prop} {σ : Mem} {x0 x1 x2 x3 x4 x5 x6 x7 x8 : Option Value} : X z 214 1230 [x0, x1, x2, x3, x4, x5, x6, x7, x8] (st) cu σ Q = (X z 214 1231 [x0, x1, x2, x3, x4, x5, x6, x7, x8] (.int (nI 1) :: st) cu σ Q) := by
  rw [x214_1230]
  rfl
theorem v214_1231 {z : P0} {st : List Value} {cu : Nat × Nat} {Q : Res → Mem → Prop} {σ : Mem} {x0 x1 x2 x3 x4 x5 x6 x7 x8 : Option Value} {u v : Int32} : X z 214 1231 [x0, x1, x2, x3, x4, x5, x6, x7, x8] (.int v :: .int u :: st) cu σ Q = (X z 214 1232 [x0, x1, x2, x3, x4, x5, x6, x7, x8] (.int (u + v) :: st) cu σ Q) := by
  rw [x214_1231]
  rfl
theorem v214_1232 {z : P0} {st : List Value} {cu : Nat × Nat} {Q : Res → Mem → Prop} {K : Nat → Nat × Nat} {I : Nat → Nat → Int32} {R : Nat → Nat → Option Nat} {L : Nat → Nat → Int64} {sz : Nat} {ex : Bool} {x0 x1 x2 x3 x4 x5 x6 x7 x8 : Option Value} {u : Nat} {v : Int32} : X z 214 1232 [x0, x1, x2, x3, x4, x5, x6, x7, x8] (.int v :: .ref u :: st) cu (K, I, R, L, sz, ex) Q = (((K u).1 = 20 ∨ (K u).1 = 50) ∧ vp_in v (K u).2 ∧ X z 214 1233 [x0, x1, x2, x3, x4, x5, x6, x7, x8] (.int (I u v.toNatClampNeg) :: st) cu (K, I, R, L, sz, ex) Q) := by
  rw [x214_1232]
  rfl
theorem u214_1233 {z : P0} {ls : Lcs} {st : List Value} {c n : Nat} {K : Nat → Nat × Nat} {I : Nat → Nat → Int32} {R : Nat → Nat → Option Nat} {L : Nat → Nat → Int64} {sz : Nat} {ex : Bool} {Q : Res → Mem → Prop} {x : Nat} {a0 : Int32} : X z 214 1233 ls (.int a0 :: .ref x :: st) (c, n) (K, I, R, L, sz, ex) Q = ((K x).1 = 111 ∧ wsum st ≤ 8 ∧ c + 0 ≤ 601024 ∧ n + 0 ≤ 7293034 ∧ X z 164 0 [some (.ref x), some (.int a0)] [] (0, 0) (K, I, R, L, sz, ex) (aftr (X z) mT 214 1233 ls st (c + 0, n + 0) Q)) := v214_1233
theorem v214_1236 {z : P0} {st : List Value} {cu : Nat × Nat} {Q : Res → Mem → Prop} {σ : Mem} {x0 x1 x2 x3 x4 x5 x6 x7 x8 : Option Value} {u : Int32} : X z 214 1236 [x0, x1, x2, x3, x4, x5, x6, x7, x8] (.int u :: st) cu σ Q = (cat2 x5 = false ∧ X z 214 1238 [x0, x1, x2, x3, x4, x5, some (.int u), x7, x8] (st) cu σ Q) := by
  rw [x214_1236]
  obtain ⟨K, I, R, L, sz, ex⟩ := σ
  exact i_istore.trans sl_6
theorem v214_1238 {z : P0} {st : List Value} {cu : Nat × Nat} {Q : Res → Mem → Prop} {σ : Mem} {x0 x1 x3 x4 x5 x6 x7 x8 : Option Value} {u : Nat} : X z 214 1238 [x0, x1, some (.ref u), x3, x4, x5, x6, x7, x8] (st) cu σ Q = (X z 214 1239 [x0, x1, some (.ref u), x3, x4, x5, x6, x7, x8] (.ref u :: st) cu σ Q) := by
  rw [x214_1238]
  rfl
theorem u214_1239 {z : P0} {ls : Lcs} {st : List Value} {c n : Nat} {K : Nat → Nat × Nat} {I : Nat → Nat → Int32} {R : Nat → Nat → Option Nat} {L : Nat → Nat → Int64} {sz : Nat} {ex : Bool} {Q : Res → Mem → Prop} {x : Nat} : X z 214 1239 ls (.ref x :: st) (c, n) (K, I, R, L, sz, ex) Q = ((K x).1 = 111 ∧ wsum st ≤ 8 ∧ c + 0 ≤ 601024 ∧ n + 0 ≤ 7293034 ∧ X z 105 0 [some (.ref x)] [] (0, 0) (K, I, R, L, sz, ex) (aftr (X z) mT 214 1239 ls st (c + 0, n + 0) Q)) := v214_1239
theorem v214_1242 {z : P0} {st : List Value} {cu : Nat × Nat} {Q : Res → Mem → Prop} {σ : Mem} {x0 x1 x2 x3 x4 x6 x7 x8 : Option Value} {u : Int32} : X z 214 1242 [x0, x1, x2, x3, x4, some (.int u), x6, x7, x8] (st) cu σ Q = (X z 214 1244 [x0, x1, x2, x3, x4, some (.int u), x6, x7, x8] (.int u :: st) cu σ Q) := by
  rw [x214_1242]
  rfl
theorem v214_1244 {z : P0} {st : List Value} {cu : Nat × Nat} {Q : Res → Mem → Prop} {σ : Mem} {x0 x1 x2 x3 x4 x5 x6 x7 x8 : Option Value} {u v : Int32} : X z 214 1244 [x0, x1, x2, x3, x4, x5, x6, x7, x8] (.int v :: .int u :: st) cu σ Q = (if u = v then X z 214 1249 [x0, x1, x2, x3, x4, x5, x6, x7, x8] (st) cu σ Q else X z 214 1247 [x0, x1, x2, x3, x4, x5, x6, x7, x8] (st) cu σ Q) := by
  rw [x214_1244]
  obtain ⟨K, I, R, L, sz, ex⟩ := σ
  exact br_ite
theorem v214_1247 {z : P0} {st : List Value} {cu : Nat × Nat} {Q : Res → Mem → Prop} {σ : Mem} {x0 x1 x2 x3 x4 x5 x6 x7 x8 : Option Value} : X z 214 1247 [x0, x1, x2, x3, x4, x5, x6, x7, x8] (st) cu σ Q = (X z 214 1248 [x0, x1, x2, x3, x4, x5, x6, x7, x8] (.int (nI 0) :: st) cu σ Q) := by
  rw [x214_1247]
  rfl
theorem v214_1248 {z : P0} {cu : Nat × Nat} {Q : Res → Mem → Prop} {σ : Mem} {x0 x1 x2 x3 x4 x5 x6 x7 x8 : Option Value} {v : Int32} : X z 214 1248 [x0, x1, x2, x3, x4, x5, x6, x7, x8] ([.int v]) cu σ Q = ((v = nI 0 ∨ v = nI 1) ∧ Q (.inl (some (.int v))) σ) := by
  rw [x214_1248]
  rw [nI_0, one1]
  rfl
theorem v214_1249 {z : P0} {st : List Value} {cu : Nat × Nat} {Q : Res → Mem → Prop} {σ : Mem} {x0 x1 x2 x3 x4 x6 x7 x8 : Option Value} {u : Int32} : X z 214 1249 [x0, x1, x2, x3, x4, some (.int u), x6, x7, x8] (st) cu σ Q = (X z 214 1251 [x0, x1, x2, x3, x4, some (.int u), x6, x7, x8] (.int u :: st) cu σ Q) := by
  rw [x214_1249]
  rfl
theorem v214_1251 {z : P0} {st : List Value} {cu : Nat × Nat} {Q : Res → Mem → Prop} {σ : Mem} {x0 x1 x2 x3 x4 x5 x6 x7 x8 : Option Value} {u : Int32} : X z 214 1251 [x0, x1, x2, x3, x4, x5, x6, x7, x8] (.int u :: st) cu σ Q = (if u = nI 0 then X z 214 1254 [x0, x1, x2, x3, x4, x5, x6, x7, x8] (st) cu σ Q else X z 214 1266 [x0, x1, x2, x3, x4, x5, x6, x7, x8] (st) cu σ Q) := by
  rw [x214_1251]
  rw [nI_0]
  obtain ⟨K, I, R, L, sz, ex⟩ := σ
  exact br_ne
theorem v214_1254 {z : P0} {st : List Value} {cu : Nat × Nat} {Q : Res → Mem → Prop} {σ : Mem} {x0 x1 x2 x4 x5 x6 x7 x8 : Option Value} {u : Nat} : X z 214 1254 [x0, x1, x2, some (.ref u), x4, x5, x6, x7, x8] (st) cu σ Q = (X z 214 1255 [x0, x1, x2, some (.ref u), x4, x5, x6, x7, x8] (.ref u :: st) cu σ Q) := by
  rw [x214_1254]
  rfl
theorem v214_1255 {z : P0} {st : List Value} {cu : Nat × Nat} {Q : Res → Mem → Prop} {σ : Mem} {x0 x1 x2 x3 x4 x5 x6 x7 x8 : Option Value} : X z 214 1255 [x0, x1, x2, x3, x4, x5, x6, x7, x8] (st) cu σ Q = (X z 214 1256 [x0, x1, x2, x3, x4, x5, x6, x7, x8] (.int (nI 0) :: st) cu σ Q) := by
  rw [x214_1255]
  rfl
theorem v214_1256 {z : P0} {st : List Value} {cu : Nat × Nat} {Q : Res → Mem → Prop} {K : Nat → Nat × Nat} {I : Nat → Nat → Int32} {R : Nat → Nat → Option Nat} {L : Nat → Nat → Int64} {sz : Nat} {ex : Bool} {x0 x1 x2 x3 x4 x5 x6 x7 x8 : Option Value} {u : Nat} {v : Int32} : X z 214 1256 [x0, x1, x2, x3, x4, x5, x6, x7, x8] (.int v :: .ref u :: st) cu (K, I, R, L, sz, ex) Q = ((K u).1 = 21 ∧ vp_in v (K u).2 ∧ X z 214 1257 [x0, x1, x2, x3, x4, x5, x6, x7, x8] (.long (L u v.toNatClampNeg) :: st) cu (K, I, R, L, sz, ex) Q) := by
  rw [x214_1256]
  rfl
theorem v214_1257 {z : P0} {st : List Value} {cu : Nat × Nat} {Q : Res → Mem → Prop} {σ : Mem} {x0 x1 x2 x3 x4 x5 x7 x8 : Option Value} {u : Int32} : X z 214 1257 [x0, x1, x2, x3, x4, x5, some (.int u), x7, x8] (st) cu σ Q = (X z 214 1259 [x0, x1, x2, x3, x4, x5, some (.int u), x7, x8] (.int u :: st) cu σ Q) := by
  rw [x214_1257]
  rfl
theorem v214_1259 {z : P0} {st : List Value} {cu : Nat × Nat} {Q : Res → Mem → Prop} {σ : Mem} {x0 x1 x2 x3 x4 x5 x6 x7 x8 : Option Value} {u : Int32} : X z 214 1259 [x0, x1, x2, x3, x4, x5, x6, x7, x8] (.int u :: st) cu σ Q = (X z 214 1260 [x0, x1, x2, x3, x4, x5, x6, x7, x8] (.long u.toInt64 :: st) cu σ Q) := by
  rw [x214_1259]
  rfl
theorem v214_1260 {z : P0} {st : List Value} {cu : Nat × Nat} {Q : Res → Mem → Prop} {σ : Mem} {x0 x1 x2 x3 x4 x5 x6 x7 x8 : Option Value} {u v : Int64} : X z 214 1260 [x0, x1, x2, x3, x4, x5, x6, x7, x8] (.long v :: .long u :: st) cu σ Q = (X z 214 1261 [x0, x1, x2, x3, x4, x5, x6, x7, x8] (.int (lg_cmp u v) :: st) cu σ Q) := by
  rw [x214_1260]
  rfl
theorem v214_1261 {z : P0} {st : List Value} {cu : Nat × Nat} {Q : Res → Mem → Prop} {σ : Mem} {x0 x1 x2 x3 x4 x5 x6 x7 x8 : Option Value} {u : Int32} : X z 214 1261 [x0, x1, x2, x3, x4, x5, x6, x7, x8] (.int u :: st) cu σ Q = (if u = nI 0 then X z 214 1266 [x0, x1, x2, x3, x4, x5, x6, x7, x8] (st) cu σ Q else X z 214 1264 [x0, x1, x2, x3, x4, x5, x6, x7, x8] (st) cu σ Q) := by
  rw [x214_1261]
  rw [nI_0]
  obtain ⟨K, I, R, L, sz, ex⟩ := σ
  exact br_ite
theorem v214_1264 {z : P0} {st : List Value} {cu : Nat × Nat} {Q : Res → Mem → Prop} {σ : Mem} {x0 x1 x2 x3 x4 x5 x6 x7 x8 : Option Value} : X z 214 1264 [x0, x1, x2, x3, x4, x5, x6, x7, x8] (st) cu σ Q = (X z 214 1265 [x0, x1, x2, x3, x4, x5, x6, x7, x8] (.int (nI 0) :: st) cu σ Q) := by
  rw [x214_1264]
  rfl
theorem v214_1265 {z : P0} {cu : Nat × Nat} {Q : Res → Mem → Prop} {σ : Mem} {x0 x1 x2 x3 x4 x5 x6 x7 x8 : Option Value} {v : Int32} : X z 214 1265 [x0, x1, x2, x3, x4, x5, x6, x7, x8] ([.int v]) cu σ Q = ((v = nI 0 ∨ v = nI 1) ∧ Q (.inl (some (.int v))) σ) := by
  rw [x214_1265]
  rw [nI_0, one1]
  rfl
theorem v214_1266 {z : P0} {st : List Value} {cu : Nat × Nat} {Q : Res → Mem → Prop} {σ : Mem} {x0 x1 x2 x3 x4 x5 x6 x7 x8 : Option Value} : X z 214 1266 [x0, x1, x2, x3, x4, x5, x6, x7, x8] (st) cu σ Q = (X z 214 1598 [x0, x1, x2, x3, x4, x5, x6, x7, x8] (st) cu σ Q) := by
  rw [x214_1266]
  rfl
theorem v214_1269 {z : P0} {st : List Value} {cu : Nat × Nat} {Q : Res → Mem → Prop} {σ : Mem} {x0 x2 x3 x4 x5 x6 x7 x8 : Option Value} {u : Nat} : X z 214 1269 [x0, some (.ref u), x2, x3, x4, x5, x6, x7, x8] (st) cu σ Q = (X z 214 1270 [x0, some (.ref u), x2, x3, x4, x5, x6, x7, x8] (.ref u :: st) cu σ Q) := by
  rw [x214_1269]
  rfl
theorem v214_1270 {z : P0} {st : List Value} {cu : Nat × Nat} {Q : Res → Mem → Prop} {σ : Mem} {x1 x2 x3 x4 x5 x6 x7 x8 : Option Value} {u : Nat} : X z 214 1270 [some (.ref u), x1, x2, x3, x4, x5, x6, x7, x8] (st) cu σ Q = (X z 214 1271 [some (.ref u), x1, x2, x3, x4, x5, x6, x7, x8] (.ref u :: st) cu σ Q) := by
  rw [x214_1270]
  rfl
theorem v214_1271 {z : P0} {st : List Value} {cu : Nat × Nat} {Q : Res → Mem → Prop} {σ : Mem} {x0 x1 x2 x3 x5 x6 x7 x8 : Option Value} {u : Int32} : X z 214 1271 [x0, x1, x2, x3, some (.int u), x5, x6, x7, x8] (st) cu σ Q = (X z 214 1273 [x0, x1, x2, x3, some (.int u), x5, x6, x7, x8] (.int u :: st) cu σ Q) := by
  rw [x214_1271]
  rfl
theorem v214_1273 {z : P0} {st : List Value} {cu : Nat × Nat} {Q : Res → Mem → Prop} {σ : Mem} {x0 x1 x2 x3 x4 x5 x6 x7 x8 : Option Value} : X z 214 1273 [x0, x1, x2, x3, x4, x5, x6, x7, x8] (st) cu σ Q = (X z 214 1274 [x0, x1, x2, x3, x4, x5, x6, x7, x8] (.int (nI 1) :: st) cu σ Q) := by
  rw [x214_1273]
  rfl
theorem v214_1274 {z : P0} {st : List Value} {cu : Nat × Nat} {Q : Res → Mem → Prop} {σ : Mem} {x0 x1 x2 x3 x4 x5 x6 x7 x8 : Option Value} {u v : Int32} : X z 214 1274 [x0, x1, x2, x3, x4, x5, x6, x7, x8] (.int v :: .int u :: st) cu σ Q = (X z 214 1275 [x0, x1, x2, x3, x4, x5, x6, x7, x8] (.int (u + v) :: st) cu σ Q) := by
  rw [x214_1274]
  rfl
theorem v214_1275 {z : P0} {st : List Value} {cu : Nat × Nat} {Q : Res → Mem → Prop} {K : Nat → Nat × Nat} {I : Nat → Nat → Int32} {R : Nat → Nat → Option Nat} {L : Nat → Nat → Int64} {sz : Nat} {ex : Bool} {x0 x1 x2 x3 x4 x5 x6 x7 x8 : Option Value} {u : Nat} {v : Int32} : X z 214 1275 [x0, x1, x2, x3, x4, x5, x6, x7, x8] (.int v :: .ref u :: st) cu (K, I, R, L, sz, ex) Q = (((K u).1 = 20 ∨ (K u).1 = 50) ∧ vp_in v (K u).2 ∧ X z 214 1276 [x0, x1, x2, x3, x4, x5, x6, x7, x8] (.int (I u v.toNatClampNeg) :: st) cu (K, I, R, L, sz, ex) Q) := by
  rw [x214_1275]
  rfl
theorem v214_1276 {z : P0} {st : List Value} {cu : Nat × Nat} {Q : Res → Mem → Prop} {σ : Mem} {x0 x1 x2 x4 x5 x6 x7 x8 : Option Value} {u : Nat} : X z 214 1276 [x0, x1, x2, some (.ref u), x4, x5, x6, x7, x8] (st) cu σ Q = (X z 214 1277 [x0, x1, x2, some (.ref u), x4, x5, x6, x7, x8] (.ref u :: st) cu σ Q) := by
  rw [x214_1276]
  rfl
theorem u214_1277 {z : P0} {ls : Lcs} {st : List Value} {c n : Nat} {K : Nat → Nat × Nat} {I : Nat → Nat → Int32} {R : Nat → Nat → Option Nat} {L : Nat → Nat → Int64} {sz : Nat} {ex : Bool} {Q : Res → Mem → Prop} {a0 : Nat} {a1 : Int32} {a2 : Nat} : X z 214 1277 ls (.ref a2 :: .int a1 :: .ref a0 :: st) (c, n) (K, I, R, L, sz, ex) Q = (wsum st ≤ 8 ∧ c + 1 ≤ 601024 ∧ n + 6 ≤ 7293034 ∧ X z 210 0 [some (.ref a0), some (.int a1), some (.ref a2), none] [] (0, 0) (K, I, R, L, sz, ex) (aftr (X z) mT 214 1277 ls st (c + 1, n + 6) Q)) := v214_1277
theorem v214_1280 {z : P0} {st : List Value} {cu : Nat × Nat} {Q : Res → Mem → Prop} {σ : Mem} {x0 x1 x2 x3 x4 x5 x6 x7 x8 : Option Value} {u : Int32} : X z 214 1280 [x0, x1, x2, x3, x4, x5, x6, x7, x8] (.int u :: st) cu σ Q = (cat2 x4 = false ∧ X z 214 1282 [x0, x1, x2, x3, x4, some (.int u), x6, x7, x8] (st) cu σ Q) := by
  rw [x214_1280]
  obtain ⟨K, I, R, L, sz, ex⟩ := σ
  exact i_istore.trans sl_5
theorem v214_1282 {z : P0} {st : List Value} {cu : Nat × Nat} {Q : Res → Mem → Prop} {σ : Mem} {x0 x1 x3 x4 x5 x6 x7 x8 : Option Value} {u : Nat} : X z 214 1282 [x0, x1, some (.ref u), x3, x4, x5, x6, x7, x8] (st) cu σ Q = (X z 214 1283 [x0, x1, some (.ref u), x3, x4, x5, x6, x7, x8] (.ref u :: st) cu σ Q) := by
  rw [x214_1282]
  rfl
theorem v214_1283 {z : P0} {st : List Value} {cu : Nat × Nat} {Q : Res → Mem → Prop} {σ : Mem} {x1 x2 x3 x4 x5 x6 x7 x8 : Option Value} {u : Nat} : X z 214 1283 [some (.ref u), x1, x2, x3, x4, x5, x6, x7, x8] (st) cu σ Q = (X z 214 1284 [some (.ref u), x1, x2, x3, x4, x5, x6, x7, x8] (.ref u :: st) cu σ Q) := by
  rw [x214_1283]
  rfl
theorem v214_1284 {z : P0} {st : List Value} {cu : Nat × Nat} {Q : Res → Mem → Prop} {σ : Mem} {x0 x1 x2 x3 x5 x6 x7 x8 : Option Value} {u : Int32} : X z 214 1284 [x0, x1, x2, x3, some (.int u), x5, x6, x7, x8] (st) cu σ Q = (X z 214 1286 [x0, x1, x2, x3, some (.int u), x5, x6, x7, x8] (.int u :: st) cu σ Q) := by
  rw [x214_1284]
  rfl
theorem v214_1286 {z : P0} {st : List Value} {cu : Nat × Nat} {Q : Res → Mem → Prop} {σ : Mem} {x0 x1 x2 x3 x4 x5 x6 x7 x8 : Option Value} : X z 214 1286 [x0, x1, x2, x3, x4, x5, x6, x7, x8] (st) cu σ Q = (X z 214 1287 [x0, x1, x2, x3, x4, x5, x6, x7, x8] (.int (nI 1) :: st) cu σ Q) := by
  rw [x214_1286]
  rfl
theorem v214_1287 {z : P0} {st : List Value} {cu : Nat × Nat} {Q : Res → Mem → Prop} {σ : Mem} {x0 x1 x2 x3 x4 x5 x6 x7 x8 : Option Value} {u v : Int32} : X z 214 1287 [x0, x1, x2, x3, x4, x5, x6, x7, x8] (.int v :: .int u :: st) cu σ Q = (X z 214 1288 [x0, x1, x2, x3, x4, x5, x6, x7, x8] (.int (u + v) :: st) cu σ Q) := by
  rw [x214_1287]
  rfl
theorem v214_1288 {z : P0} {st : List Value} {cu : Nat × Nat} {Q : Res → Mem → Prop} {K : Nat → Nat × Nat} {I : Nat → Nat → Int32} {R : Nat → Nat → Option Nat} {L : Nat → Nat → Int64} {sz : Nat} {ex : Bool} {x0 x1 x2 x3 x4 x5 x6 x7 x8 : Option Value} {u : Nat} {v : Int32} : X z 214 1288 [x0, x1, x2, x3, x4, x5, x6, x7, x8] (.int v :: .ref u :: st) cu (K, I, R, L, sz, ex) Q = (((K u).1 = 20 ∨ (K u).1 = 50) ∧ vp_in v (K u).2 ∧ X z 214 1289 [x0, x1, x2, x3, x4, x5, x6, x7, x8] (.int (I u v.toNatClampNeg) :: st) cu (K, I, R, L, sz, ex) Q) := by
  rw [x214_1288]
  rfl
theorem u214_1289 {z : P0} {ls : Lcs} {st : List Value} {c n : Nat} {K : Nat → Nat × Nat} {I : Nat → Nat → Int32} {R : Nat → Nat → Option Nat} {L : Nat → Nat → Int64} {sz : Nat} {ex : Bool} {Q : Res → Mem → Prop} {x : Nat} {a0 : Int32} : X z 214 1289 ls (.int a0 :: .ref x :: st) (c, n) (K, I, R, L, sz, ex) Q = ((K x).1 = 111 ∧ wsum st ≤ 8 ∧ c + 0 ≤ 601024 ∧ n + 0 ≤ 7293034 ∧ X z 166 0 [some (.ref x), some (.int a0)] [] (0, 0) (K, I, R, L, sz, ex) (aftr (X z) mT 214 1289 ls st (c + 0, n + 0) Q)) := v214_1289
theorem v214_1292 {z : P0} {st : List Value} {cu : Nat × Nat} {Q : Res → Mem → Prop} {σ : Mem} {x0 x1 x2 x3 x4 x5 x6 x7 x8 : Option Value} {u : Int32} : X z 214 1292 [x0, x1, x2, x3, x4, x5, x6, x7, x8] (.int u :: st) cu σ Q = (cat2 x5 = false ∧ X z 214 1294 [x0, x1, x2, x3, x4, x5, some (.int u), x7, x8] (st) cu σ Q) := by
  rw [x214_1292]
  obtain ⟨K, I, R, L, sz, ex⟩ := σ
  exact i_istore.trans sl_6
theorem v214_1294 {z : P0} {st : List Value} {cu : Nat × Nat} {Q : Res → Mem → Prop} {σ : Mem} {x0 x1 x3 x4 x5 x6 x7 x8 : Option Value} {u : Nat} : X z 214 1294 [x0, x1, some (.ref u), x3, x4, x5, x6, x7, x8] (st) cu σ Q = (X z 214 1295 [x0, x1, some (.ref u), x3, x4, x5, x6, x7, x8] (.ref u :: st) cu σ Q) := by
  rw [x214_1294]
  rfl
theorem u214_1295 {z : P0} {ls : Lcs} {st : List Value} {c n : Nat} {K : Nat → Nat × Nat} {I : Nat → Nat → Int32} {R : Nat → Nat → Option Nat} {L : Nat → Nat → Int64} {sz : Nat} {ex : Bool} {Q : Res → Mem → Prop} {x : Nat} : X z 214 1295 ls (.ref x :: st) (c, n) (K, I, R, L, sz, ex) Q = ((K x).1 = 111 ∧ wsum st ≤ 8 ∧ c + 0 ≤ 601024 ∧ n + 0 ≤ 7293034 ∧ X z 105 0 [some (.ref x)] [] (0, 0) (K, I, R, L, sz, ex) (aftr (X z) mT 214 1295 ls st (c + 0, n + 0) Q)) := v214_1295
theorem v214_1298 {z : P0} {st : List Value} {cu : Nat × Nat} {Q : Res → Mem → Prop} {σ : Mem} {x0 x1 x2 x3 x4 x6 x7 x8 : Option Value} {u : Int32} : X z 214 1298 [x0, x1, x2, x3, x4, some (.int u), x6, x7, x8] (st) cu σ Q = (X z 214 1300 [x0, x1, x2, x3, x4, some (.int u), x6, x7, x8] (.int u :: st) cu σ Q) := by
  rw [x214_1298]
  rfl
theorem v214_1300 {z : P0} {st : List Value} {cu : Nat × Nat} {Q : Res → Mem → Prop} {σ : Mem} {x0 x1 x2 x3 x4 x5 x6 x7 x8 : Option Value} {u v : Int32} : X z 214 1300 [x0, x1, x2, x3, x4, x5, x6, x7, x8] (.int v :: .int u :: st) cu σ Q = (if u = v then X z 214 1305 [x0, x1, x2, x3, x4, x5, x6, x7, x8] (st) cu σ Q else X z 214 1303 [x0, x1, x2, x3, x4, x5, x6, x7, x8] (st) cu σ Q) := by
  rw [x214_1300]
  obtain ⟨K, I, R, L, sz, ex⟩ := σ
  exact br_ite
theorem v214_1303 {z : P0} {st : List Value} {cu : Nat × Nat} {Q : Res → Mem → Prop} {σ : Mem} {x0 x1 x2 x3 x4 x5 x6 x7 x8 : Option Value} : X z 214 1303 [x0, x1, x2, x3, x4, x5, x6, x7, x8] (st) cu σ Q = (X z 214 1304 [x0, x1, x2, x3, x4, x5, x6, x7, x8] (.int (nI 0) :: st) cu σ Q) := by
  rw [x214_1303]
  rfl
theorem v214_1304 {z : P0} {cu : Nat × Nat} {Q : Res → Mem → Prop} {σ : Mem} {x0 x1 x2 x3 x4 x5 x6 x7 x8 : Option Value} {v : Int32} : X z 214 1304 [x0, x1, x2, x3, x4, x5, x6, x7, x8] ([.int v]) cu σ Q = ((v = nI 0 ∨ v = nI 1) ∧ Q (.inl (some (.int v))) σ) := by
  rw [x214_1304]
  rw [nI_0, one1]
  rfl
theorem v214_1305 {z : P0} {st : List Value} {cu : Nat × Nat} {Q : Res → Mem → Prop} {σ : Mem} {x0 x1 x2 x3 x4 x6 x7 x8 : Option Value} {u : Int32} : X z 214 1305 [x0, x1, x2, x3, x4, some (.int u), x6, x7, x8] (st) cu σ Q = (X z 214 1307 [x0, x1, x2, x3, x4, some (.int u), x6, x7, x8] (.int u :: st) cu σ Q) := by
  rw [x214_1305]
  rfl
theorem v214_1307 {z : P0} {st : List Value} {cu : Nat × Nat} {Q : Res → Mem → Prop} {σ : Mem} {x0 x1 x2 x3 x4 x5 x6 x7 x8 : Option Value} {u : Int32} : X z 214 1307 [x0, x1, x2, x3, x4, x5, x6, x7, x8] (.int u :: st) cu σ Q = (if u = nI 0 then X z 214 1310 [x0, x1, x2, x3, x4, x5, x6, x7, x8] (st) cu σ Q else X z 214 1322 [x0, x1, x2, x3, x4, x5, x6, x7, x8] (st) cu σ Q) := by
  rw [x214_1307]
  rw [nI_0]
  obtain ⟨K, I, R, L, sz, ex⟩ := σ
  exact br_ne
theorem v214_1310 {z : P0} {st : List Value} {cu : Nat × Nat} {Q : Res → Mem → Prop} {σ : Mem} {x0 x1 x2 x4 x5 x6 x7 x8 : Option Value} {u : Nat} : X z 214 1310 [x0, x1, x2, some (.ref u), x4, x5, x6, x7, x8] (st) cu σ Q = (X z 214 1311 [x0, x1, x2, some (.ref u), x4, x5, x6, x7, x8] (.ref u :: st) cu σ Q) := by
  rw [x214_1310]
  rfl
theorem v214_1311 {z : P0} {st : List Value} {cu : Nat × Nat} {Q : Res → Mem → Prop} {σ : Mem} {x0 x1 x2 x3 x4 x5 x6 x7 x8 : Option Value} : X z 214 1311 [x0, x1, x2, x3, x4, x5, x6, x7, x8] (st) cu σ Q = (X z 214 1312 [x0, x1, x2, x3, x4, x5, x6, x7, x8] (.int (nI 0) :: st) cu σ Q) := by
  rw [x214_1311]
  rfl
theorem v214_1312 {z : P0} {st : List Value} {cu : Nat × Nat} {Q : Res → Mem → Prop} {K : Nat → Nat × Nat} {I : Nat → Nat → Int32} {R : Nat → Nat → Option Nat} {L : Nat → Nat → Int64} {sz : Nat} {ex : Bool} {x0 x1 x2 x3 x4 x5 x6 x7 x8 : Option Value} {u : Nat} {v : Int32} : X z 214 1312 [x0, x1, x2, x3, x4, x5, x6, x7, x8] (.int v :: .ref u :: st) cu (K, I, R, L, sz, ex) Q = ((K u).1 = 21 ∧ vp_in v (K u).2 ∧ X z 214 1313 [x0, x1, x2, x3, x4, x5, x6, x7, x8] (.long (L u v.toNatClampNeg) :: st) cu (K, I, R, L, sz, ex) Q) := by
  rw [x214_1312]
  rfl
theorem v214_1313 {z : P0} {st : List Value} {cu : Nat × Nat} {Q : Res → Mem → Prop} {σ : Mem} {x0 x1 x2 x3 x4 x5 x7 x8 : Option Value} {u : Int32} : X z 214 1313 [x0, x1, x2, x3, x4, x5, some (.int u), x7, x8] (st) cu σ Q = (X z 214 1315 [x0, x1, x2, x3, x4, x5, some (.int u), x7, x8] (.int u :: st) cu σ Q) := by
  rw [x214_1313]
  rfl
theorem v214_1315 {z : P0} {st : List Value} {cu : Nat × Nat} {Q : Res → Mem → Prop} {σ : Mem} {x0 x1 x2 x3 x4 x5 x6 x7 x8 : Option Value} {u : Int32} : X z 214 1315 [x0, x1, x2, x3, x4, x5, x6, x7, x8] (.int u :: st) cu σ Q = (X z 214 1316 [x0, x1, x2, x3, x4, x5, x6, x7, x8] (.long u.toInt64 :: st) cu σ Q) := by
  rw [x214_1315]
  rfl
theorem v214_1316 {z : P0} {st : List Value} {cu : Nat × Nat} {Q : Res → Mem → Prop} {σ : Mem} {x0 x1 x2 x3 x4 x5 x6 x7 x8 : Option Value} {u v : Int64} : X z 214 1316 [x0, x1, x2, x3, x4, x5, x6, x7, x8] (.long v :: .long u :: st) cu σ Q = (X z 214 1317 [x0, x1, x2, x3, x4, x5, x6, x7, x8] (.int (lg_cmp u v) :: st) cu σ Q) := by
  rw [x214_1316]
  rfl
theorem v214_1317 {z : P0} {st : List Value} {cu : Nat × Nat} {Q : Res → Mem → Prop} {σ : Mem} {x0 x1 x2 x3 x4 x5 x6 x7 x8 : Option Value} {u : Int32} : X z 214 1317 [x0, x1, x2, x3, x4, x5, x6, x7, x8] (.int u :: st) cu σ Q = (if u = nI 0 then X z 214 1322 [x0, x1, x2, x3, x4, x5, x6, x7, x8] (st) cu σ Q else X z 214 1320 [x0, x1, x2, x3, x4, x5, x6, x7, x8] (st) cu σ Q) := by
  rw [x214_1317]
  rw [nI_0]
  obtain ⟨K, I, R, L, sz, ex⟩ := σ
  exact br_ite
theorem v214_1320 {z : P0} {st : List Value} {cu : Nat × Nat} {Q : Res → Mem → Prop} {σ : Mem} {x0 x1 x2 x3 x4 x5 x6 x7 x8 : Option Value} : X z 214 1320 [x0, x1, x2, x3, x4, x5, x6, x7, x8] (st) cu σ Q = (X z 214 1321 [x0, x1, x2, x3, x4, x5, x6, x7, x8] (.int (nI 0) :: st) cu σ Q) := by
  rw [x214_1320]
  rfl
theorem v214_1321 {z : P0} {cu : Nat × Nat} {Q : Res → Mem → Prop} {σ : Mem} {x0 x1 x2 x3 x4 x5 x6 x7 x8 : Option Value} {v : Int32} : X z 214 1321 [x0, x1, x2, x3, x4, x5, x6, x7, x8] ([.int v]) cu σ Q = ((v = nI 0 ∨ v = nI 1) ∧ Q (.inl (some (.int v))) σ) := by
  rw [x214_1321]
  rw [nI_0, one1]
  rfl
theorem v214_1322 {z : P0} {st : List Value} {cu : Nat × Nat} {Q : Res → Mem → Prop} {σ : Mem} {x0 x1 x2 x3 x4 x5 x6 x7 x8 : Option Value} : X z 214 1322 [x0, x1, x2, x3, x4, x5, x6, x7, x8] (st) cu σ Q = (X z 214 1598 [x0, x1, x2, x3, x4, x5, x6, x7, x8] (st) cu σ Q) := by
  rw [x214_1322]
  rfl
theorem v214_1325 {z : P0} {st : List Value} {cu : Nat × Nat} {Q : Res → Mem → Prop} {σ : Mem} {x0 x2 x3 x4 x5 x6 x7 x8 : Option Value} {u : Nat} : X z 214 1325 [x0, some (.ref u), x2, x3, x4, x5, x6, x7, x8] (st) cu σ Q = (X z 214 1326 [x0, some (.ref u), x2, x3, x4, x5, x6, x7, x8] (.ref u :: st) cu σ Q) := by
  rw [x214_1325]
  rfl
theorem v214_1326 {z : P0} {st : List Value} {cu : Nat × Nat} {Q : Res → Mem → Prop} {σ : Mem} {x1 x2 x3 x4 x5 x6 x7 x8 : Option Value} {u : Nat} : X z 214 1326 [some (.ref u), x1, x2, x3, x4, x5, x6, x7, x8] (st) cu σ Q = (X z 214 1327 [some (.ref u), x1, x2, x3, x4, x5, x6, x7, x8] (.ref u :: st) cu σ Q) := by
  rw [x214_1326]
  rfl
theorem v214_1327 {z : P0} {st : List Value} {cu : Nat × Nat} {Q : Res → Mem → Prop} {σ : Mem} {x0 x1 x2 x3 x5 x6 x7 x8 : Option Value} {u : Int32} : X z 214 1327 [x0, x1, x2, x3, some (.int u), x5, x6, x7, x8] (st) cu σ Q = (X z 214 1329 [x0, x1, x2, x3, some (.int u), x5, x6, x7, x8] (.int u :: st) cu σ Q) := by
  rw [x214_1327]
  rfl
theorem v214_1329 {z : P0} {st : List Value} {cu : Nat × Nat} {Q : Res → Mem → Prop} {σ : Mem} {x0 x1 x2 x3 x4 x5 x6 x7 x8 : Option Value} : X z 214 1329 [x0, x1, x2, x3, x4, x5, x6, x7, x8] (st) cu σ Q = (X z 214 1330 [x0, x1, x2, x3, x4, x5, x6, x7, x8] (.int (nI 1) :: st) cu σ Q) := by
  rw [x214_1329]
  rfl
theorem v214_1330 {z : P0} {st : List Value} {cu : Nat × Nat} {Q : Res → Mem → Prop} {σ : Mem} {x0 x1 x2 x3 x4 x5 x6 x7 x8 : Option Value} {u v : Int32} : X z 214 1330 [x0, x1, x2, x3, x4, x5, x6, x7, x8] (.int v :: .int u :: st) cu σ Q = (X z 214 1331 [x0, x1, x2, x3, x4, x5, x6, x7, x8] (.int (u + v) :: st) cu σ Q) := by
  rw [x214_1330]
  rfl
theorem v214_1331 {z : P0} {st : List Value} {cu : Nat × Nat} {Q : Res → Mem → Prop} {K : Nat → Nat × Nat} {I : Nat → Nat → Int32} {R : Nat → Nat → Option Nat} {L : Nat → Nat → Int64} {sz : Nat} {ex : Bool} {x0 x1 x2 x3 x4 x5 x6 x7 x8 : Option Value} {u : Nat} {v : Int32} : X z 214 1331 [x0, x1, x2, x3, x4, x5, x6, x7, x8] (.int v :: .ref u :: st) cu (K, I, R, L, sz, ex) Q = (((K u).1 = 20 ∨ (K u).1 = 50) ∧ vp_in v (K u).2 ∧ X z 214 1332 [x0, x1, x2, x3, x4, x5, x6, x7, x8] (.int (I u v.toNatClampNeg) :: st) cu (K, I, R, L, sz, ex) Q) := by
  rw [x214_1331]
  rfl
theorem v214_1332 {z : P0} {st : List Value} {cu : Nat × Nat} {Q : Res → Mem → Prop} {σ : Mem} {x0 x1 x2 x4 x5 x6 x7 x8 : Option Value} {u : Nat} : X z 214 1332 [x0, x1, x2, some (.ref u), x4, x5, x6, x7, x8] (st) cu σ Q = (X z 214 1333 [x0, x1, x2, some (.ref u), x4, x5, x6, x7, x8] (.ref u :: st) cu σ Q) := by
  rw [x214_1332]
  rfl
theorem u214_1333 {z : P0} {ls : Lcs} {st : List Value} {c n : Nat} {K : Nat → Nat × Nat} {I : Nat → Nat → Int32} {R : Nat → Nat → Option Nat} {L : Nat → Nat → Int64} {sz : Nat} {ex : Bool} {Q : Res → Mem → Prop} {a0 : Nat} {a1 : Int32} {a2 : Nat} : X z 214 1333 ls (.ref a2 :: .int a1 :: .ref a0 :: st) (c, n) (K, I, R, L, sz, ex) Q = (wsum st ≤ 8 ∧ c + 1 ≤ 601024 ∧ n + 6 ≤ 7293034 ∧ X z 211 0 [some (.ref a0), some (.int a1), some (.ref a2), none] [] (0, 0) (K, I, R, L, sz, ex) (aftr (X z) mT 214 1333 ls st (c + 1, n + 6) Q)) := v214_1333
theorem v214_1336 {z : P0} {st : List Value} {cu : Nat × Nat} {Q : Res → Mem → Prop} {σ : Mem} {x0 x1 x2 x3 x4 x5 x6 x7 x8 : Option Value} {u : Int32} : X z 214 1336 [x0, x1, x2, x3, x4, x5, x6, x7, x8] (.int u :: st) cu σ Q = (cat2 x4 = false ∧ X z 214 1338 [x0, x1, x2, x3, x4, some (.int u), x6, x7, x8] (st) cu σ Q) := by
  rw [x214_1336]
  obtain ⟨K, I, R, L, sz, ex⟩ := σ
  exact i_istore.trans sl_5
theorem v214_1338 {z : P0} {st : List Value} {cu : Nat × Nat} {Q : Res → Mem → Prop} {σ : Mem} {x0 x1 x3 x4 x5 x6 x7 x8 : Option Value} {u : Nat} : X z 214 1338 [x0, x1, some (.ref u), x3, x4, x5, x6, x7, x8] (st) cu σ Q = (X z 214 1339 [x0, x1, some (.ref u), x3, x4, x5, x6, x7, x8] (.ref u :: st) cu σ Q) := by
  rw [x214_1338]
  rfl
theorem v214_1339 {z : P0} {st : List Value} {cu : Nat × Nat} {Q : Res → Mem → Prop} {σ : Mem} {x1 x2 x3 x4 x5 x6 x7 x8 : Option Value} {u : Nat} : X z 214 1339 [some (.ref u), x1, x2, x3, x4, x5, x6, x7, x8] (st) cu σ Q = (X z 214 1340 [some (.ref u), x1, x2, x3, x4, x5, x6, x7, x8] (.ref u :: st) cu σ Q) := by
  rw [x214_1339]
  rfl
theorem v214_1340 {z : P0} {st : List Value} {cu : Nat × Nat} {Q : Res → Mem → Prop} {σ : Mem} {x0 x1 x2 x3 x5 x6 x7 x8 : Option Value} {u : Int32} : X z 214 1340 [x0, x1, x2, x3, some (.int u), x5, x6, x7, x8] (st) cu σ Q = (X z 214 1342 [x0, x1, x2, x3, some (.int u), x5, x6, x7, x8] (.int u :: st) cu σ Q) := by
  rw [x214_1340]
  rfl
theorem v214_1342 {z : P0} {st : List Value} {cu : Nat × Nat} {Q : Res → Mem → Prop} {σ : Mem} {x0 x1 x2 x3 x4 x5 x6 x7 x8 : Option Value} : X z 214 1342 [x0, x1, x2, x3, x4, x5, x6, x7, x8] (st) cu σ Q = (X z 214 1343 [x0, x1, x2, x3, x4, x5, x6, x7, x8] (.int (nI 1) :: st) cu σ Q) := by
  rw [x214_1342]
  rfl
theorem v214_1343 {z : P0} {st : List Value} {cu : Nat × Nat} {Q : Res → Mem → Prop} {σ : Mem} {x0 x1 x2 x3 x4 x5 x6 x7 x8 : Option Value} {u v : Int32} : X z 214 1343 [x0, x1, x2, x3, x4, x5, x6, x7, x8] (.int v :: .int u :: st) cu σ Q = (X z 214 1344 [x0, x1, x2, x3, x4, x5, x6, x7, x8] (.int (u + v) :: st) cu σ Q) := by
  rw [x214_1343]
  rfl
theorem v214_1344 {z : P0} {st : List Value} {cu : Nat × Nat} {Q : Res → Mem → Prop} {K : Nat → Nat × Nat} {I : Nat → Nat → Int32} {R : Nat → Nat → Option Nat} {L : Nat → Nat → Int64} {sz : Nat} {ex : Bool} {x0 x1 x2 x3 x4 x5 x6 x7 x8 : Option Value} {u : Nat} {v : Int32} : X z 214 1344 [x0, x1, x2, x3, x4, x5, x6, x7, x8] (.int v :: .ref u :: st) cu (K, I, R, L, sz, ex) Q = (((K u).1 = 20 ∨ (K u).1 = 50) ∧ vp_in v (K u).2 ∧ X z 214 1345 [x0, x1, x2, x3, x4, x5, x6, x7, x8] (.int (I u v.toNatClampNeg) :: st) cu (K, I, R, L, sz, ex) Q) := by
  rw [x214_1344]
  rfl
theorem u214_1345 {z : P0} {ls : Lcs} {st : List Value} {c n : Nat} {K : Nat → Nat × Nat} {I : Nat → Nat → Int32} {R : Nat → Nat → Option Nat} {L : Nat → Nat → Int64} {sz : Nat} {ex : Bool} {Q : Res → Mem → Prop} {x : Nat} {a0 : Int32} : X z 214 1345 ls (.int a0 :: .ref x :: st) (c, n) (K, I, R, L, sz, ex) Q = ((K x).1 = 111 ∧ wsum st ≤ 8 ∧ c + 0 ≤ 601024 ∧ n + 0 ≤ 7293034 ∧ X z 167 0 [some (.ref x), some (.int a0)] [] (0, 0) (K, I, R, L, sz, ex) (aftr (X z) mT 214 1345 ls st (c + 0, n + 0) Q)) := v214_1345
theorem v214_1348 {z : P0} {st : List Value} {cu : Nat × Nat} {Q : Res → Mem → Prop} {σ : Mem} {x0 x1 x2 x3 x4 x5 x6 x7 x8 : Option Value} {u : Int32} : X z 214 1348 [x0, x1, x2, x3, x4, x5, x6, x7, x8] (.int u :: st) cu σ Q = (cat2 x5 = false ∧ X z 214 1350 [x0, x1, x2, x3, x4, x5, some (.int u), x7, x8] (st) cu σ Q) := by
  rw [x214_1348]
  obtain ⟨K, I, R, L, sz, ex⟩ := σ
  exact i_istore.trans sl_6
theorem v214_1350 {z : P0} {st : List Value} {cu : Nat × Nat} {Q : Res → Mem → Prop} {σ : Mem} {x0 x1 x3 x4 x5 x6 x7 x8 : Option Value} {u : Nat} : X z 214 1350 [x0, x1, some (.ref u), x3, x4, x5, x6, x7, x8] (st) cu σ Q = (X z 214 1351 [x0, x1, some (.ref u), x3, x4, x5, x6, x7, x8] (.ref u :: st) cu σ Q) := by
  rw [x214_1350]
  rfl
theorem u214_1351 {z : P0} {ls : Lcs} {st : List Value} {c n : Nat} {K : Nat → Nat × Nat} {I : Nat → Nat → Int32} {R : Nat → Nat → Option Nat} {L : Nat → Nat → Int64} {sz : Nat} {ex : Bool} {Q : Res → Mem → Prop} {x : Nat} : X z 214 1351 ls (.ref x :: st) (c, n) (K, I, R, L, sz, ex) Q = ((K x).1 = 111 ∧ wsum st ≤ 8 ∧ c + 0 ≤ 601024 ∧ n + 0 ≤ 7293034 ∧ X z 105 0 [some (.ref x)] [] (0, 0) (K, I, R, L, sz, ex) (aftr (X z) mT 214 1351 ls st (c + 0, n + 0) Q)) := v214_1351
theorem v214_1354 {z : P0} {st : List Value} {cu : Nat × Nat} {Q : Res → Mem → Prop} {σ : Mem} {x0 x1 x2 x3 x4 x6 x7 x8 : Option Value} {u : Int32} : X z 214 1354 [x0, x1, x2, x3, x4, some (.int u), x6, x7, x8] (st) cu σ Q = (X z 214 1356 [x0, x1, x2, x3, x4, some (.int u), x6, x7, x8] (.int u :: st) cu σ Q) := by
  rw [x214_1354]
  rfl
theorem v214_1356 {z : P0} {st : List Value} {cu : Nat × Nat} {Q : Res → Mem → Prop} {σ : Mem} {x0 x1 x2 x3 x4 x5 x6 x7 x8 : Option Value} {u v : Int32} : X z 214 1356 [x0, x1, x2, x3, x4, x5, x6, x7, x8] (.int v :: .int u :: st) cu σ Q = (if u = v then X z 214 1361 [x0, x1, x2, x3, x4, x5, x6, x7, x8] (st) cu σ Q else X z 214 1359 [x0, x1, x2, x3, x4, x5, x6, x7, x8] (st) cu σ Q) := by
  rw [x214_1356]
  obtain ⟨K, I, R, L, sz, ex⟩ := σ
  exact br_ite
theorem v214_1359 {z : P0} {st : List Value} {cu : Nat × Nat} {Q : Res → Mem → Prop} {σ : Mem} {x0 x1 x2 x3 x4 x5 x6 x7 x8 : Option Value} : X z 214 1359 [x0, x1, x2, x3, x4, x5, x6, x7, x8] (st) cu σ Q = (X z 214 1360 [x0, x1, x2, x3, x4, x5, x6, x7, x8] (.int (nI 0) :: st) cu σ Q) := by
  rw [x214_1359]
  rfl
theorem v214_1360 {z : P0} {cu : Nat × Nat} {Q : Res → Mem → Prop} {σ : Mem} {x0 x1 x2 x3 x4 x5 x6 x7 x8 : Option Value} {v : Int32} : X z 214 1360 [x0, x1, x2, x3, x4, x5, x6, x7, x8] ([.int v]) cu σ Q = ((v = nI 0 ∨ v = nI 1) ∧ Q (.inl (some (.int v))) σ) := by
  rw [x214_1360]
  rw [nI_0, one1]
  rfl
theorem v214_1361 {z : P0} {st : List Value} {cu : Nat × Nat} {Q : Res → Mem → Prop} {σ : Mem} {x0 x1 x2 x3 x4 x6 x7 x8 : Option Value} {u : Int32} : X z 214 1361 [x0, x1, x2, x3, x4, some (.int u), x6, x7, x8] (st) cu σ Q = (X z 214 1363 [x0, x1, x2, x3, x4, some (.int u), x6, x7, x8] (.int u :: st) cu σ Q) := by
  rw [x214_1361]
  rfl
theorem v214_1363 {z : P0} {st : List Value} {cu : Nat × Nat} {Q : Res → Mem → Prop} {σ : Mem} {x0 x1 x2 x3 x4 x5 x6 x7 x8 : Option Value} {u : Int32} : X z 214 1363 [x0, x1, x2, x3, x4, x5, x6, x7, x8] (.int u :: st) cu σ Q = (if u = nI 0 then X z 214 1366 [x0, x1, x2, x3, x4, x5, x6, x7, x8] (st) cu σ Q else X z 214 1378 [x0, x1, x2, x3, x4, x5, x6, x7, x8] (st) cu σ Q) := by
  rw [x214_1363]
  rw [nI_0]
  obtain ⟨K, I, R, L, sz, ex⟩ := σ
  exact br_ne
theorem v214_1366 {z : P0} {st : List Value} {cu : Nat × Nat} {Q : Res → Mem → Prop} {σ : Mem} {x0 x1 x2 x4 x5 x6 x7 x8 : Option Value} {u : Nat} : X z 214 1366 [x0, x1, x2, some (.ref u), x4, x5, x6, x7, x8] (st) cu σ Q = (X z 214 1367 [x0, x1, x2, some (.ref u), x4, x5, x6, x7, x8] (.ref u :: st) cu σ Q) := by
  rw [x214_1366]
  rfl
theorem v214_1367 {z : P0} {st : List Value} {cu : Nat × Nat} {Q : Res → Mem → Prop} {σ : Mem} {x0 x1 x2 x3 x4 x5 x6 x7 x8 : Option Value} : X z 214 1367 [x0, x1, x2, x3, x4, x5, x6, x7, x8] (st) cu σ Q = (X z 214 1368 [x0, x1, x2, x3, x4, x5, x6, x7, x8] (.int (nI 0) :: st) cu σ Q) := by
  rw [x214_1367]
  rfl
theorem v214_1368 {z : P0} {st : List Value} {cu : Nat × Nat} {Q : Res → Mem → Prop} {K : Nat → Nat × Nat} {I : Nat → Nat → Int32} {R : Nat → Nat → Option Nat} {L : Nat → Nat → Int64} {sz : Nat} {ex : Bool} {x0 x1 x2 x3 x4 x5 x6 x7 x8 : Option Value} {u : Nat} {v : Int32} : X z 214 1368 [x0, x1, x2, x3, x4, x5, x6, x7, x8] (.int v :: .ref u :: st) cu (K, I, R, L, sz, ex) Q = ((K u).1 = 21 ∧ vp_in v (K u).2 ∧ X z 214 1369 [x0, x1, x2, x3, x4, x5, x6, x7, x8] (.long (L u v.toNatClampNeg) :: st) cu (K, I, R, L, sz, ex) Q) := by
  rw [x214_1368]
  rfl
theorem v214_1369 {z : P0} {st : List Value} {cu : Nat × Nat} {Q : Res → Mem → Prop} {σ : Mem} {x0 x1 x2 x3 x4 x5 x7 x8 : Option Value} {u : Int32} : X z 214 1369 [x0, x1, x2, x3, x4, x5, some (.int u), x7, x8] (st) cu σ Q = (X z 214 1371 [x0, x1, x2, x3, x4, x5, some (.int u), x7, x8] (.int u :: st) cu σ Q) := by
  rw [x214_1369]
  rfl
theorem v214_1371 {z : P0} {st : List Value} {cu : Nat × Nat} {Q : Res → Mem → Prop} {σ : Mem} {x0 x1 x2 x3 x4 x5 x6 x7 x8 : Option Value} {u : Int32} : X z 214 1371 [x0, x1, x2, x3, x4, x5, x6, x7, x8] (.int u :: st) cu σ Q = (X z 214 1372 [x0, x1, x2, x3, x4, x5, x6, x7, x8] (.long u.toInt64 :: st) cu σ Q) := by
  rw [x214_1371]
  rfl
theorem v214_1372 {z : P0} {st : List Value} {cu : Nat × Nat} {Q : Res → Mem → Prop} {σ : Mem} {x0 x1 x2 x3 x4 x5 x6 x7 x8 : Option Value} {u v : Int64} : X z 214 1372 [x0, x1, x2, x3, x4, x5, x6, x7, x8] (.long v :: .long u :: st) cu σ Q = (X z 214 1373 [x0, x1, x2, x3, x4, x5, x6, x7, x8] (.int (lg_cmp u v) :: st) cu σ Q) := by
  rw [x214_1372]
  rfl
theorem v214_1373 {z : P0} {st : List Value} {cu : Nat × Nat} {Q : Res → Mem → Prop} {σ : Mem} {x0 x1 x2 x3 x4 x5 x6 x7 x8 : Option Value} {u : Int32} : X z 214 1373 [x0, x1, x2, x3, x4, x5, x6, x7, x8] (.int u :: st) cu σ Q = (if u = nI 0 then X z 214 1378 [x0, x1, x2, x3, x4, x5, x6, x7, x8] (st) cu σ Q else X z 214 1376 [x0, x1, x2, x3, x4, x5, x6, x7, x8] (st) cu σ Q) := by
  rw [x214_1373]
  rw [nI_0]
  obtain ⟨K, I, R, L, sz, ex⟩ := σ
  exact br_ite
theorem v214_1376 {z : P0} {st : List Value} {cu : Nat × Nat} {Q : Res → Mem → Prop} {σ : Mem} {x0 x1 x2 x3 x4 x5 x6 x7 x8 : Option Value} : X z 214 1376 [x0, x1, x2, x3, x4, x5, x6, x7, x8] (st) cu σ Q = (X z 214 1377 [x0, x1, x2, x3, x4, x5, x6, x7, x8] (.int (nI 0) :: st) cu σ Q) := by
  rw [x214_1376]
  rfl
theorem v214_1377 {z : P0} {cu : Nat × Nat} {Q : Res → Mem → Prop} {σ : Mem} {x0 x1 x2 x3 x4 x5 x6 x7 x8 : Option Value} {v : Int32} : X z 214 1377 [x0, x1, x2, x3, x4, x5, x6, x7, x8] ([.int v]) cu σ Q = ((v = nI 0 ∨ v = nI 1) ∧ Q (.inl (some (.int v))) σ) := by
  rw [x214_1377]
  rw [nI_0, one1]
  rfl
theorem v214_1378 {z : P0} {st : List Value} {cu : Nat × Nat} {Q : Res → Mem → Prop} {σ : Mem} {x0 x1 x2 x3 x4 x5 x6 x7 x8 : Option Value} : X z 214 1378 [x0, x1, x2, x3, x4, x5, x6, x7, x8] (st) cu σ Q = (X z 214 1598 [x0, x1, x2, x3, x4, x5, x6, x7, x8] (st) cu σ Q) := by
  rw [x214_1378]
  rfl
theorem v214_1381 {z : P0} {st : List Value} {cu : Nat × Nat} {Q : Res → Mem → Prop} {σ : Mem} {x0 x2 x3 x4 x5 x6 x7 x8 : Option Value} {u : Nat} : X z 214 1381 [x0, some (.ref u), x2, x3, x4, x5, x6, x7, x8] (st) cu σ Q = (X z 214 1382 [x0, some (.ref u), x2, x3, x4, x5, x6, x7, x8] (.ref u :: st) cu σ Q) := by
  rw [x214_1381]
  rfl
theorem v214_1382 {z : P0} {st : List Value} {cu : Nat × Nat} {Q : Res → Mem → Prop} {σ : Mem} {x1 x2 x3 x4 x5 x6 x7 x8 : Option Value} {u : Nat} : X z 214 1382 [some (.ref u), x1, x2, x3, x4, x5, x6, x7, x8] (st) cu σ Q = (X z 214 1383 [some (.ref u), x1, x2, x3, x4, x5, x6, x7, x8] (.ref u :: st) cu σ Q) := by
  rw [x214_1382]
  rfl
theorem v214_1383 {z : P0} {st : List Value} {cu : Nat × Nat} {Q : Res → Mem → Prop} {σ : Mem} {x0 x1 x2 x3 x5 x6 x7 x8 : Option Value} {u : Int32} : X z 214 1383 [x0, x1, x2, x3, some (.int u), x5, x6, x7, x8] (st) cu σ Q = (X z 214 1385 [x0, x1, x2, x3, some (.int u), x5, x6, x7, x8] (.int u :: st) cu σ Q) := by
  rw [x214_1383]
  rfl
theorem v214_1385 {z : P0} {st : List Value} {cu : Nat × Nat} {Q : Res → Mem → Prop} {σ : Mem} {x0 x1 x2 x3 x4 x5 x6 x7 x8 : Option Value} : X z 214 1385 [x0, x1, x2, x3, x4, x5, x6, x7, x8] (st) cu σ Q = (X z 214 1386 [x0, x1, x2, x3, x4, x5, x6, x7, x8] (.int (nI 1) :: st) cu σ Q) := by
  rw [x214_1385]
  rfl
theorem v214_1386 {z : P0} {st : List Value} {cu : Nat × Nat} {Q : Res → Mem → Prop} {σ : Mem} {x0 x1 x2 x3 x4 x5 x6 x7 x8 : Option Value} {u v : Int32} : X z 214 1386 [x0, x1, x2, x3, x4, x5, x6, x7, x8] (.int v :: .int u :: st) cu σ Q = (X z 214 1387 [x0, x1, x2, x3, x4, x5, x6, x7, x8] (.int (u + v) :: st) cu σ Q) := by
  rw [x214_1386]
  rfl
theorem v214_1387 {z : P0} {st : List Value} {cu : Nat × Nat} {Q : Res → Mem → Prop} {K : Nat → Nat × Nat} {I : Nat → Nat → Int32} {R : Nat → Nat → Option Nat} {L : Nat → Nat → Int64} {sz : Nat} {ex : Bool} {x0 x1 x2 x3 x4 x5 x6 x7 x8 : Option Value} {u : Nat} {v : Int32} : X z 214 1387 [x0, x1, x2, x3, x4, x5, x6, x7, x8] (.int v :: .ref u :: st) cu (K, I, R, L, sz, ex) Q = (((K u).1 = 20 ∨ (K u).1 = 50) ∧ vp_in v (K u).2 ∧ X z 214 1388 [x0, x1, x2, x3, x4, x5, x6, x7, x8] (.int (I u v.toNatClampNeg) :: st) cu (K, I, R, L, sz, ex) Q) := by
  rw [x214_1387]
  rfl
theorem v214_1388 {z : P0} {st : List Value} {cu : Nat × Nat} {Q : Res → Mem → Prop} {σ : Mem} {x1 x2 x3 x4 x5 x6 x7 x8 : Option Value} {u : Nat} : X z 214 1388 [some (.ref u), x1, x2, x3, x4, x5, x6, x7, x8] (st) cu σ Q = (X z 214 1389 [some (.ref u), x1, x2, x3, x4, x5, x6, x7, x8] (.ref u :: st) cu σ Q) := by
  rw [x214_1388]
  rfl
theorem v214_1389 {z : P0} {st : List Value} {cu : Nat × Nat} {Q : Res → Mem → Prop} {σ : Mem} {x0 x1 x2 x3 x5 x6 x7 x8 : Option Value} {u : Int32} : X z 214 1389 [x0, x1, x2, x3, some (.int u), x5, x6, x7, x8] (st) cu σ Q = (X z 214 1391 [x0, x1, x2, x3, some (.int u), x5, x6, x7, x8] (.int u :: st) cu σ Q) := by
  rw [x214_1389]
  rfl
theorem v214_1391 {z : P0} {st : List Value} {cu : Nat × Nat} {Q : Res → Mem → Prop} {σ : Mem} {x0 x1 x2 x3 x4 x5 x6 x7 x8 : Option Value} : X z 214 1391 [x0, x1, x2, x3, x4, x5, x6, x7, x8] (st) cu σ Q = (X z 214 1392 [x0, x1, x2, x3, x4, x5, x6, x7, x8] (.int (nI 2) :: st) cu σ Q) := by
  rw [x214_1391]
  rfl
theorem v214_1392 {z : P0} {st : List Value} {cu : Nat × Nat} {Q : Res → Mem → Prop} {σ : Mem} {x0 x1 x2 x3 x4 x5 x6 x7 x8 : Option Value} {u v : Int32} : X z 214 1392 [x0, x1, x2, x3, x4, x5, x6, x7, x8] (.int v :: .int u :: st) cu σ Q = (X z 214 1393 [x0, x1, x2, x3, x4, x5, x6, x7, x8] (.int (u + v) :: st) cu σ Q) := by
  rw [x214_1392]
  rfl
theorem v214_1393 {z : P0} {st : List Value} {cu : Nat × Nat} {Q : Res → Mem → Prop} {K : Nat → Nat × Nat} {I : Nat → Nat → Int32} {R : Nat → Nat → Option Nat} {L : Nat → Nat → Int64} {sz : Nat} {ex : Bool} {x0 x1 x2 x3 x4 x5 x6 x7 x8 : Option Value} {u : Nat} {v : Int32} : X z 214 1393 [x0, x1, x2, x3, x4, x5, x6, x7, x8] (.int v :: .ref u :: st) cu (K, I, R, L, sz, ex) Q = (((K u).1 = 20 ∨ (K u).1 = 50) ∧ vp_in v (K u).2 ∧ X z 214 1394 [x0, x1, x2, x3, x4, x5, x6, x7, x8] (.int (I u v.toNatClampNeg) :: st) cu (K, I, R, L, sz, ex) Q) := by
  rw [x214_1393]
  rfl
theorem v214_1394 {z : P0} {st : List Value} {cu : Nat × Nat} {Q : Res → Mem → Prop} {σ : Mem} {x1 x2 x3 x4 x5 x6 x7 x8 : Option Value} {u : Nat} : X z 214 1394 [some (.ref u), x1, x2, x3, x4, x5, x6, x7, x8] (st) cu σ Q = (X z 214 1395 [some (.ref u), x1, x2, x3, x4, x5, x6, x7, x8] (.ref u :: st) cu σ Q) := by
  rw [x214_1394]
  rfl
theorem v214_1395 {z : P0} {st : List Value} {cu : Nat × Nat} {Q : Res → Mem → Prop} {σ : Mem} {x0 x1 x2 x3 x5 x6 x7 x8 : Option Value} {u : Int32} : X z 214 1395 [x0, x1, x2, x3, some (.int u), x5, x6, x7, x8] (st) cu σ Q = (X z 214 1397 [x0, x1, x2, x3, some (.int u), x5, x6, x7, x8] (.int u :: st) cu σ Q) := by
  rw [x214_1395]
  rfl
theorem v214_1397 {z : P0} {st : List Value} {cu : Nat × Nat} {Q : Res → Mem → Prop} {σ : Mem} {x0 x1 x2 x3 x4 x5 x6 x7 x8 : Option Value} : X z 214 1397 [x0, x1, x2, x3, x4, x5, x6, x7, x8] (st) cu σ Q = (X z 214 1398 [x0, x1, x2, x3, x4, x5, x6, x7, x8] (.int (nI 3) :: st) cu σ Q) := by
  rw [x214_1397]
  rfl
theorem v214_1398 {z : P0} {st : List Value} {cu : Nat × Nat} {Q : Res → Mem → Prop} {σ : Mem} {x0 x1 x2 x3 x4 x5 x6 x7 x8 : Option Value} {u v : Int32} : X z 214 1398 [x0, x1, x2, x3, x4, x5, x6, x7, x8] (.int v :: .int u :: st) cu σ Q = (X z 214 1399 [x0, x1, x2, x3, x4, x5, x6, x7, x8] (.int (u + v) :: st) cu σ Q) := by
  rw [x214_1398]
  rfl
theorem v214_1399 {z : P0} {st : List Value} {cu : Nat × Nat} {Q : Res → Mem → Prop} {K : Nat → Nat × Nat} {I : Nat → Nat → Int32} {R : Nat → Nat → Option Nat} {L : Nat → Nat → Int64} {sz : Nat} {ex : Bool} {x0 x1 x2 x3 x4 x5 x6 x7 x8 : Option Value} {u : Nat} {v : Int32} : X z 214 1399 [x0, x1, x2, x3, x4, x5, x6, x7, x8] (.int v :: .ref u :: st) cu (K, I, R, L, sz, ex) Q = (((K u).1 = 20 ∨ (K u).1 = 50) ∧ vp_in v (K u).2 ∧ X z 214 1400 [x0, x1, x2, x3, x4, x5, x6, x7, x8] (.int (I u v.toNatClampNeg) :: st) cu (K, I, R, L, sz, ex) Q) := by
  rw [x214_1399]
  rfl
theorem v214_1400 {z : P0} {st : List Value} {cu : Nat × Nat} {Q : Res → Mem → Prop} {σ : Mem} {x0 x1 x2 x4 x5 x6 x7 x8 : Option Value} {u : Nat} : X z 214 1400 [x0, x1, x2, some (.ref u), x4, x5, x6, x7, x8] (st) cu σ Q = (X z 214 1401 [x0, x1, x2, some (.ref u), x4, x5, x6, x7, x8] (.ref u :: st) cu σ Q) := by
  rw [x214_1400]
  rfl
theorem u214_1401 {z : P0} {ls : Lcs} {st : List Value} {c n : Nat} {K : Nat → Nat × Nat} {I : Nat → Nat → Int32} {R : Nat → Nat → Option Nat} {L : Nat → Nat → Int64} {sz : Nat} {ex : Bool} {Q : Res → Mem → Prop} {a0 : Nat} {a1 : Int32} {a2 : Int32} {a3 : Int32} {a4 : Nat} : X z 214 1401 ls (.ref a4 :: .int a3 :: .int a2 :: .int a1 :: .ref a0 :: st) (c, n) (K, I, R, L, sz, ex) Q = (wsum st ≤ 8 ∧ c + 1 ≤ 601024 ∧ n + 6 ≤ 7293034 ∧ X z 212 0 [some (.ref a0), some (.int a1), some (.int a2), some (.int a3), some (.ref a4), none] [] (0, 0) (K, I, R, L, sz, ex) (aftr (X z) mT 214 1401 ls st (c + 1, n + 6) Q)) := v214_1401
theorem v214_1404 {z : P0} {st : List Value} {cu : Nat × Nat} {Q : Res → Mem → Prop} {σ : Mem} {x0 x1 x2 x3 x4 x5 x6 x7 x8 : Option Value} {u : Int32} : X z 214 1404 [x0, x1, x2, x3, x4, x5, x6, x7, x8] (.int u :: st) cu σ Q = (cat2 x4 = false ∧ X z 214 1406 [x0, x1, x2, x3, x4, some (.int u), x6, x7, x8] (st) cu σ Q) := by
  rw [x214_1404]
  obtain ⟨K, I, R, L, sz, ex⟩ := σ
  exact i_istore.trans sl_5
theorem v214_1406 {z : P0} {st : List Value} {cu : Nat × Nat} {Q : Res → Mem → Prop} {σ : Mem} {x0 x1 x3 x4 x5 x6 x7 x8 : Option Value} {u : Nat} : X z 214 1406 [x0, x1, some (.ref u), x3, x4, x5, x6, x7, x8] (st) cu σ Q = (X z 214 1407 [x0, x1, some (.ref u), x3, x4, x5, x6, x7, x8] (.ref u :: st) cu σ Q) := by
  rw [x214_1406]
  rfl
theorem v214_1407 {z : P0} {st : List Value} {cu : Nat × Nat} {Q : Res → Mem → Prop} {σ : Mem} {x1 x2 x3 x4 x5 x6 x7 x8 : Option Value} {u : Nat} : X z 214 1407 [some (.ref u), x1, x2, x3, x4, x5, x6, x7, x8] (st) cu σ Q = (X z 214 1408 [some (.ref u), x1, x2, x3, x4, x5, x6, x7, x8] (.ref u :: st) cu σ Q) := by
  rw [x214_1407]
  rfl
theorem v214_1408 {z : P0} {st : List Value} {cu : Nat × Nat} {Q : Res → Mem → Prop} {σ : Mem} {x0 x1 x2 x3 x5 x6 x7 x8 : Option Value} {u : Int32} : X z 214 1408 [x0, x1, x2, x3, some (.int u), x5, x6, x7, x8] (st) cu σ Q = (X z 214 1410 [x0, x1, x2, x3, some (.int u), x5, x6, x7, x8] (.int u :: st) cu σ Q) := by
  rw [x214_1408]
  rfl
theorem v214_1410 {z : P0} {st : List Value} {cu : Nat × Nat} {Q : Res → Mem → Prop} {σ : Mem} {x0 x1 x2 x3 x4 x5 x6 x7 x8 : Option Value} : X z 214 1410 [x0, x1, x2, x3, x4, x5, x6, x7, x8] (st) cu σ Q = (X z 214 1411 [x0, x1, x2, x3, x4, x5, x6, x7, x8] (.int (nI 1) :: st) cu σ Q) := by
  rw [x214_1410]
  rfl
theorem v214_1411 {z : P0} {st : List Value} {cu : Nat × Nat} {Q : Res → Mem → Prop} {σ : Mem} {x0 x1 x2 x3 x4 x5 x6 x7 x8 : Option Value} {u v : Int32} : X z 214 1411 [x0, x1, x2, x3, x4, x5, x6, x7, x8] (.int v :: .int u :: st) cu σ Q = (X z 214 1412 [x0, x1, x2, x3, x4, x5, x6, x7, x8] (.int (u + v) :: st) cu σ Q) := by
  rw [x214_1411]
  rfl
theorem v214_1412 {z : P0} {st : List Value} {cu : Nat × Nat} {Q : Res → Mem → Prop} {K : Nat → Nat × Nat} {I : Nat → Nat → Int32} {R : Nat → Nat → Option Nat} {L : Nat → Nat → Int64} {sz : Nat} {ex : Bool} {x0 x1 x2 x3 x4 x5 x6 x7 x8 : Option Value} {u : Nat} {v : Int32} : X z 214 1412 [x0, x1, x2, x3, x4, x5, x6, x7, x8] (.int v :: .ref u :: st) cu (K, I, R, L, sz, ex) Q = (((K u).1 = 20 ∨ (K u).1 = 50) ∧ vp_in v (K u).2 ∧ X z 214 1413 [x0, x1, x2, x3, x4, x5, x6, x7, x8] (.int (I u v.toNatClampNeg) :: st) cu (K, I, R, L, sz, ex) Q) := by
  rw [x214_1412]
  rfl
theorem v214_1413 {z : P0} {st : List Value} {cu : Nat × Nat} {Q : Res → Mem → Prop} {σ : Mem} {x1 x2 x3 x4 x5 x6 x7 x8 : Option Value} {u : Nat} : X z 214 1413 [some (.ref u), x1, x2, x3, x4, x5, x6, x7, x8] (st) cu σ Q = (X z 214 1414 [some (.ref u), x1, x2, x3, x4, x5, x6, x7, x8] (.ref u :: st) cu σ Q) := by
  rw [x214_1413]
  rfl
theorem v214_1414 {z : P0} {st : List Value} {cu : Nat × Nat} {Q : Res → Mem → Prop} {σ : Mem} {x0 x1 x2 x3 x5 x6 x7 x8 : Option Value} {u : Int32} : X z 214 1414 [x0, x1, x2, x3, some (.int u), x5, x6, x7, x8] (st) cu σ Q = (X z 214 1416 [x0, x1, x2, x3, some (.int u), x5, x6, x7, x8] (.int u :: st) cu σ Q) := by
  rw [x214_1414]
  rfl
theorem v214_1416 {z : P0} {st : List Value} {cu : Nat × Nat} {Q : Res → Mem → Prop} {σ : Mem} {x0 x1 x2 x3 x4 x5 x6 x7 x8 : Option Value} : X z 214 1416 [x0, x1, x2, x3, x4, x5, x6, x7, x8] (st) cu σ Q = (X z 214 1417 [x0, x1, x2, x3, x4, x5, x6, x7, x8] (.int (nI 2) :: st) cu σ Q) := by
  rw [x214_1416]
  rfl
theorem v214_1417 {z : P0} {st : List Value} {cu : Nat × Nat} {Q : Res → Mem → Prop} {σ : Mem} {x0 x1 x2 x3 x4 x5 x6 x7 x8 : Option Value} {u v : Int32} : X z 214 1417 [x0, x1, x2, x3, x4, x5, x6, x7, x8] (.int v :: .int u :: st) cu σ Q = (X z 214 1418 [x0, x1, x2, x3, x4, x5, x6, x7, x8] (.int (u + v) :: st) cu σ Q) := by
  rw [x214_1417]
  rfl
theorem v214_1418 {z : P0} {st : List Value} {cu : Nat × Nat} {Q : Res → Mem → Prop} {K : Nat → Nat × Nat} {I : Nat → Nat → Int32} {R : Nat → Nat → Option Nat} {L : Nat → Nat → Int64} {sz : Nat} {ex : Bool} {x0 x1 x2 x3 x4 x5 x6 x7 x8 : Option Value} {u : Nat} {v : Int32} : X z 214 1418 [x0, x1, x2, x3, x4, x5, x6, x7, x8] (.int v :: .ref u :: st) cu (K, I, R, L, sz, ex) Q = (((K u).1 = 20 ∨ (K u).1 = 50) ∧ vp_in v (K u).2 ∧ X z 214 1419 [x0, x1, x2, x3, x4, x5, x6, x7, x8] (.int (I u v.toNatClampNeg) :: st) cu (K, I, R, L, sz, ex) Q) := by
  rw [x214_1418]
  rfl
theorem v214_1419 {z : P0} {st : List Value} {cu : Nat × Nat} {Q : Res → Mem → Prop} {σ : Mem} {x1 x2 x3 x4 x5 x6 x7 x8 : Option Value} {u : Nat} : X z 214 1419 [some (.ref u), x1, x2, x3, x4, x5, x6, x7, x8] (st) cu σ Q = (X z 214 1420 [some (.ref u), x1, x2, x3, x4, x5, x6, x7, x8] (.ref u :: st) cu σ Q) := by
  rw [x214_1419]
  rfl
theorem v214_1420 {z : P0} {st : List Value} {cu : Nat × Nat} {Q : Res → Mem → Prop} {σ : Mem} {x0 x1 x2 x3 x5 x6 x7 x8 : Option Value} {u : Int32} : X z 214 1420 [x0, x1, x2, x3, some (.int u), x5, x6, x7, x8] (st) cu σ Q = (X z 214 1422 [x0, x1, x2, x3, some (.int u), x5, x6, x7, x8] (.int u :: st) cu σ Q) := by
  rw [x214_1420]
  rfl
theorem v214_1422 {z : P0} {st : List Value} {cu : Nat × Nat} {Q : Res → Mem → Prop} {σ : Mem} {x0 x1 x2 x3 x4 x5 x6 x7 x8 : Option Value} : X z 214 1422 [x0, x1, x2, x3, x4, x5, x6, x7, x8] (st) cu σ Q = (X z 214 1423 [x0, x1, x2, x3, x4, x5, x6, x7, x8] (.int (nI 3) :: st) cu σ Q) := by
  rw [x214_1422]
  rfl
theorem v214_1423 {z : P0} {st : List Value} {cu : Nat × Nat} {Q : Res → Mem → Prop} {σ : Mem} {x0 x1 x2 x3 x4 x5 x6 x7 x8 : Option Value} {u v : Int32} : X z 214 1423 [x0, x1, x2, x3, x4, x5, x6, x7, x8] (.int v :: .int u :: st) cu σ Q = (X z 214 1424 [x0, x1, x2, x3, x4, x5, x6, x7, x8] (.int (u + v) :: st) cu σ Q) := by
  rw [x214_1423]
  rfl
theorem v214_1424 {z : P0} {st : List Value} {cu : Nat × Nat} {Q : Res → Mem → Prop} {K : Nat → Nat × Nat} {I : Nat → Nat → Int32} {R : Nat → Nat → Option Nat} {L : Nat → Nat → Int64} {sz : Nat} {ex : Bool} {x0 x1 x2 x3 x4 x5 x6 x7 x8 : Option Value} {u : Nat} {v : Int32} : X z 214 1424 [x0, x1, x2, x3, x4, x5, x6, x7, x8] (.int v :: .ref u :: st) cu (K, I, R, L, sz, ex) Q = (((K u).1 = 20 ∨ (K u).1 = 50) ∧ vp_in v (K u).2 ∧ X z 214 1425 [x0, x1, x2, x3, x4, x5, x6, x7, x8] (.int (I u v.toNatClampNeg) :: st) cu (K, I, R, L, sz, ex) Q) := by
  rw [x214_1424]
  rfl
theorem u214_1425 {z : P0} {ls : Lcs} {st : List Value} {c n : Nat} {K : Nat → Nat × Nat} {I : Nat → Nat → Int32} {R : Nat → Nat → Option Nat} {L : Nat → Nat → Int64} {sz : Nat} {ex : Bool} {Q : Res → Mem → Prop} {x : Nat} {a0 : Int32} {a1 : Int32} {a2 : Int32} : X z 214 1425 ls (.int a2 :: .int a1 :: .int a0 :: .ref x :: st) (c, n) (K, I, R, L, sz, ex) Q = ((K x).1 = 111 ∧ wsum st ≤ 8 ∧ c + 0 ≤ 601024 ∧ n + 0 ≤ 7293034 ∧ X z 169 0 [some (.ref x), some (.int a0), some (.int a1), some (.int a2)] [] (0, 0) (K, I, R, L, sz, ex) (aftr (X z) mT 214 1425 ls st (c + 0, n + 0) Q)) := v214_1425
theorem v214_1428 {z : P0} {st : List Value} {cu : Nat × Nat} {Q : Res → Mem → Prop} {σ : Mem} {x0 x1 x2 x3 x4 x5 x6 x7 x8 : Option Value} {u : Int32} : X z 214 1428 [x0, x1, x2, x3, x4, x5, x6, x7, x8] (.int u :: st) cu σ Q = (cat2 x5 = false ∧ X z 214 1430 [x0, x1, x2, x3, x4, x5, some (.int u), x7, x8] (st) cu σ Q) := by
  rw [x214_1428]
  obtain ⟨K, I, R, L, sz, ex⟩ := σ
  exact i_istore.trans sl_6
theorem v214_1430 {z : P0} {st : List Value} {cu : Nat × Nat} {Q : Res → Mem → Prop} {σ : Mem} {x0 x1 x3 x4 x5 x6 x7 x8 : Option Value} {u : Nat} : X z 214 1430 [x0, x1, some (.ref u), x3, x4, x5, x6, x7, x8] (st) cu σ Q = (X z 214 1431 [x0, x1, some (.ref u), x3, x4, x5, x6, x7, x8] (.ref u :: st) cu σ Q) := by
  rw [x214_1430]
  rfl
theorem u214_1431 {z : P0} {ls : Lcs} {st : List Value} {c n : Nat} {K : Nat → Nat × Nat} {I : Nat → Nat → Int32} {R : Nat → Nat → Option Nat} {L : Nat → Nat → Int64} {sz : Nat} {ex : Bool} {Q : Res → Mem → Prop} {x : Nat} : X z 214 1431 ls (.ref x :: st) (c, n) (K, I, R, L, sz, ex) Q = ((K x).1 = 111 ∧ wsum st ≤ 8 ∧ c + 0 ≤ 601024 ∧ n + 0 ≤ 7293034 ∧ X z 105 0 [some (.ref x)] [] (0, 0) (K, I, R, L, sz, ex) (aftr (X z) mT 214 1431 ls st (c + 0, n + 0) Q)) := v214_1431
theorem v214_1434 {z : P0} {st : List Value} {cu : Nat × Nat} {Q : Res → Mem → Prop} {σ : Mem} {x0 x1 x2 x3 x4 x6 x7 x8 : Option Value} {u : Int32} : X z 214 1434 [x0, x1, x2, x3, x4, some (.int u), x6, x7, x8] (st) cu σ Q = (X z 214 1436 [x0, x1, x2, x3, x4, some (.int u), x6, x7, x8] (.int u :: st) cu σ Q) := by
  rw [x214_1434]
  rfl
theorem v214_1436 {z : P0} {st : List Value} {cu : Nat × Nat} {Q : Res → Mem → Prop} {σ : Mem} {x0 x1 x2 x3 x4 x5 x6 x7 x8 : Option Value} {u v : Int32} : X z 214 1436 [x0, x1, x2, x3, x4, x5, x6, x7, x8] (.int v :: .int u :: st) cu σ Q = (if u = v then X z 214 1441 [x0, x1, x2, x3, x4, x5, x6, x7, x8] (st) cu σ Q else X z 214 1439 [x0, x1, x2, x3, x4, x5, x6, x7, x8] (st) cu σ Q) := by
  rw [x214_1436]
  obtain ⟨K, I, R, L, sz, ex⟩ := σ
  exact br_ite
theorem v214_1439 {z : P0} {st : List Value} {cu : Nat × Nat} {Q : Res → Mem → Prop} {σ : Mem} {x0 x1 x2 x3 x4 x5 x6 x7 x8 : Option Value} : X z 214 1439 [x0, x1, x2, x3, x4, x5, x6, x7, x8] (st) cu σ Q = (X z 214 1440 [x0, x1, x2, x3, x4, x5, x6, x7, x8] (.int (nI 0) :: st) cu σ Q) := by
  rw [x214_1439]
  rfl
theorem v214_1440 {z : P0} {cu : Nat × Nat} {Q : Res → Mem → Prop} {σ : Mem} {x0 x1 x2 x3 x4 x5 x6 x7 x8 : Option Value} {v : Int32} : X z 214 1440 [x0, x1, x2, x3, x4, x5, x6, x7, x8] ([.int v]) cu σ Q = ((v = nI 0 ∨ v = nI 1) ∧ Q (.inl (some (.int v))) σ) := by
  rw [x214_1440]
  rw [nI_0, one1]
  rfl
theorem v214_1441 {z : P0} {st : List Value} {cu : Nat × Nat} {Q : Res → Mem → Prop} {σ : Mem} {x0 x1 x2 x3 x4 x6 x7 x8 : Option Value} {u : Int32} : X z 214 1441 [x0, x1, x2, x3, x4, some (.int u), x6, x7, x8] (st) cu σ Q = (X z 214 1443 [x0, x1, x2, x3, x4, some (.int u), x6, x7, x8] (.int u :: st) cu σ Q) := by
  rw [x214_1441]
  rfl
theorem v214_1443 {z : P0} {st : List Value} {cu : Nat × Nat} {Q : Res → Mem → Prop} {σ : Mem} {x0 x1 x2 x3 x4 x5 x6 x7 x8 : Option Value} {u : Int32} : X z 214 1443 [x0, x1, x2, x3, x4, x5, x6, x7, x8] (.int u :: st) cu σ Q = (if u = nI 0 then X z 214 1446 [x0, x1, x2, x3, x4, x5, x6, x7, x8] (st) cu σ Q else X z 214 1458 [x0, x1, x2, x3, x4, x5, x6, x7, x8] (st) cu σ Q) := by
  rw [x214_1443]
  rw [nI_0]
  obtain ⟨K, I, R, L, sz, ex⟩ := σ
  exact br_ne
theorem v214_1446 {z : P0} {st : List Value} {cu : Nat × Nat} {Q : Res → Mem → Prop} {σ : Mem} {x0 x1 x2 x4 x5 x6 x7 x8 : Option Value} {u : Nat} : X z 214 1446 [x0, x1, x2, some (.ref u), x4, x5, x6, x7, x8] (st) cu σ Q = (X z 214 1447 [x0, x1, x2, some (.ref u), x4, x5, x6, x7, x8] (.ref u :: st) cu σ Q) := by
  rw [x214_1446]
  rfl
theorem v214_1447 {z : P0} {st : List Value} {cu : Nat × Nat} {Q : Res → Mem → Prop} {σ : Mem} {x0 x1 x2 x3 x4 x5 x6 x7 x8 : Option Value} : X z 214 1447 [x0, x1, x2, x3, x4, x5, x6, x7, x8] (st) cu σ Q = (X z 214 1448 [x0, x1, x2, x3, x4, x5, x6, x7, x8] (.int (nI 0) :: st) cu σ Q) := by
  rw [x214_1447]
  rfl
theorem v214_1448 {z : P0} {st : List Value} {cu : Nat × Nat} {Q : Res → Mem → Prop} {K : Nat → Nat × Nat} {I : Nat → Nat → Int32} {R : Nat → Nat → Option Nat} {L : Nat → Nat → Int64} {sz : Nat} {ex : Bool} {x0 x1 x2 x3 x4 x5 x6 x7 x8 : Option Value} {u : Nat} {v : Int32} : X z 214 1448 [x0, x1, x2, x3, x4, x5, x6, x7, x8] (.int v :: .ref u :: st) cu (K, I, R, L, sz, ex) Q = ((K u).1 = 21 ∧ vp_in v (K u).2 ∧ X z 214 1449 [x0, x1, x2, x3, x4, x5, x6, x7, x8] (.long (L u v.toNatClampNeg) :: st) cu (K, I, R, L, sz, ex) Q) := by
  rw [x214_1448]
  rfl
theorem v214_1449 {z : P0} {st : List Value} {cu : Nat × Nat} {Q : Res → Mem → Prop} {σ : Mem} {x0 x1 x2 x3 x4 x5 x7 x8 : Option Value} {u : Int32} : X z 214 1449 [x0, x1, x2, x3, x4, x5, some (.int u), x7, x8] (st) cu σ Q = (X z 214 1451 [x0, x1, x2, x3, x4, x5, some (.int u), x7, x8] (.int u :: st) cu σ Q) := by
  rw [x214_1449]
  rfl
theorem v214_1451 {z : P0} {st : List Value} {cu : Nat × Nat} {Q : Res → Mem → Prop} {σ : Mem} {x0 x1 x2 x3 x4 x5 x6 x7 x8 : Option Value} {u : Int32} : X z 214 1451 [x0, x1, x2, x3, x4, x5, x6, x7, x8] (.int u :: st) cu σ Q = (X z 214 1452 [x0, x1, x2, x3, x4, x5, x6, x7, x8] (.long u.toInt64 :: st) cu σ Q) := by
  rw [x214_1451]
  rfl
theorem v214_1452 {z : P0} {st : List Value} {cu : Nat × Nat} {Q : Res → Mem → Prop} {σ : Mem} {x0 x1 x2 x3 x4 x5 x6 x7 x8 : Option Value} {u v : Int64} : X z 214 1452 [x0, x1, x2, x3, x4, x5, x6, x7, x8] (.long v :: .long u :: st) cu σ Q = (X z 214 1453 [x0, x1, x2, x3, x4, x5, x6, x7, x8] (.int (lg_cmp u v) :: st) cu σ Q) := by
  rw [x214_1452]
  rfl
theorem v214_1453 {z : P0} {st : List Value} {cu : Nat × Nat} {Q : Res → Mem → Prop} {σ : Mem} {x0 x1 x2 x3 x4 x5 x6 x7 x8 : Option Value} {u : Int32} : X z 214 1453 [x0, x1, x2, x3, x4, x5, x6, x7, x8] (.int u :: st) cu σ Q = (if u = nI 0 then X z 214 1458 [x0, x1, x2, x3, x4, x5, x6, x7, x8] (st) cu σ Q else X z 214 1456 [x0, x1, x2, x3, x4, x5, x6, x7, x8] (st) cu σ Q) := by
  rw [x214_1453]
  rw [nI_0]
  obtain ⟨K, I, R, L, sz, ex⟩ := σ
  exact br_ite
theorem v214_1456 {z : P0} {st : List Value} {cu : Nat × Nat} {Q : Res → Mem → Prop} {σ : Mem} {x0 x1 x2 x3 x4 x5 x6 x7 x8 : Option Value} : X z 214 1456 [x0, x1, x2, x3, x4, x5, x6, x7, x8] (st) cu σ Q = (X z 214 1457 [x0, x1, x2, x3, x4, x5, x6, x7, x8] (.int (nI 0) :: st) cu σ Q) := by
  rw [x214_1456]
  rfl
theorem v214_1457 {z : P0} {cu : Nat × Nat} {Q : Res → Mem → Prop} {σ : Mem} {x0 x1 x2 x3 x4 x5 x6 x7 x8 : Option Value} {v : Int32} : X z 214 1457 [x0, x1, x2, x3, x4, x5, x6, x7, x8] ([.int v]) cu σ Q = ((v = nI 0 ∨ v = nI 1) ∧ Q (.inl (some (.int v))) σ) := by
  rw [x214_1457]
  rw [nI_0, one1]
  rfl
theorem v214_1458 {z : P0} {st : List Value} {cu : Nat × Nat} {Q : Res → Mem → Prop} {σ : Mem} {x0 x1 x2 x3 x4 x5 x6 x7 x8 : Option Value} : X z 214 1458 [x0, x1, x2, x3, x4, x5, x6, x7, x8] (st) cu σ Q = (X z 214 1598 [x0, x1, x2, x3, x4, x5, x6, x7, x8] (st) cu σ Q) := by
  rw [x214_1458]
  rfl
theorem v214_1461 {z : P0} {st : List Value} {cu : Nat × Nat} {Q : Res → Mem → Prop} {σ : Mem} {x0 x2 x3 x4 x5 x6 x7 x8 : Option Value} {u : Nat} : X z 214 1461 [x0, some (.ref u), x2, x3, x4, x5, x6, x7, x8] (st) cu σ Q = (X z 214 1462 [x0, some (.ref u), x2, x3, x4, x5, x6, x7, x8] (.ref u :: st) cu σ Q) := by
  rw [x214_1461]
  rfl
theorem u214_1462 {z : P0} {ls : Lcs} {st : List Value} {c n : Nat} {K : Nat → Nat × Nat} {I : Nat → Nat → Int32} {R : Nat → Nat → Option Nat} {L : Nat → Nat → Int64} {sz : Nat} {ex : Bool} {Q : Res → Mem → Prop} {x : Nat} : X z 214 1462 ls (.ref x :: st) (c, n) (K, I, R, L, sz, ex) Q = ((K x).1 = 110 ∧ wsum st ≤ 8 ∧ c + 0 ≤ 601024 ∧ n + 0 ≤ 7293034 ∧ X z 80 0 [some (.ref x), none, none, none, none, none, none] [] (0, 0) (K, I, R, L, sz, ex) (aftr (X z) mT 214 1462 ls st (c + 0, n + 0) Q)) := v214_1462
theorem v214_1465 {z : P0} {st : List Value} {cu : Nat × Nat} {Q : Res → Mem → Prop} {σ : Mem} {x0 x1 x3 x4 x5 x6 x7 x8 : Option Value} {u : Nat} : X z 214 1465 [x0, x1, some (.ref u), x3, x4, x5, x6, x7, x8] (st) cu σ Q = (X z 214 1466 [x0, x1, some (.ref u), x3, x4, x5, x6, x7, x8] (.ref u :: st) cu σ Q) := by
  rw [x214_1465]
  rfl
theorem u214_1466 {z : P0} {ls : Lcs} {st : List Value} {c n : Nat} {K : Nat → Nat × Nat} {I : Nat → Nat → Int32} {R : Nat → Nat → Option Nat} {L : Nat → Nat → Int64} {sz : Nat} {ex : Bool} {Q : Res → Mem → Prop} {x : Nat} : X z 214 1466 ls (.ref x :: st) (c, n) (K, I, R, L, sz, ex) Q = ((K x).1 = 111 ∧ wsum st ≤ 8 ∧ c + 0 ≤ 601024 ∧ n + 0 ≤ 7293034 ∧ X z 171 0 [some (.ref x)] [] (0, 0) (K, I, R, L, sz, ex) (aftr (X z) mT 214 1466 ls st (c + 0, n + 0) Q)) := v214_1466
theorem v214_1469 {z : P0} {st : List Value} {cu : Nat × Nat} {Q : Res → Mem → Prop} {σ : Mem} {x0 x1 x2 x3 x4 x5 x6 x7 x8 : Option Value} {u v : Int32} : X z 214 1469 [x0, x1, x2, x3, x4, x5, x6, x7, x8] (.int v :: .int u :: st) cu σ Q = (if u = v then X z 214 1598 [x0, x1, x2, x3, x4, x5, x6, x7, x8] (st) cu σ Q else X z 214 1472 [x0, x1, x2, x3, x4, x5, x6, x7, x8] (st) cu σ Q) := by
  rw [x214_1469]
  obtain ⟨K, I, R, L, sz, ex⟩ := σ
  exact br_ite
theorem v214_1472 {z : P0} {st : List Value} {cu : Nat × Nat} {Q : Res → Mem → Prop} {σ : Mem} {x0 x1 x2 x3 x4 x5 x6 x7 x8 : Option Value} : X z 214 1472 [x0, x1, x2, x3, x4, x5, x6, x7, x8] (st) cu σ Q = (X z 214 1473 [x0, x1, x2, x3, x4, x5, x6, x7, x8] (.int (nI 0) :: st) cu σ Q) := by
  rw [x214_1472]
  rfl
theorem v214_1473 {z : P0} {cu : Nat × Nat} {Q : Res → Mem → Prop} {σ : Mem} {x0 x1 x2 x3 x4 x5 x6 x7 x8 : Option Value} {v : Int32} : X z 214 1473 [x0, x1, x2, x3, x4, x5, x6, x7, x8] ([.int v]) cu σ Q = ((v = nI 0 ∨ v = nI 1) ∧ Q (.inl (some (.int v))) σ) := by
  rw [x214_1473]
  rw [nI_0, one1]
  rfl
theorem v214_1474 {z : P0} {st : List Value} {cu : Nat × Nat} {Q : Res → Mem → Prop} {σ : Mem} {x0 x2 x3 x4 x5 x6 x7 x8 : Option Value} {u : Nat} : X z 214 1474 [x0, some (.ref u), x2, x3, x4, x5, x6, x7, x8] (st) cu σ Q = (X z 214 1475 [x0, some (.ref u), x2, x3, x4, x5, x6, x7, x8] (.ref u :: st) cu σ Q) := by
  rw [x214_1474]
  rfl
theorem u214_1475 {z : P0} {ls : Lcs} {st : List Value} {c n : Nat} {K : Nat → Nat × Nat} {I : Nat → Nat → Int32} {R : Nat → Nat → Option Nat} {L : Nat → Nat → Int64} {sz : Nat} {ex : Bool} {Q : Res → Mem → Prop} {x : Nat} : X z 214 1475 ls (.ref x :: st) (c, n) (K, I, R, L, sz, ex) Q = ((K x).1 = 110 ∧ wsum st ≤ 8 ∧ c + 0 ≤ 601024 ∧ n + 0 ≤ 7293034 ∧ X z 81 0 [some (.ref x)] [] (0, 0) (K, I, R, L, sz, ex) (aftr (X z) mT 214 1475 ls st (c + 0, n + 0) Q)) := v214_1475
theorem v214_1478 {z : P0} {st : List Value} {cu : Nat × Nat} {Q : Res → Mem → Prop} {σ : Mem} {x0 x1 x3 x4 x5 x6 x7 x8 : Option Value} {u : Nat} : X z 214 1478 [x0, x1, some (.ref u), x3, x4, x5, x6, x7, x8] (st) cu σ Q = (X z 214 1479 [x0, x1, some (.ref u), x3, x4, x5, x6, x7, x8] (.ref u :: st) cu σ Q) := by
  rw [x214_1478]
  rfl
theorem u214_1479 {z : P0} {ls : Lcs} {st : List Value} {c n : Nat} {K : Nat → Nat × Nat} {I : Nat → Nat → Int32} {R : Nat → Nat → Option Nat} {L : Nat → Nat → Int64} {sz : Nat} {ex : Bool} {Q : Res → Mem → Prop} {x : Nat} : X z 214 1479 ls (.ref x :: st) (c, n) (K, I, R, L, sz, ex) Q = ((K x).1 = 111 ∧ wsum st ≤ 8 ∧ c + 0 ≤ 601024 ∧ n + 0 ≤ 7293034 ∧ X z 173 0 [some (.ref x)] [] (0, 0) (K, I, R, L, sz, ex) (aftr (X z) mT 214 1479 ls st (c + 0, n + 0) Q)) := v214_1479
theorem v214_1482 {z : P0} {st : List Value} {cu : Nat × Nat} {Q : Res → Mem → Prop} {σ : Mem} {x0 x1 x2 x3 x4 x5 x6 x7 x8 : Option Value} {u v : Int32} : X z 214 1482 [x0, x1, x2, x3, x4, x5, x6, x7, x8] (.int v :: .int u :: st) cu σ Q = (if u = v then X z 214 1598 [x0, x1, x2, x3, x4, x5, x6, x7, x8] (st) cu σ Q else X z 214 1485 [x0, x1, x2, x3, x4, x5, x6, x7, x8] (st) cu σ Q) := by
  rw [x214_1482]
  obtain ⟨K, I, R, L, sz, ex⟩ := σ
  exact br_ite
theorem v214_1485 {z : P0} {st : List Value} {cu : Nat × Nat} {Q : Res → Mem → Prop} {σ : Mem} {x0 x1 x2 x3 x4 x5 x6 x7 x8 : Option Value} : X z 214 1485 [x0, x1, x2, x3, x4, x5, x6, x7, x8] (st) cu σ Q = (X z 214 1486 [x0, x1, x2, x3, x4, x5, x6, x7, x8] (.int (nI 0) :: st) cu σ Q) := by
  rw [x214_1485]
  rfl
theorem v214_1486 {z : P0} {cu : Nat × Nat} {Q : Res → Mem → Prop} {σ : Mem} {x0 x1 x2 x3 x4 x5 x6 x7 x8 : Option Value} {v : Int32} : X z 214 1486 [x0, x1, x2, x3, x4, x5, x6, x7, x8] ([.int v]) cu σ Q = ((v = nI 0 ∨ v = nI 1) ∧ Q (.inl (some (.int v))) σ) := by
  rw [x214_1486]
  rw [nI_0, one1]
  rfl
theorem v214_1487 {z : P0} {st : List Value} {cu : Nat × Nat} {Q : Res → Mem → Prop} {σ : Mem} {x0 x2 x3 x4 x5 x6 x7 x8 : Option Value} {u : Nat} : X z 214 1487 [x0, some (.ref u), x2, x3, x4, x5, x6, x7, x8] (st) cu σ Q = (X z 214 1488 [x0, some (.ref u), x2, x3, x4, x5, x6, x7, x8] (.ref u :: st) cu σ Q) := by
  rw [x214_1487]
  rfl
theorem v214_1488 {z : P0} {st : List Value} {cu : Nat × Nat} {Q : Res → Mem → Prop} {σ : Mem} {x1 x2 x3 x4 x5 x6 x7 x8 : Option Value} {u : Nat} : X z 214 1488 [some (.ref u), x1, x2, x3, x4, x5, x6, x7, x8] (st) cu σ Q = (X z 214 1489 [some (.ref u), x1, x2, x3, x4, x5, x6, x7, x8] (.ref u :: st) cu σ Q) := by
  rw [x214_1488]
  rfl
theorem v214_1489 {z : P0} {st : List Value} {cu : Nat × Nat} {Q : Res → Mem → Prop} {σ : Mem} {x0 x1 x2 x3 x5 x6 x7 x8 : Option Value} {u : Int32} : X z 214 1489 [x0, x1, x2, x3, some (.int u), x5, x6, x7, x8] (st) cu σ Q = (X z 214 1491 [x0, x1, x2, x3, some (.int u), x5, x6, x7, x8] (.int u :: st) cu σ Q) := by
  rw [x214_1489]
  rfl
theorem v214_1491 {z : P0} {st : List Value} {cu : Nat × Nat} {Q : Res → Mem → Prop} {σ : Mem} {x0 x1 x2 x3 x4 x5 x6 x7 x8 : Option Value} : X z 214 1491 [x0, x1, x2, x3, x4, x5, x6, x7, x8] (st) cu σ Q = (X z 214 1492 [x0, x1, x2, x3, x4, x5, x6, x7, x8] (.int (nI 1) :: st) cu σ Q) := by
  rw [x214_1491]
  rfl
theorem v214_1492 {z : P0} {st : List Value} {cu : Nat × Nat} {Q : Res → Mem → Prop} {σ : Mem} {x0 x1 x2 x3 x4 x5 x6 x7 x8 : Option Value} {u v : Int32} : X z 214 1492 [x0, x1, x2, x3, x4, x5, x6, x7, x8] (.int v :: .int u :: st) cu σ Q = (X z 214 1493 [x0, x1, x2, x3, x4, x5, x6, x7, x8] (.int (u + v) :: st) cu σ Q) := by
  rw [x214_1492]
  rfl
theorem v214_1493 {z : P0} {st : List Value} {cu : Nat × Nat} {Q : Res → Mem → Prop} {K : Nat → Nat × Nat} {I : Nat → Nat → Int32} {R : Nat → Nat → Option Nat} {L : Nat → Nat → Int64} {sz : Nat} {ex : Bool} {x0 x1 x2 x3 x4 x5 x6 x7 x8 : Option Value} {u : Nat} {v : Int32} : X z 214 1493 [x0, x1, x2, x3, x4, x5, x6, x7, x8] (.int v :: .ref u :: st) cu (K, I, R, L, sz, ex) Q = (((K u).1 = 20 ∨ (K u).1 = 50) ∧ vp_in v (K u).2 ∧ X z 214 1494 [x0, x1, x2, x3, x4, x5, x6, x7, x8] (.int (I u v.toNatClampNeg) :: st) cu (K, I, R, L, sz, ex) Q) := by
  rw [x214_1493]
  rfl
theorem v214_1494 {z : P0} {st : List Value} {cu : Nat × Nat} {Q : Res → Mem → Prop} {σ : Mem} {x0 x1 x2 x4 x5 x6 x7 x8 : Option Value} {u : Nat} : X z 214 1494 [x0, x1, x2, some (.ref u), x4, x5, x6, x7, x8] (st) cu σ Q = (X z 214 1495 [x0, x1, x2, some (.ref u), x4, x5, x6, x7, x8] (.ref u :: st) cu σ Q) := by
  rw [x214_1494]
  rfl
theorem u214_1495 {z : P0} {ls : Lcs} {st : List Value} {c n : Nat} {K : Nat → Nat × Nat} {I : Nat → Nat → Int32} {R : Nat → Nat → Option Nat} {L : Nat → Nat → Int64} {sz : Nat} {ex : Bool} {Q : Res → Mem → Prop} {a0 : Nat} {a1 : Int32} {a2 : Nat} : X z 214 1495 ls (.ref a2 :: .int a1 :: .ref a0 :: st) (c, n) (K, I, R, L, sz, ex) Q = (wsum st ≤ 8 ∧ c + 1 ≤ 601024 ∧ n + 6 ≤ 7293034 ∧ X z 213 0 [some (.ref a0), some (.int a1), some (.ref a2), none] [] (0, 0) (K, I, R, L, sz, ex) (aftr (X z) mT 214 1495 ls st (c + 1, n + 6) Q)) := v214_1495
theorem v214_1498 {z : P0} {st : List Value} {cu : Nat × Nat} {Q : Res → Mem → Prop} {σ : Mem} {x0 x1 x2 x3 x4 x5 x6 x7 x8 : Option Value} {u : Int32} : X z 214 1498 [x0, x1, x2, x3, x4, x5, x6, x7, x8] (.int u :: st) cu σ Q = (cat2 x4 = false ∧ X z 214 1500 [x0, x1, x2, x3, x4, some (.int u), x6, x7, x8] (st) cu σ Q) := by
  rw [x214_1498]
  obtain ⟨K, I, R, L, sz, ex⟩ := σ
  exact i_istore.trans sl_5
theorem v214_1500 {z : P0} {st : List Value} {cu : Nat × Nat} {Q : Res → Mem → Prop} {σ : Mem} {x0 x1 x3 x4 x5 x6 x7 x8 : Option Value} {u : Nat} : X z 214 1500 [x0, x1, some (.ref u), x3, x4, x5, x6, x7, x8] (st) cu σ Q = (X z 214 1501 [x0, x1, some (.ref u), x3, x4, x5, x6, x7, x8] (.ref u :: st) cu σ Q) := by
  rw [x214_1500]
  rfl
theorem v214_1501 {z : P0} {st : List Value} {cu : Nat × Nat} {Q : Res → Mem → Prop} {σ : Mem} {x1 x2 x3 x4 x5 x6 x7 x8 : Option Value} {u : Nat} : X z 214 1501 [some (.ref u), x1, x2, x3, x4, x5, x6, x7, x8] (st) cu σ Q = (X z 214 1502 [some (.ref u), x1, x2, x3, x4, x5, x6, x7, x8] (.ref u :: st) cu σ Q) := by
  rw [x214_1501]
  rfl
theorem v214_1502 {z : P0} {st : List Value} {cu : Nat × Nat} {Q : Res → Mem → Prop} {σ : Mem} {x0 x1 x2 x3 x5 x6 x7 x8 : Option Value} {u : Int32} : X z 214 1502 [x0, x1, x2, x3, some (.int u), x5, x6, x7, x8] (st) cu σ Q = (X z 214 1504 [x0, x1, x2, x3, some (.int u), x5, x6, x7, x8] (.int u :: st) cu σ Q) := by
  rw [x214_1502]
  rfl
theorem v214_1504 {z : P0} {st : List Value} {cu : Nat × Nat} {Q : Res → Mem → Prop} {σ : Mem} {x0 x1 x2 x3 x4 x5 x6 x7 x8 : Option Value} : X z 214 1504 [x0, x1, x2, x3, x4, x5, x6, x7, x8] (st) cu σ Q = (X z 214 1505 [x0, x1, x2, x3, x4, x5, x6, x7, x8] (.int (nI 1) :: st) cu σ Q) := by
  rw [x214_1504]
  rfl
theorem v214_1505 {z : P0} {st : List Value} {cu : Nat × Nat} {Q : Res → Mem → Prop} {σ : Mem} {x0 x1 x2 x3 x4 x5 x6 x7 x8 : Option Value} {u v : Int32} : X z 214 1505 [x0, x1, x2, x3, x4, x5, x6, x7, x8] (.int v :: .int u :: st) cu σ Q = (X z 214 1506 [x0, x1, x2, x3, x4, x5, x6, x7, x8] (.int (u + v) :: st) cu σ Q) := by
  rw [x214_1505]
  rfl
theorem v214_1506 {z : P0} {st : List Value} {cu : Nat × Nat} {Q : Res → Mem → Prop} {K : Nat → Nat × Nat} {I : Nat → Nat → Int32} {R : Nat → Nat → Option Nat} {L : Nat → Nat → Int64} {sz : Nat} {ex : Bool} {x0 x1 x2 x3 x4 x5 x6 x7 x8 : Option Value} {u : Nat} {v : Int32} : X z 214 1506 [x0, x1, x2, x3, x4, x5, x6, x7, x8] (.int v :: .ref u :: st) cu (K, I, R, L, sz, ex) Q = (((K u).1 = 20 ∨ (K u).1 = 50) ∧ vp_in v (K u).2 ∧ X z 214 1507 [x0, x1, x2, x3, x4, x5, x6, x7, x8] (.int (I u v.toNatClampNeg) :: st) cu (K, I, R, L, sz, ex) Q) := by
  rw [x214_1506]
  rfl
theorem u214_1507 {z : P0} {ls : Lcs} {st : List Value} {c n : Nat} {K : Nat → Nat × Nat} {I : Nat → Nat → Int32} {R : Nat → Nat → Option Nat} {L : Nat → Nat → Int64} {sz : Nat} {ex : Bool} {Q : Res → Mem → Prop} {x : Nat} {a0 : Int32} : X z 214 1507 ls (.int a0 :: .ref x :: st) (c, n) (K, I, R, L, sz, ex) Q = ((K x).1 = 111 ∧ wsum st ≤ 8 ∧ c + 0 ≤ 601024 ∧ n + 0 ≤ 7293034 ∧ X z 175 0 [some (.ref x), some (.int a0)] [] (0, 0) (K, I, R, L, sz, ex) (aftr (X z) mT 214 1507 ls st (c + 0, n + 0) Q)) := v214_1507
theorem v214_1510 {z : P0} {st : List Value} {cu : Nat × Nat} {Q : Res → Mem → Prop} {σ : Mem} {x0 x1 x2 x3 x4 x5 x6 x7 x8 : Option Value} {u : Int32} : X z 214 1510 [x0, x1, x2, x3, x4, x5, x6, x7, x8] (.int u :: st) cu σ Q = (cat2 x5 = false ∧ X z 214 1512 [x0, x1, x2, x3, x4, x5, some (.int u), x7, x8] (st) cu σ Q) := by
  rw [x214_1510]
  obtain ⟨K, I, R, L, sz, ex⟩ := σ
  exact i_istore.trans sl_6
theorem v214_1512 {z : P0} {st : List Value} {cu : Nat × Nat} {Q : Res → Mem → Prop} {σ : Mem} {x0 x1 x3 x4 x5 x6 x7 x8 : Option Value} {u : Nat} : X z 214 1512 [x0, x1, some (.ref u), x3, x4, x5, x6, x7, x8] (st) cu σ Q = (X z 214 1513 [x0, x1, some (.ref u), x3, x4, x5, x6, x7, x8] (.ref u :: st) cu σ Q) := by
  rw [x214_1512]
  rfl
theorem u214_1513 {z : P0} {ls : Lcs} {st : List Value} {c n : Nat} {K : Nat → Nat × Nat} {I : Nat → Nat → Int32} {R : Nat → Nat → Option Nat} {L : Nat → Nat → Int64} {sz : Nat} {ex : Bool} {Q : Res → Mem → Prop} {x : Nat} : X z 214 1513 ls (.ref x :: st) (c, n) (K, I, R, L, sz, ex) Q = ((K x).1 = 111 ∧ wsum st ≤ 8 ∧ c + 0 ≤ 601024 ∧ n + 0 ≤ 7293034 ∧ X z 105 0 [some (.ref x)] [] (0, 0) (K, I, R, L, sz, ex) (aftr (X z) mT 214 1513 ls st (c + 0, n + 0) Q)) := v214_1513
theorem v214_1516 {z : P0} {st : List Value} {cu : Nat × Nat} {Q : Res → Mem → Prop} {σ : Mem} {x0 x1 x2 x3 x4 x6 x7 x8 : Option Value} {u : Int32} : X z 214 1516 [x0, x1, x2, x3, x4, some (.int u), x6, x7, x8] (st) cu σ Q = (X z 214 1518 [x0, x1, x2, x3, x4, some (.int u), x6, x7, x8] (.int u :: st) cu σ Q) := by
  rw [x214_1516]
  rfl
theorem v214_1518 {z : P0} {st : List Value} {cu : Nat × Nat} {Q : Res → Mem → Prop} {σ : Mem} {x0 x1 x2 x3 x4 x5 x6 x7 x8 : Option Value} {u v : Int32} : X z 214 1518 [x0, x1, x2, x3, x4, x5, x6, x7, x8] (.int v :: .int u :: st) cu σ Q = (if u = v then X z 214 1523 [x0, x1, x2, x3, x4, x5, x6, x7, x8] (st) cu σ Q else X z 214 1521 [x0, x1, x2, x3, x4, x5, x6, x7, x8] (st) cu σ Q) := by
  rw [x214_1518]
  obtain ⟨K, I, R, L, sz, ex⟩ := σ
  exact br_ite
theorem v214_1521 {z : P0} {st : List Value} {cu : Nat × Nat} {Q : Res → Mem → Prop} {σ : Mem} {x0 x1 x2 x3 x4 x5 x6 x7 x8 : Option Value} : X z 214 1521 [x0, x1, x2, x3, x4, x5, x6, x7, x8] (st) cu σ Q = (X z 214 1522 [x0, x1, x2, x3, x4, x5, x6, x7, x8] (.int (nI 0) :: st) cu σ Q) := by
  rw [x214_1521]
  rfl
theorem v214_1522 {z : P0} {cu : Nat × Nat} {Q : Res → Mem → Prop} {σ : Mem} {x0 x1 x2 x3 x4 x5 x6 x7 x8 : Option Value} {v : Int32} : X z 214 1522 [x0, x1, x2, x3, x4, x5, x6, x7, x8] ([.int v]) cu σ Q = ((v = nI 0 ∨ v = nI 1) ∧ Q (.inl (some (.int v))) σ) := by
  rw [x214_1522]
  rw [nI_0, one1]
  rfl
theorem v214_1523 {z : P0} {st : List Value} {cu : Nat × Nat} {Q : Res → Mem → Prop} {σ : Mem} {x0 x1 x2 x3 x4 x6 x7 x8 : Option Value} {u : Int32} : X z 214 1523 [x0, x1, x2, x3, x4, some (.int u), x6, x7, x8] (st) cu σ Q = (X z 214 1525 [x0, x1, x2, x3, x4, some (.int u), x6, x7, x8] (.int u :: st) cu σ Q) := by
  rw [x214_1523]
  rfl
theorem v214_1525 {z : P0} {st : List Value} {cu : Nat × Nat} {Q : Res → Mem → Prop} {σ : Mem} {x0 x1 x2 x3 x4 x5 x6 x7 x8 : Option Value} {u : Int32} : X z 214 1525 [x0, x1, x2, x3, x4, x5, x6, x7, x8] (.int u :: st) cu σ Q = (if u = nI 0 then X z 214 1528 [x0, x1, x2, x3, x4, x5, x6, x7, x8] (st) cu σ Q else X z 214 1540 [x0, x1, x2, x3, x4, x5, x6, x7, x8] (st) cu σ Q) := by
  rw [x214_1525]
  rw [nI_0]
  obtain ⟨K, I, R, L, sz, ex⟩ := σ
  exact br_ne
theorem v214_1528 {z : P0} {st : List Value} {cu : Nat × Nat} {Q : Res → Mem → Prop} {σ : Mem} {x0 x1 x2 x4 x5 x6 x7 x8 : Option Value} {u : Nat} : X z 214 1528 [x0, x1, x2, some (.ref u), x4, x5, x6, x7, x8] (st) cu σ Q = (X z 214 1529 [x0, x1, x2, some (.ref u), x4, x5, x6, x7, x8] (.ref u :: st) cu σ Q) := by
  rw [x214_1528]
  rfl
theorem v214_1529 {z : P0} {st : List Value} {cu : Nat × Nat} {Q : Res → Mem → Prop} {σ : Mem} {x0 x1 x2 x3 x4 x5 x6 x7 x8 : Option Value} : X z 214 1529 [x0, x1, x2, x3, x4, x5, x6, x7, x8] (st) cu σ Q = (X z 214 1530 [x0, x1, x2, x3, x4, x5, x6, x7, x8] (.int (nI 0) :: st) cu σ Q) := by
  rw [x214_1529]
  rfl
theorem v214_1530 {z : P0} {st : List Value} {cu : Nat × Nat} {Q : Res → Mem → Prop} {K : Nat → Nat × Nat} {I : Nat → Nat → Int32} {R : Nat → Nat → Option Nat} {L : Nat → Nat → Int64} {sz : Nat} {ex : Bool} {x0 x1 x2 x3 x4 x5 x6 x7 x8 : Option Value} {u : Nat} {v : Int32} : X z 214 1530 [x0, x1, x2, x3, x4, x5, x6, x7, x8] (.int v :: .ref u :: st) cu (K, I, R, L, sz, ex) Q = ((K u).1 = 21 ∧ vp_in v (K u).2 ∧ X z 214 1531 [x0, x1, x2, x3, x4, x5, x6, x7, x8] (.long (L u v.toNatClampNeg) :: st) cu (K, I, R, L, sz, ex) Q) := by
  rw [x214_1530]
  rfl
theorem v214_1531 {z : P0} {st : List Value} {cu : Nat × Nat} {Q : Res → Mem → Prop} {σ : Mem} {x0 x1 x2 x3 x4 x5 x7 x8 : Option Value} {u : Int32} : X z 214 1531 [x0, x1, x2, x3, x4, x5, some (.int u), x7, x8] (st) cu σ Q = (X z 214 1533 [x0, x1, x2, x3, x4, x5, some (.int u), x7, x8] (.int u :: st) cu σ Q) := by
  rw [x214_1531]
  rfl
theorem v214_1533 {z : P0} {st : List Value} {cu : Nat × Nat} {Q : Res → Mem → Prop} {σ : Mem} {x0 x1 x2 x3 x4 x5 x6 x7 x8 : Option Value} {u : Int32} : X z 214 1533 [x0, x1, x2, x3, x4, x5, x6, x7, x8] (.int u :: st) cu σ Q = (X z 214 1534 [x0, x1, x2, x3, x4, x5, x6, x7, x8] (.long u.toInt64 :: st) cu σ Q) := by
  rw [x214_1533]
  rfl
theorem v214_1534 {z : P0} {st : List Value} {cu : Nat × Nat} {Q : Res → Mem → Prop} {σ : Mem} {x0 x1 x2 x3 x4 x5 x6 x7 x8 : Option Value} {u v : Int64} : X z 214 1534 [x0, x1, x2, x3, x4, x5, x6, x7, x8] (.long v :: .long u :: st) cu σ Q = (X z 214 1535 [x0, x1, x2, x3, x4, x5, x6, x7, x8] (.int (lg_cmp u v) :: st) cu σ Q) := by
  rw [x214_1534]
  rfl
theorem v214_1535 {z : P0} {st : List Value} {cu : Nat × Nat} {Q : Res → Mem → Prop} {σ : Mem} {x0 x1 x2 x3 x4 x5 x6 x7 x8 : Option Value} {u : Int32} : X z 214 1535 [x0, x1, x2, x3, x4, x5, x6, x7, x8] (.int u :: st) cu σ Q = (if u = nI 0 then X z 214 1540 [x0, x1, x2, x3, x4, x5, x6, x7, x8] (st) cu σ Q else X z 214 1538 [x0, x1, x2, x3, x4, x5, x6, x7, x8] (st) cu σ Q) := by
  rw [x214_1535]
  rw [nI_0]
  obtain ⟨K, I, R, L, sz, ex⟩ := σ
  exact br_ite
theorem v214_1538 {z : P0} {st : List Value} {cu : Nat × Nat} {Q : Res → Mem → Prop} {σ : Mem} {x0 x1 x2 x3 x4 x5 x6 x7 x8 : Option Value} : X z 214 1538 [x0, x1, x2, x3, x4, x5, x6, x7, x8] (st) cu σ Q = (X z 214 1539 [x0, x1, x2, x3, x4, x5, x6, x7, x8] (.int (nI 0) :: st) cu σ Q) := by
  rw [x214_1538]
  rfl
theorem v214_1539 {z : P0} {cu : Nat × Nat} {Q : Res → Mem → Prop} {σ : Mem} {x0 x1 x2 x3 x4 x5 x6 x7 x8 : Option Value} {v : Int32} : X z 214 1539 [x0, x1, x2, x3, x4, x5, x6, x7, x8] ([.int v]) cu σ Q = ((v = nI 0 ∨ v = nI 1) ∧ Q (.inl (some (.int v))) σ) := by
  rw [x214_1539]
  rw [nI_0, one1]
  rfl
theorem v214_1540 {z : P0} {st : List Value} {cu : Nat × Nat} {Q : Res → Mem → Prop} {σ : Mem} {x0 x1 x2 x3 x4 x5 x6 x7 x8 : Option Value} : X z 214 1540 [x0, x1, x2, x3, x4, x5, x6, x7, x8] (st) cu σ Q = (X z 214 1598 [x0, x1, x2, x3, x4, x5, x6, x7, x8] (st) cu σ Q) := by
  rw [x214_1540]
  rfl
theorem v214_1543 {z : P0} {st : List Value} {cu : Nat × Nat} {Q : Res → Mem → Prop} {σ : Mem} {x0 x2 x3 x4 x5 x6 x7 x8 : Option Value} {u : Nat} : X z 214 1543 [x0, some (.ref u), x2, x3, x4, x5, x6, x7, x8] (st) cu σ Q = (X z 214 1544 [x0, some (.ref u), x2, x3, x4, x5, x6, x7, x8] (.ref u :: st) cu σ Q) := by
  rw [x214_1543]
  rfl
theorem u214_1544 {z : P0} {ls : Lcs} {st : List Value} {c n : Nat} {K : Nat → Nat × Nat} {I : Nat → Nat → Int32} {R : Nat → Nat → Option Nat} {L : Nat → Nat → Int64} {sz : Nat} {ex : Bool} {Q : Res → Mem → Prop} {x : Nat} : X z 214 1544 ls (.ref x :: st) (c, n) (K, I, R, L, sz, ex) Q = ((K x).1 = 110 ∧ wsum st ≤ 8 ∧ c + 0 ≤ 601024 ∧ n + 0 ≤ 7293034 ∧ X z 83 0 [some (.ref x)] [] (0, 0) (K, I, R, L, sz, ex) (aftr (X z) mT 214 1544 ls st (c + 0, n + 0) Q)) := v214_1544
theorem v214_1547 {z : P0} {st : List Value} {cu : Nat × Nat} {Q : Res → Mem → Prop} {σ : Mem} {x0 x1 x2 x3 x4 x5 x6 x7 x8 : Option Value} {u : UInt64} : X z 214 1547 [x0, x1, x2, x3, x4, x5, x6, x7, x8] (.double u :: st) cu σ Q = (cat2 x4 = false ∧ X z 214 1549 [x0, x1, x2, x3, x4, some (.double u), none, x7, x8] (st) cu σ Q) := by
  rw [x214_1547]
  obtain ⟨K, I, R, L, sz, ex⟩ := σ
  exact i_dstore.trans sm_5
theorem v214_1549 {z : P0} {st : List Value} {cu : Nat × Nat} {Q : Res → Mem → Prop} {σ : Mem} {x0 x1 x3 x4 x5 x6 x7 x8 : Option Value} {u : Nat} : X z 214 1549 [x0, x1, some (.ref u), x3, x4, x5, x6, x7, x8] (st) cu σ Q = (X z 214 1550 [x0, x1, some (.ref u), x3, x4, x5, x6, x7, x8] (.ref u :: st) cu σ Q) := by
  rw [x214_1549]
  rfl
theorem u214_1550 {z : P0} {ls : Lcs} {st : List Value} {c n : Nat} {K : Nat → Nat × Nat} {I : Nat → Nat → Int32} {R : Nat → Nat → Option Nat} {L : Nat → Nat → Int64} {sz : Nat} {ex : Bool} {Q : Res → Mem → Prop} {x : Nat} : X z 214 1550 ls (.ref x :: st) (c, n) (K, I, R, L, sz, ex) Q = ((K x).1 = 111 ∧ wsum st ≤ 8 ∧ c + 0 ≤ 601024 ∧ n + 0 ≤ 7293034 ∧ X z 177 0 [some (.ref x)] [] (0, 0) (K, I, R, L, sz, ex) (aftr (X z) mT 214 1550 ls st (c + 0, n + 0) Q)) := v214_1550
theorem v214_1553 {z : P0} {st : List Value} {cu : Nat × Nat} {Q : Res → Mem → Prop} {σ : Mem} {x0 x1 x2 x3 x4 x5 x6 x7 x8 : Option Value} {u : UInt64} : X z 214 1553 [x0, x1, x2, x3, x4, x5, x6, x7, x8] (.double u :: st) cu σ Q = (cat2 x6 = false ∧ X z 214 1555 [x0, x1, x2, x3, x4, x5, x6, some (.double u), none] (st) cu σ Q) := by
  rw [x214_1553]
  obtain ⟨K, I, R, L, sz, ex⟩ := σ
  exact i_dstore.trans sm_7
theorem v214_1555 {z : P0} {st : List Value} {cu : Nat × Nat} {Q : Res → Mem → Prop} {σ : Mem} {x0 x1 x2 x3 x4 x6 x7 x8 : Option Value} {u : UInt64} : X z 214 1555 [x0, x1, x2, x3, x4, some (.double u), x6, x7, x8] (st) cu σ Q = (X z 214 1557 [x0, x1, x2, x3, x4, some (.double u), x6, x7, x8] (.double u :: st) cu σ Q) := by
  rw [x214_1555]
  rfl
theorem v214_1557 {z : P0} {st : List Value} {cu : Nat × Nat} {Q : Res → Mem → Prop} {σ : Mem} {x0 x1 x2 x3 x4 x5 x6 x8 : Option Value} {u : UInt64} : X z 214 1557 [x0, x1, x2, x3, x4, x5, x6, some (.double u), x8] (st) cu σ Q = (X z 214 1559 [x0, x1, x2, x3, x4, x5, x6, some (.double u), x8] (.double u :: st) cu σ Q) := by
  rw [x214_1557]
  rfl
theorem v214_1559 {z : P0} {st : List Value} {cu : Nat × Nat} {Q : Res → Mem → Prop} {σ : Mem} {x0 x1 x2 x3 x4 x5 x6 x7 x8 : Option Value} {u v : UInt64} : X z 214 1559 [x0, x1, x2, x3, x4, x5, x6, x7, x8] (.double v :: .double u :: st) cu σ Q = (X z 214 1560 [x0, x1, x2, x3, x4, x5, x6, x7, x8] (.int (Op.cmpValue (FP.dcmp u v) .l) :: st) cu σ Q) := by
  rw [x214_1559]
  rfl
theorem v214_1560 {z : P0} {st : List Value} {cu : Nat × Nat} {Q : Res → Mem → Prop} {σ : Mem} {x0 x1 x2 x3 x4 x5 x6 x7 x8 : Option Value} {u : Int32} : X z 214 1560 [x0, x1, x2, x3, x4, x5, x6, x7, x8] (.int u :: st) cu σ Q = (if u = nI 0 then X z 214 1581 [x0, x1, x2, x3, x4, x5, x6, x7, x8] (st) cu σ Q else X z 214 1563 [x0, x1, x2, x3, x4, x5, x6, x7, x8] (st) cu σ Q) := by
  rw [x214_1560]
  rw [nI_0]
  obtain ⟨K, I, R, L, sz, ex⟩ := σ
  exact br_ite
theorem v214_1563 {z : P0} {st : List Value} {cu : Nat × Nat} {Q : Res → Mem → Prop} {σ : Mem} {x0 x1 x2 x3 x4 x6 x7 x8 : Option Value} {u : UInt64} : X z 214 1563 [x0, x1, x2, x3, x4, some (.double u), x6, x7, x8] (st) cu σ Q = (X z 214 1565 [x0, x1, x2, x3, x4, some (.double u), x6, x7, x8] (.double u :: st) cu σ Q) := by
  rw [x214_1563]
  rfl
theorem v214_1565 {z : P0} {st : List Value} {cu : Nat × Nat} {Q : Res → Mem → Prop} {σ : Mem} {x0 x1 x2 x3 x4 x6 x7 x8 : Option Value} {u : UInt64} : X z 214 1565 [x0, x1, x2, x3, x4, some (.double u), x6, x7, x8] (st) cu σ Q = (X z 214 1567 [x0, x1, x2, x3, x4, some (.double u), x6, x7, x8] (.double u :: st) cu σ Q) := by
  rw [x214_1565]
  rfl
theorem v214_1567 {z : P0} {st : List Value} {cu : Nat × Nat} {Q : Res → Mem → Prop} {σ : Mem} {x0 x1 x2 x3 x4 x5 x6 x7 x8 : Option Value} {u v : UInt64} : X z 214 1567 [x0, x1, x2, x3, x4, x5, x6, x7, x8] (.double v :: .double u :: st) cu σ Q = (X z 214 1568 [x0, x1, x2, x3, x4, x5, x6, x7, x8] (.int (Op.cmpValue (FP.dcmp u v) .l) :: st) cu σ Q) := by
  rw [x214_1567]
  rfl
theorem v214_1568 {z : P0} {st : List Value} {cu : Nat × Nat} {Q : Res → Mem → Prop} {σ : Mem} {x0 x1 x2 x3 x4 x5 x6 x7 x8 : Option Value} {u : Int32} : X z 214 1568 [x0, x1, x2, x3, x4, x5, x6, x7, x8] (.int u :: st) cu σ Q = (if u = nI 0 then X z 214 1579 [x0, x1, x2, x3, x4, x5, x6, x7, x8] (st) cu σ Q else X z 214 1571 [x0, x1, x2, x3, x4, x5, x6, x7, x8] (st) cu σ Q) := by
  rw [x214_1568]
  rw [nI_0]
  obtain ⟨K, I, R, L, sz, ex⟩ := σ
  exact br_ite
theorem v214_1571 {z : P0} {st : List Value} {cu : Nat × Nat} {Q : Res → Mem → Prop} {σ : Mem} {x0 x1 x2 x3 x4 x5 x6 x8 : Option Value} {u : UInt64} : X z 214 1571 [x0, x1, x2, x3, x4, x5, x6, some (.double u), x8] (st) cu σ Q = (X z 214 1573 [x0, x1, x2, x3, x4, x5, x6, some (.double u), x8] (.double u :: st) cu σ Q) := by
  rw [x214_1571]
  rfl
theorem v214_1573 {z : P0} {st : List Value} {cu : Nat × Nat} {Q : Res → Mem → Prop} {σ : Mem} {x0 x1 x2 x3 x4 x5 x6 x8 : Option Value} {u : UInt64} : X z 214 1573 [x0, x1, x2, x3, x4, x5, x6, some (.double u), x8] (st) cu σ Q = (X z 214 1575 [x0, x1, x2, x3, x4, x5, x6, some (.double u), x8] (.double u :: st) cu σ Q) := by
  rw [x214_1573]
  rfl
theorem v214_1575 {z : P0} {st : List Value} {cu : Nat × Nat} {Q : Res → Mem → Prop} {σ : Mem} {x0 x1 x2 x3 x4 x5 x6 x7 x8 : Option Value} {u v : UInt64} : X z 214 1575 [x0, x1, x2, x3, x4, x5, x6, x7, x8] (.double v :: .double u :: st) cu σ Q = (X z 214 1576 [x0, x1, x2, x3, x4, x5, x6, x7, x8] (.int (Op.cmpValue (FP.dcmp u v) .l) :: st) cu σ Q) := by
  rw [x214_1575]
  rfl
theorem v214_1576 {z : P0} {st : List Value} {cu : Nat × Nat} {Q : Res → Mem → Prop} {σ : Mem} {x0 x1 x2 x3 x4 x5 x6 x7 x8 : Option Value} {u : Int32} : X z 214 1576 [x0, x1, x2, x3, x4, x5, x6, x7, x8] (.int u :: st) cu σ Q = (if u = nI 0 then X z 214 1579 [x0, x1, x2, x3, x4, x5, x6, x7, x8] (st) cu σ Q else X z 214 1581 [x0, x1, x2, x3, x4, x5, x6, x7, x8] (st) cu σ Q) := by
  rw [x214_1576]
  rw [nI_0]
  obtain ⟨K, I, R, L, sz, ex⟩ := σ
  exact br_ne
theorem v214_1579 {z : P0} {st : List Value} {cu : Nat × Nat} {Q : Res → Mem → Prop} {σ : Mem} {x0 x1 x2 x3 x4 x5 x6 x7 x8 : Option Value} : X z 214 1579 [x0, x1, x2, x3, x4, x5, x6, x7, x8] (st) cu σ Q = (X z 214 1580 [x0, x1, x2, x3, x4, x5, x6, x7, x8] (.int (nI 0) :: st) cu σ Q) := by
  rw [x214_1579]
  rfl
theorem v214_1580 {z : P0} {cu : Nat × Nat} {Q : Res → Mem → Prop} {σ : Mem} {x0 x1 x2 x3 x4 x5 x6 x7 x8 : Option Value} {v : Int32} : X z 214 1580 [x0, x1, x2, x3, x4, x5, x6, x7, x8] ([.int v]) cu σ Q = ((v = nI 0 ∨ v = nI 1) ∧ Q (.inl (some (.int v))) σ) := by
  rw [x214_1580]
  rw [nI_0, one1]
  rfl
theorem v214_1581 {z : P0} {st : List Value} {cu : Nat × Nat} {Q : Res → Mem → Prop} {σ : Mem} {x0 x1 x2 x3 x4 x5 x6 x7 x8 : Option Value} : X z 214 1581 [x0, x1, x2, x3, x4, x5, x6, x7, x8] (st) cu σ Q = (X z 214 1598 [x0, x1, x2, x3, x4, x5, x6, x7, x8] (st) cu σ Q) := by
  rw [x214_1581]
  rfl
theorem v214_1584 {z : P0} {st : List Value} {cu : Nat × Nat} {Q : Res → Mem → Prop} {σ : Mem} {x0 x2 x3 x4 x5 x6 x7 x8 : Option Value} {u : Nat} : X z 214 1584 [x0, some (.ref u), x2, x3, x4, x5, x6, x7, x8] (st) cu σ Q = (X z 214 1585 [x0, some (.ref u), x2, x3, x4, x5, x6, x7, x8] (.ref u :: st) cu σ Q) := by
  rw [x214_1584]
  rfl
theorem u214_1585 {z : P0} {ls : Lcs} {st : List Value} {c n : Nat} {K : Nat → Nat × Nat} {I : Nat → Nat → Int32} {R : Nat → Nat → Option Nat} {L : Nat → Nat → Int64} {sz : Nat} {ex : Bool} {Q : Res → Mem → Prop} {x : Nat} : X z 214 1585 ls (.ref x :: st) (c, n) (K, I, R, L, sz, ex) Q = ((K x).1 = 110 ∧ wsum st ≤ 8 ∧ c + 0 ≤ 601024 ∧ n + 0 ≤ 7293034 ∧ X z 84 0 [some (.ref x), none, none, none] [] (0, 0) (K, I, R, L, sz, ex) (aftr (X z) mT 214 1585 ls st (c + 0, n + 0) Q)) := v214_1585
theorem v214_1588 {z : P0} {st : List Value} {cu : Nat × Nat} {Q : Res → Mem → Prop} {σ : Mem} {x0 x1 x3 x4 x5 x6 x7 x8 : Option Value} {u : Nat} : X z 214 1588 [x0, x1, some (.ref u), x3, x4, x5, x6, x7, x8] (st) cu σ Q = (X z 214 1589 [x0, x1, some (.ref u), x3, x4, x5, x6, x7, x8] (.ref u :: st) cu σ Q) := by
  rw [x214_1588]
  rfl
theorem u214_1589 {z : P0} {ls : Lcs} {st : List Value} {c n : Nat} {K : Nat → Nat × Nat} {I : Nat → Nat → Int32} {R : Nat → Nat → Option Nat} {L : Nat → Nat → Int64} {sz : Nat} {ex : Bool} {Q : Res → Mem → Prop} {x : Nat} : X z 214 1589 ls (.ref x :: st) (c, n) (K, I, R, L, sz, ex) Q = ((K x).1 = 111 ∧ wsum st ≤ 8 ∧ c + 0 ≤ 601024 ∧ n + 0 ≤ 7293034 ∧ X z 181 0 [some (.ref x), none] [] (0, 0) (K, I, R, L, sz, ex) (aftr (X z) mT 214 1589 ls st (c + 0, n + 0) Q)) := v214_1589
theorem v214_1592 {z : P0} {st : List Value} {cu : Nat × Nat} {Q : Res → Mem → Prop} {σ : Mem} {x0 x1 x2 x3 x4 x5 x6 x7 x8 : Option Value} {u v : Int64} : X z 214 1592 [x0, x1, x2, x3, x4, x5, x6, x7, x8] (.long v :: .long u :: st) cu σ Q = (X z 214 1593 [x0, x1, x2, x3, x4, x5, x6, x7, x8] (.int (lg_cmp u v) :: st) cu σ Q) := by
  rw [x214_1592]
  rfl
theorem v214_1593 {z : P0} {st : List Value} {cu : Nat × Nat} {Q : Res → Mem → Prop} {σ : Mem} {x0 x1 x2 x3 x4 x5 x6 x7 x8 : Option Value} {u : Int32} : X z 214 1593 [x0, x1, x2, x3, x4, x5, x6, x7, x8] (.int u :: st) cu σ Q = (if u = nI 0 then X z 214 1598 [x0, x1, x2, x3, x4, x5, x6, x7, x8] (st) cu σ Q else X z 214 1596 [x0, x1, x2, x3, x4, x5, x6, x7, x8] (st) cu σ Q) := by
  rw [x214_1593]
  rw [nI_0]
  obtain ⟨K, I, R, L, sz, ex⟩ := σ
  exact br_ite
theorem v214_1596 {z : P0} {st : List Value} {cu : Nat × Nat} {Q : Res → Mem → Prop} {σ : Mem} {x0 x1 x2 x3 x4 x5 x6 x7 x8 : Option Value} : X z 214 1596 [x0, x1, x2, x3, x4, x5, x6, x7, x8] (st) cu σ Q = (X z 214 1597 [x0, x1, x2, x3, x4, x5, x6, x7, x8] (.int (nI 0) :: st) cu σ Q) := by
  rw [x214_1596]
  rfl
theorem v214_1597 {z : P0} {cu : Nat × Nat} {Q : Res → Mem → Prop} {σ : Mem} {x0 x1 x2 x3 x4 x5 x6 x7 x8 : Option Value} {v : Int32} : X z 214 1597 [x0, x1, x2, x3, x4, x5, x6, x7, x8] ([.int v]) cu σ Q = ((v = nI 0 ∨ v = nI 1) ∧ Q (.inl (some (.int v))) σ) := by
  rw [x214_1597]
  rw [nI_0, one1]
  rfl
theorem v214_1598 {z : P0} {st : List Value} {cu : Nat × Nat} {Q : Res → Mem → Prop} {σ : Mem} {x0 x1 x2 x3 x5 x6 x7 x8 : Option Value} {u : Int32} : X z 214 1598 [x0, x1, x2, x3, some (.int u), x5, x6, x7, x8] (st) cu σ Q = (cat2 x3 = false ∧ X z 214 1601 [x0, x1, x2, x3, some (.int (u + nI 4)), x5, x6, x7, x8] (st) cu σ Q) := by
  rw [x214_1598]
  obtain ⟨K, I, R, L, sz, ex⟩ := σ
  exact i_iinc.trans (gl_4.trans (ldI_i.trans sl_4))
theorem v214_1601 {z : P0} {st : List Value} {cu : Nat × Nat} {Q : Res → Mem → Prop} {σ : Mem} {x0 x1 x2 x3 x4 x5 x6 x7 x8 : Option Value} : X z 214 1601 [x0, x1, x2, x3, x4, x5, x6, x7, x8] (st) cu σ Q = (X z 214 23 [x0, x1, x2, x3, x4, x5, x6, x7, x8] (st) cu σ Q) := by
  rw [x214_1601]
  rfl
theorem v214_1604 {z : P0} {st : List Value} {cu : Nat × Nat} {Q : Res → Mem → Prop} {σ : Mem} {x0 x1 x2 x3 x4 x5 x6 x7 x8 : Option Value} : X z 214 1604 [x0, x1, x2, x3, x4, x5, x6, x7, x8] (st) cu σ Q = (X z 214 1605 [x0, x1, x2, x3, x4, x5, x6, x7, x8] (.int (nI 1) :: st) cu σ Q) := by
  rw [x214_1604]
  rfl
theorem v214_1605 {z : P0} {cu : Nat × Nat} {Q : Res → Mem → Prop} {σ : Mem} {x0 x1 x2 x3 x4 x5 x6 x7 x8 : Option Value} {v : Int32} : X z 214 1605 [x0, x1, x2, x3, x4, x5, x6, x7, x8] ([.int v]) cu σ Q = ((v = nI 0 ∨ v = nI 1) ∧ Q (.inl (some (.int v))) σ) := by
  rw [x214_1605]
  rw [nI_0, one1]
  rfl
