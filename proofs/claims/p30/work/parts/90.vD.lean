theorem v184_0 {z : P0} {st : List Value} {cu : Nat × Nat} {Q : Res → Mem → Prop} {σ : Mem} {x1 : Option Value} {u : Int32} : X z 184 0 [some (.int u), x1] (st) cu σ Q = (X z 184 1 [some (.int u), x1] (.int u :: st) cu σ Q) := by
  rw [x184_0]
  rfl
theorem v184_1 {z : P0} {st : List Value} {cu : Nat × Nat} {Q : Res → Mem → Prop} {σ : Mem} {x0 : Option Value} {u : Int32} : X z 184 1 [x0, some (.int u)] (st) cu σ Q = (X z 184 2 [x0, some (.int u)] (.int u :: st) cu σ Q) := by
  rw [x184_1]
  rfl
theorem v184_2 {z : P0} {st : List Value} {cu : Nat × Nat} {Q : Res → Mem → Prop} {σ : Mem} {x0 x1 : Option Value} {u v : Int32} : X z 184 2 [x0, x1] (.int v :: .int u :: st) cu σ Q = (if v < u then X z 184 9 [x0, x1] (st) cu σ Q else X z 184 5 [x0, x1] (st) cu σ Q) := by
  rw [x184_2]
  obtain ⟨K, I, R, L, sz, ex⟩ := σ
  exact br_ite
theorem v184_5 {z : P0} {st : List Value} {cu : Nat × Nat} {Q : Res → Mem → Prop} {σ : Mem} {x1 : Option Value} {u : Int32} : X z 184 5 [some (.int u), x1] (st) cu σ Q = (X z 184 6 [some (.int u), x1] (.int u :: st) cu σ Q) := by
  rw [x184_5]
  rfl
theorem v184_6 {z : P0} {st : List Value} {cu : Nat × Nat} {Q : Res → Mem → Prop} {σ : Mem} {x0 x1 : Option Value} : X z 184 6 [x0, x1] (st) cu σ Q = (X z 184 10 [x0, x1] (st) cu σ Q) := by
  rw [x184_6]
  rfl
theorem v184_9 {z : P0} {st : List Value} {cu : Nat × Nat} {Q : Res → Mem → Prop} {σ : Mem} {x0 : Option Value} {u : Int32} : X z 184 9 [x0, some (.int u)] (st) cu σ Q = (X z 184 10 [x0, some (.int u)] (.int u :: st) cu σ Q) := by
  rw [x184_9]
  rfl
theorem v184_10 {z : P0} {cu : Nat × Nat} {Q : Res → Mem → Prop} {σ : Mem} {x0 x1 : Option Value} {v : Int32} : X z 184 10 [x0, x1] ([.int v]) cu σ Q = (Q (.inl (some (.int v))) σ) := by
  rw [x184_10]
  exact propext ⟨fun h => h.2, fun h => ⟨trivial, h⟩⟩
theorem v185_0 {z : P0} {st : List Value} {cu : Nat × Nat} {Q : Res → Mem → Prop} {σ : Mem} {u : Nat} : X z 185 0 [some (.ref u)] (st) cu σ Q = (X z 185 1 [some (.ref u)] (.ref u :: st) cu σ Q) := by
  rw [x185_0]
  rfl
theorem v185_1 {z : P0} {st : List Value} {cu : Nat × Nat} {Q : Res → Mem → Prop} {K : Nat → Nat × Nat} {I : Nat → Nat → Int32} {R : Nat → Nat → Option Nat} {L : Nat → Nat → Int64} {sz : Nat} {ex : Bool} {x0 : Option Value} {u : Nat} : X z 185 1 [x0] (.ref u :: st) cu (K, I, R, L, sz, ex) Q = ((K u).1 = 52 ∧ X z 185 4 [x0] (va_rf (R u 1) :: st) cu (K, I, R, L, sz, ex) Q) := by
  rw [x185_1]
  rfl
theorem v185_4 {z : P0} {st : List Value} {cu : Nat × Nat} {Q : Res → Mem → Prop} {K : Nat → Nat × Nat} {I : Nat → Nat → Int32} {R : Nat → Nat → Option Nat} {L : Nat → Nat → Int64} {sz : Nat} {ex : Bool} {x0 : Option Value} {u : Nat} : X z 185 4 [x0] (.ref u :: st) cu (K, I, R, L, sz, ex) Q = (isArr (K u).1 = true ∧ X z 185 5 [x0] (.int (nI (K u).2) :: st) cu (K, I, R, L, sz, ex) Q) := by
  rw [x185_4]
  rfl
theorem v185_5 {z : P0} {st : List Value} {cu : Nat × Nat} {Q : Res → Mem → Prop} {σ : Mem} {u : Nat} : X z 185 5 [some (.ref u)] (st) cu σ Q = (X z 185 6 [some (.ref u)] (.ref u :: st) cu σ Q) := by
  rw [x185_5]
  rfl
theorem u185_6 {z : P0} {ls : Lcs} {st : List Value} {K : Nat → Nat × Nat} {I : Nat → Nat → Int32} {R : Nat → Nat → Option Nat} {L : Nat → Nat → Int64} {sz : Nat} {ex : Bool} {Q : Res → Mem → Prop} {x : Nat} : X z 185 6 ls (.ref x :: st) (0, 0) (K, I, R, L, sz, ex) Q = ((K x).1 = 52 ∧ wsum st ≤ 8 ∧ X z 187 0 [some (.ref x)] [] (0, 0) (K, I, R, L, sz, ex) (aftr (X z) mT 185 6 ls st (0, 0) Q)) := v185_6 (c := 0) (n := 0)
theorem v185_9 {z : P0} {st : List Value} {cu : Nat × Nat} {Q : Res → Mem → Prop} {σ : Mem} {x0 : Option Value} {u v : Int32} : X z 185 9 [x0] (.int v :: .int u :: st) cu σ Q = (X z 185 10 [x0] (.int (u >>> (v &&& 31)) :: st) cu σ Q) := by
  rw [x185_9]
  rfl
theorem v185_10 {z : P0} {cu : Nat × Nat} {Q : Res → Mem → Prop} {σ : Mem} {x0 : Option Value} {v : Int32} : X z 185 10 [x0] ([.int v]) cu σ Q = (Q (.inl (some (.int v))) σ) := by
  rw [x185_10]
  exact propext ⟨fun h => h.2, fun h => ⟨trivial, h⟩⟩
theorem v186_0 {z : P0} {st : List Value} {cu : Nat × Nat} {Q : Res → Mem → Prop} {σ : Mem} {x1 : Option Value} {u : Nat} : X z 186 0 [some (.ref u), x1] (st) cu σ Q = (X z 186 1 [some (.ref u), x1] (.ref u :: st) cu σ Q) := by
  rw [x186_0]
  rfl
theorem u186_1 {z : P0} {ls : Lcs} {st : List Value} {K : Nat → Nat × Nat} {I : Nat → Nat → Int32} {R : Nat → Nat → Option Nat} {L : Nat → Nat → Int64} {sz : Nat} {ex : Bool} {Q : Res → Mem → Prop} {x : Nat} : X z 186 1 ls (.ref x :: st) (0, 0) (K, I, R, L, sz, ex) Q = ((K x).1 = 52 ∧ wsum st ≤ 8 ∧ X z 188 0 [some (.ref x)] [] (0, 0) (K, I, R, L, sz, ex) (aftr (X z) mT 186 1 ls st (0, 0) Q)) := v186_1 (c := 0) (n := 0)
theorem v186_4 {z : P0} {st : List Value} {cu : Nat × Nat} {Q : Res → Mem → Prop} {σ : Mem} {x0 x1 : Option Value} {u : Int32} : X z 186 4 [x0, x1] (.int u :: st) cu σ Q = (if u = nI 0 then X z 186 16 [x0, x1] (st) cu σ Q else X z 186 7 [x0, x1] (st) cu σ Q) := by
  rw [x186_4]
  rw [nI_0]
  obtain ⟨K, I, R, L, sz, ex⟩ := σ
  exact br_ite
theorem v186_7 {z : P0} {st : List Value} {cu : Nat × Nat} {Q : Res → Mem → Prop} {σ : Mem} {x1 : Option Value} {u : Nat} : X z 186 7 [some (.ref u), x1] (st) cu σ Q = (X z 186 8 [some (.ref u), x1] (.ref u :: st) cu σ Q) := by
  rw [x186_7]
  rfl
theorem v186_8 {z : P0} {st : List Value} {cu : Nat × Nat} {Q : Res → Mem → Prop} {K : Nat → Nat × Nat} {I : Nat → Nat → Int32} {R : Nat → Nat → Option Nat} {L : Nat → Nat → Int64} {sz : Nat} {ex : Bool} {x0 x1 : Option Value} {u : Nat} : X z 186 8 [x0, x1] (.ref u :: st) cu (K, I, R, L, sz, ex) Q = ((K u).1 = 52 ∧ X z 186 11 [x0, x1] (va_rf (R u 1) :: st) cu (K, I, R, L, sz, ex) Q) := by
  rw [x186_8]
  rfl
theorem v186_11 {z : P0} {st : List Value} {cu : Nat × Nat} {Q : Res → Mem → Prop} {σ : Mem} {x0 : Option Value} {u : Int32} : X z 186 11 [x0, some (.int u)] (st) cu σ Q = (X z 186 12 [x0, some (.int u)] (.int u :: st) cu σ Q) := by
  rw [x186_11]
  rfl
theorem u186_12 {z : P0} {ls : Lcs} {st : List Value} {K : Nat → Nat × Nat} {I : Nat → Nat → Int32} {R : Nat → Nat → Option Nat} {L : Nat → Nat → Int64} {sz : Nat} {ex : Bool} {Q : Res → Mem → Prop} {a0 : Nat} {a1 : Int32} : X z 186 12 ls (.int a1 :: .ref a0 :: st) (0, 0) (K, I, R, L, sz, ex) Q = (wsum st ≤ 8 ∧ X z 190 0 [some (.ref a0), some (.int a1)] [] (0, 0) (K, I, R, L, sz, ex) (aftr (X z) mT 186 12 ls st (0, 0) Q)) := v186_12 (c := 0) (n := 0)
theorem v186_15 {z : P0} {cu : Nat × Nat} {Q : Res → Mem → Prop} {σ : Mem} {x0 x1 : Option Value} {v : Int32} : X z 186 15 [x0, x1] ([.int v]) cu σ Q = (narrow .char (.int v) = .int v ∧ Q (.inl (some (.int v))) σ) := by
  rw [x186_15]
  rfl
theorem v186_16 {z : P0} {st : List Value} {cu : Nat × Nat} {Q : Res → Mem → Prop} {σ : Mem} {x1 : Option Value} {u : Nat} : X z 186 16 [some (.ref u), x1] (st) cu σ Q = (X z 186 17 [some (.ref u), x1] (.ref u :: st) cu σ Q) := by
  rw [x186_16]
  rfl
theorem v186_17 {z : P0} {st : List Value} {cu : Nat × Nat} {Q : Res → Mem → Prop} {K : Nat → Nat × Nat} {I : Nat → Nat → Int32} {R : Nat → Nat → Option Nat} {L : Nat → Nat → Int64} {sz : Nat} {ex : Bool} {x0 x1 : Option Value} {u : Nat} : X z 186 17 [x0, x1] (.ref u :: st) cu (K, I, R, L, sz, ex) Q = ((K u).1 = 52 ∧ X z 186 20 [x0, x1] (va_rf (R u 1) :: st) cu (K, I, R, L, sz, ex) Q) := by
  rw [x186_17]
  rfl
theorem v186_20 {z : P0} {st : List Value} {cu : Nat × Nat} {Q : Res → Mem → Prop} {σ : Mem} {x0 : Option Value} {u : Int32} : X z 186 20 [x0, some (.int u)] (st) cu σ Q = (X z 186 21 [x0, some (.int u)] (.int u :: st) cu σ Q) := by
  rw [x186_20]
  rfl
theorem v186_24 {z : P0} {cu : Nat × Nat} {Q : Res → Mem → Prop} {σ : Mem} {x0 x1 : Option Value} {v : Int32} : X z 186 24 [x0, x1] ([.int v]) cu σ Q = (narrow .char (.int v) = .int v ∧ Q (.inl (some (.int v))) σ) := by
  rw [x186_24]
  rfl
theorem v187_0 {z : P0} {st : List Value} {cu : Nat × Nat} {Q : Res → Mem → Prop} {σ : Mem} {x0 : Option Value} : X z 187 0 [x0] (st) cu σ Q = (X z 187 3 [x0] (.int 1 :: st) cu σ Q) := by
  rw [x187_0]
  rfl
theorem v187_3 {z : P0} {st : List Value} {cu : Nat × Nat} {Q : Res → Mem → Prop} {σ : Mem} {x0 : Option Value} {u : Int32} : X z 187 3 [x0] (.int u :: st) cu σ Q = (if u = nI 0 then X z 187 13 [x0] (st) cu σ Q else X z 187 6 [x0] (st) cu σ Q) := by
  rw [x187_3]
  rw [nI_0]
  obtain ⟨K, I, R, L, sz, ex⟩ := σ
  exact br_ite
theorem v187_6 {z : P0} {st : List Value} {cu : Nat × Nat} {Q : Res → Mem → Prop} {σ : Mem} {u : Nat} : X z 187 6 [some (.ref u)] (st) cu σ Q = (X z 187 7 [some (.ref u)] (.ref u :: st) cu σ Q) := by
  rw [x187_6]
  rfl
theorem v187_7 {z : P0} {st : List Value} {cu : Nat × Nat} {Q : Res → Mem → Prop} {K : Nat → Nat × Nat} {I : Nat → Nat → Int32} {R : Nat → Nat → Option Nat} {L : Nat → Nat → Int64} {sz : Nat} {ex : Bool} {x0 : Option Value} {u : Nat} : X z 187 7 [x0] (.ref u :: st) cu (K, I, R, L, sz, ex) Q = ((K u).1 = 52 ∧ X z 187 10 [x0] (.int (I u 0) :: st) cu (K, I, R, L, sz, ex) Q) := by
  rw [x187_7]
  rfl
theorem v187_10 {z : P0} {st : List Value} {cu : Nat × Nat} {Q : Res → Mem → Prop} {σ : Mem} {x0 : Option Value} : X z 187 10 [x0] (st) cu σ Q = (X z 187 14 [x0] (st) cu σ Q) := by
  rw [x187_10]
  rfl
theorem v187_13 {z : P0} {st : List Value} {cu : Nat × Nat} {Q : Res → Mem → Prop} {σ : Mem} {x0 : Option Value} : X z 187 13 [x0] (st) cu σ Q = (X z 187 14 [x0] (.int (nI 1) :: st) cu σ Q) := by
  rw [x187_13]
  rfl
theorem v187_14 {z : P0} {cu : Nat × Nat} {Q : Res → Mem → Prop} {σ : Mem} {x0 : Option Value} {v : Int32} : X z 187 14 [x0] ([.int v]) cu σ Q = (narrow .byte (.int v) = .int v ∧ Q (.inl (some (.int v))) σ) := by
  rw [x187_14]
  rfl
theorem v188_0 {z : P0} {st : List Value} {cu : Nat × Nat} {Q : Res → Mem → Prop} {σ : Mem} {x0 : Option Value} : X z 188 0 [x0] (st) cu σ Q = (X z 188 3 [x0] (.int 1 :: st) cu σ Q) := by
  rw [x188_0]
  rfl
theorem v188_3 {z : P0} {st : List Value} {cu : Nat × Nat} {Q : Res → Mem → Prop} {σ : Mem} {x0 : Option Value} {u : Int32} : X z 188 3 [x0] (.int u :: st) cu σ Q = (if u = nI 0 then X z 188 17 [x0] (st) cu σ Q else X z 188 6 [x0] (st) cu σ Q) := by
  rw [x188_3]
  rw [nI_0]
  obtain ⟨K, I, R, L, sz, ex⟩ := σ
  exact br_ite
theorem v188_6 {z : P0} {st : List Value} {cu : Nat × Nat} {Q : Res → Mem → Prop} {σ : Mem} {u : Nat} : X z 188 6 [some (.ref u)] (st) cu σ Q = (X z 188 7 [some (.ref u)] (.ref u :: st) cu σ Q) := by
  rw [x188_6]
  rfl
theorem v188_7 {z : P0} {st : List Value} {cu : Nat × Nat} {Q : Res → Mem → Prop} {K : Nat → Nat × Nat} {I : Nat → Nat → Int32} {R : Nat → Nat → Option Nat} {L : Nat → Nat → Int64} {sz : Nat} {ex : Bool} {x0 : Option Value} {u : Nat} : X z 188 7 [x0] (.ref u :: st) cu (K, I, R, L, sz, ex) Q = ((K u).1 = 52 ∧ X z 188 10 [x0] (.int (I u 0) :: st) cu (K, I, R, L, sz, ex) Q) := by
  rw [x188_7]
  rfl
theorem v188_10 {z : P0} {st : List Value} {cu : Nat × Nat} {Q : Res → Mem → Prop} {σ : Mem} {x0 : Option Value} {u : Int32} : X z 188 10 [x0] (.int u :: st) cu σ Q = (if u = nI 0 then X z 188 13 [x0] (st) cu σ Q else X z 188 17 [x0] (st) cu σ Q) := by
  rw [x188_10]
  rw [nI_0]
  obtain ⟨K, I, R, L, sz, ex⟩ := σ
  exact br_ne
theorem v188_13 {z : P0} {st : List Value} {cu : Nat × Nat} {Q : Res → Mem → Prop} {σ : Mem} {x0 : Option Value} : X z 188 13 [x0] (st) cu σ Q = (X z 188 14 [x0] (.int (nI 1) :: st) cu σ Q) := by
  rw [x188_13]
  rfl
theorem v188_14 {z : P0} {st : List Value} {cu : Nat × Nat} {Q : Res → Mem → Prop} {σ : Mem} {x0 : Option Value} : X z 188 14 [x0] (st) cu σ Q = (X z 188 18 [x0] (st) cu σ Q) := by
  rw [x188_14]
  rfl
theorem v188_17 {z : P0} {st : List Value} {cu : Nat × Nat} {Q : Res → Mem → Prop} {σ : Mem} {x0 : Option Value} : X z 188 17 [x0] (st) cu σ Q = (X z 188 18 [x0] (.int (nI 0) :: st) cu σ Q) := by
  rw [x188_17]
  rfl
theorem v188_18 {z : P0} {cu : Nat × Nat} {Q : Res → Mem → Prop} {σ : Mem} {x0 : Option Value} {v : Int32} : X z 188 18 [x0] ([.int v]) cu σ Q = ((v = nI 0 ∨ v = nI 1) ∧ Q (.inl (some (.int v))) σ) := by
  rw [x188_18]
  rw [nI_0, one1]
  rfl
theorem v189_0 {z : P0} {st : List Value} {cu : Nat × Nat} {Q : Res → Mem → Prop} {σ : Mem} {x1 : Option Value} {u : Int32} : X z 189 0 [some (.int u), x1] (st) cu σ Q = (X z 189 1 [some (.int u), x1] (.int u :: st) cu σ Q) := by
  rw [x189_0]
  rfl
theorem v189_1 {z : P0} {st : List Value} {cu : Nat × Nat} {Q : Res → Mem → Prop} {σ : Mem} {x0 : Option Value} {u : Int32} : X z 189 1 [x0, some (.int u)] (st) cu σ Q = (X z 189 2 [x0, some (.int u)] (.int u :: st) cu σ Q) := by
  rw [x189_1]
  rfl
theorem v189_2 {z : P0} {st : List Value} {cu : Nat × Nat} {Q : Res → Mem → Prop} {σ : Mem} {x0 x1 : Option Value} : X z 189 2 [x0, x1] (st) cu σ Q = (X z 189 5 [x0, x1] (z.2 :: st) cu σ Q) := by
  rw [x189_2]
  rfl
theorem v189_8 {z : P0} {st : List Value} {cu : Nat × Nat} {Q : Res → Mem → Prop} {σ : Mem} {x0 x1 : Option Value} {u : Int32} : X z 189 8 [x0, x1] (.int u :: st) cu σ Q = (X z 189 9 [x0, x1] (st) cu σ Q) := by
  rw [x189_8]
  exact propext ⟨fun h => h.2, fun h => ⟨rfl, h⟩⟩
theorem v189_9 {z : P0} {cu : Nat × Nat} {Q : Res → Mem → Prop} {σ : Mem} {x0 x1 : Option Value} : X z 189 9 [x0, x1] ([]) cu σ Q = (Q (.inl none) σ) := by
  rw [x189_9]
  rfl
theorem v190_0 {z : P0} {st : List Value} {cu : Nat × Nat} {Q : Res → Mem → Prop} {σ : Mem} {x0 : Option Value} {u : Int32} : X z 190 0 [x0, some (.int u)] (st) cu σ Q = (X z 190 1 [x0, some (.int u)] (.int u :: st) cu σ Q) := by
  rw [x190_0]
  rfl
theorem v190_1 {z : P0} {st : List Value} {cu : Nat × Nat} {Q : Res → Mem → Prop} {σ : Mem} {x1 : Option Value} {u : Nat} : X z 190 1 [some (.ref u), x1] (st) cu σ Q = (X z 190 2 [some (.ref u), x1] (.ref u :: st) cu σ Q) := by
  rw [x190_1]
  rfl
theorem v190_2 {z : P0} {st : List Value} {cu : Nat × Nat} {Q : Res → Mem → Prop} {K : Nat → Nat × Nat} {I : Nat → Nat → Int32} {R : Nat → Nat → Option Nat} {L : Nat → Nat → Int64} {sz : Nat} {ex : Bool} {x0 x1 : Option Value} {u : Nat} : X z 190 2 [x0, x1] (.ref u :: st) cu (K, I, R, L, sz, ex) Q = (isArr (K u).1 = true ∧ X z 190 3 [x0, x1] (.int (nI (K u).2) :: st) cu (K, I, R, L, sz, ex) Q) := by
  rw [x190_2]
  rfl
theorem u190_3 {z : P0} {ls : Lcs} {st : List Value} {K : Nat → Nat × Nat} {I : Nat → Nat → Int32} {R : Nat → Nat → Option Nat} {L : Nat → Nat → Int64} {sz : Nat} {ex : Bool} {Q : Res → Mem → Prop} {a0 : Int32} {a1 : Int32} : X z 190 3 ls (.int a1 :: .int a0 :: st) (0, 0) (K, I, R, L, sz, ex) Q = (wsum st ≤ 8 ∧ X z 189 0 [some (.int a0), some (.int a1)] [] (0, 0) (K, I, R, L, sz, ex) (aftr (X z) mT 190 3 ls st (0, 0) Q)) := v190_3 (c := 0) (n := 0)
theorem v190_6 {z : P0} {st : List Value} {cu : Nat × Nat} {Q : Res → Mem → Prop} {σ : Mem} {x1 : Option Value} {u : Nat} : X z 190 6 [some (.ref u), x1] (st) cu σ Q = (X z 190 7 [some (.ref u), x1] (.ref u :: st) cu σ Q) := by
  rw [x190_6]
  rfl
theorem v190_7 {z : P0} {st : List Value} {cu : Nat × Nat} {Q : Res → Mem → Prop} {σ : Mem} {x0 : Option Value} {u : Int32} : X z 190 7 [x0, some (.int u)] (st) cu σ Q = (X z 190 8 [x0, some (.int u)] (.int u :: st) cu σ Q) := by
  rw [x190_7]
  rfl
theorem v190_8 {z : P0} {st : List Value} {cu : Nat × Nat} {Q : Res → Mem → Prop} {K : Nat → Nat × Nat} {I : Nat → Nat → Int32} {R : Nat → Nat → Option Nat} {L : Nat → Nat → Int64} {sz : Nat} {ex : Bool} {x0 x1 : Option Value} {u : Nat} {v : Int32} : X z 190 8 [x0, x1] (.int v :: .ref u :: st) cu (K, I, R, L, sz, ex) Q = ((K u).1 = 51 ∧ vp_in v (K u).2 ∧ X z 190 9 [x0, x1] (.int (I u v.toNatClampNeg) :: st) cu (K, I, R, L, sz, ex) Q) := by
  rw [x190_8]
  rfl
theorem v190_9 {z : P0} {st : List Value} {cu : Nat × Nat} {Q : Res → Mem → Prop} {σ : Mem} {x0 x1 : Option Value} : X z 190 9 [x0, x1] (st) cu σ Q = (X z 190 12 [x0, x1] (.int (nI 255) :: st) cu σ Q) := by
  rw [x190_9]
  rfl
theorem v190_12 {z : P0} {st : List Value} {cu : Nat × Nat} {Q : Res → Mem → Prop} {σ : Mem} {x0 x1 : Option Value} {u v : Int32} : X z 190 12 [x0, x1] (.int v :: .int u :: st) cu σ Q = (X z 190 13 [x0, x1] (.int (u &&& v) :: st) cu σ Q) := by
  rw [x190_12]
  rfl
theorem v190_13 {z : P0} {st : List Value} {cu : Nat × Nat} {Q : Res → Mem → Prop} {σ : Mem} {x0 x1 : Option Value} {u : Int32} : X z 190 13 [x0, x1] (.int u :: st) cu σ Q = (X z 190 14 [x0, x1] (.int (u.toUInt32 % 65536).toInt32 :: st) cu σ Q) := by
  rw [x190_13]
  rfl
theorem v190_14 {z : P0} {cu : Nat × Nat} {Q : Res → Mem → Prop} {σ : Mem} {x0 x1 : Option Value} {v : Int32} : X z 190 14 [x0, x1] ([.int v]) cu σ Q = (narrow .char (.int v) = .int v ∧ Q (.inl (some (.int v))) σ) := by
  rw [x190_14]
  rfl
theorem v191_0 {z : P0} {st : List Value} {cu : Nat × Nat} {Q : Res → Mem → Prop} {σ : Mem} {x1 x2 : Option Value} {u : Int32} : X z 191 0 [some (.int u), x1, x2] (st) cu σ Q = (X z 191 1 [some (.int u), x1, x2] (.int u :: st) cu σ Q) := by
  rw [x191_0]
  rfl
theorem v191_1 {z : P0} {st : List Value} {cu : Nat × Nat} {Q : Res → Mem → Prop} {σ : Mem} {x0 x1 x2 : Option Value} {u : Int32} : X z 191 1 [x0, x1, x2] (.int u :: st) cu σ Q = (if u < nI 0 then X z 191 9 [x0, x1, x2] (st) cu σ Q else X z 191 4 [x0, x1, x2] (st) cu σ Q) := by
  rw [x191_1]
  rw [nI_0]
  obtain ⟨K, I, R, L, sz, ex⟩ := σ
  exact br_ite
theorem v191_4 {z : P0} {st : List Value} {cu : Nat × Nat} {Q : Res → Mem → Prop} {σ : Mem} {x1 x2 : Option Value} {u : Int32} : X z 191 4 [some (.int u), x1, x2] (st) cu σ Q = (X z 191 5 [some (.int u), x1, x2] (.int u :: st) cu σ Q) := by
  rw [x191_4]
  rfl
theorem v191_5 {z : P0} {st : List Value} {cu : Nat × Nat} {Q : Res → Mem → Prop} {σ : Mem} {x0 x2 : Option Value} {u : Int32} : X z 191 5 [x0, some (.int u), x2] (st) cu σ Q = (X z 191 6 [x0, some (.int u), x2] (.int u :: st) cu σ Q) := by
  rw [x191_5]
  rfl
theorem v191_6 {z : P0} {st : List Value} {cu : Nat × Nat} {Q : Res → Mem → Prop} {σ : Mem} {x0 x1 x2 : Option Value} {u v : Int32} : X z 191 6 [x0, x1, x2] (.int v :: .int u :: st) cu σ Q = (if u < v then X z 191 16 [x0, x1, x2] (st) cu σ Q else X z 191 9 [x0, x1, x2] (st) cu σ Q) := by
  rw [x191_6]
  obtain ⟨K, I, R, L, sz, ex⟩ := σ
  exact br_ite
theorem v191_9 {z : P0} {st : List Value} {cu : Nat × Nat} {Q : Res → Mem → Prop} {σ : Mem} {x0 x1 : Option Value} {u : Nat} : X z 191 9 [x0, x1, some (.ref u)] (st) cu σ Q = (X z 191 10 [x0, x1, some (.ref u)] (.ref u :: st) cu σ Q) := by
  rw [x191_9]
  rfl
theorem v191_10 {z : P0} {st : List Value} {cu : Nat × Nat} {Q : Res → Mem → Prop} {σ : Mem} {x1 x2 : Option Value} {u : Int32} : X z 191 10 [some (.int u), x1, x2] (st) cu σ Q = (X z 191 11 [some (.int u), x1, x2] (.int u :: st) cu σ Q) := by
  rw [x191_10]
  rfl
theorem v191_11 {z : P0} {st : List Value} {cu : Nat × Nat} {Q : Res → Mem → Prop} {σ : Mem} {x0 x2 : Option Value} {u : Int32} : X z 191 11 [x0, some (.int u), x2] (st) cu σ Q = (X z 191 12 [x0, some (.int u), x2] (.int u :: st) cu σ Q) := by
  rw [x191_11]
  rfl
theorem v191_16 {z : P0} {st : List Value} {cu : Nat × Nat} {Q : Res → Mem → Prop} {σ : Mem} {x1 x2 : Option Value} {u : Int32} : X z 191 16 [some (.int u), x1, x2] (st) cu σ Q = (X z 191 17 [some (.int u), x1, x2] (.int u :: st) cu σ Q) := by
  rw [x191_16]
  rfl
theorem v191_17 {z : P0} {cu : Nat × Nat} {Q : Res → Mem → Prop} {σ : Mem} {x0 x1 x2 : Option Value} {v : Int32} : X z 191 17 [x0, x1, x2] ([.int v]) cu σ Q = (Q (.inl (some (.int v))) σ) := by
  rw [x191_17]
  exact propext ⟨fun h => h.2, fun h => ⟨trivial, h⟩⟩
