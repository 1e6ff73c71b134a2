theorem v154_0 {z : P0} {st : List Value} {cu : Nat × Nat} {Q : Res → Mem → Prop} {σ : Mem} {x1 x2 : Option Value} {u : Nat} : X z 154 0 [some (.ref u), x1, x2] (st) cu σ Q = (X z 154 1 [some (.ref u), x1, x2] (.ref u :: st) cu σ Q) := by
  rw [x154_0]
  rfl
theorem v154_1 {z : P0} {st : List Value} {cu : Nat × Nat} {Q : Res → Mem → Prop} {σ : Mem} {x0 x2 : Option Value} {u : Int32} : X z 154 1 [x0, some (.int u), x2] (st) cu σ Q = (X z 154 2 [x0, some (.int u), x2] (.int u :: st) cu σ Q) := by
  rw [x154_1]
  rfl
theorem v154_2 {z : P0} {st : List Value} {cu : Nat × Nat} {Q : Res → Mem → Prop} {σ : Mem} {x1 x2 : Option Value} {u : Nat} : X z 154 2 [some (.ref u), x1, x2] (st) cu σ Q = (X z 154 3 [some (.ref u), x1, x2] (.ref u :: st) cu σ Q) := by
  rw [x154_2]
  rfl
theorem v154_3 {z : P0} {st : List Value} {cu : Nat × Nat} {Q : Res → Mem → Prop} {K : Nat → Nat × Nat} {I : Nat → Nat → Int32} {R : Nat → Nat → Option Nat} {L : Nat → Nat → Int64} {sz : Nat} {ex : Bool} {x0 x1 x2 : Option Value} {u : Nat} : X z 154 3 [x0, x1, x2] (.ref u :: st) cu (K, I, R, L, sz, ex) Q = ((K u).1 = 111 ∧ X z 154 6 [x0, x1, x2] (va_rf (R u 0) :: st) cu (K, I, R, L, sz, ex) Q) := by
  rw [x154_3]
  rfl
theorem v154_6 {z : P0} {st : List Value} {cu : Nat × Nat} {Q : Res → Mem → Prop} {σ : Mem} {x0 x1 x2 : Option Value} : X z 154 6 [x0, x1, x2] (st) cu σ Q = (X z 154 8 [x0, x1, x2] (.int (nI 8) :: st) cu σ Q) := by
  rw [x154_6]
  rfl
theorem v154_8 {z : P0} {st : List Value} {cu : Nat × Nat} {Q : Res → Mem → Prop} {K : Nat → Nat × Nat} {I : Nat → Nat → Int32} {R : Nat → Nat → Option Nat} {L : Nat → Nat → Int64} {sz : Nat} {ex : Bool} {x0 x1 x2 : Option Value} {u : Nat} {v : Int32} : X z 154 8 [x0, x1, x2] (.int v :: .ref u :: st) cu (K, I, R, L, sz, ex) Q = (((K u).1 = 20 ∨ (K u).1 = 50) ∧ vp_in v (K u).2 ∧ X z 154 9 [x0, x1, x2] (.int (I u v.toNatClampNeg) :: st) cu (K, I, R, L, sz, ex) Q) := by
  rw [x154_8]
  rfl
theorem u154_9 {z : P0} {ls : Lcs} {st : List Value} {K : Nat → Nat × Nat} {I : Nat → Nat → Int32} {R : Nat → Nat → Option Nat} {L : Nat → Nat → Int64} {sz : Nat} {ex : Bool} {Q : Res → Mem → Prop} {x : Nat} {a0 : Int32} {a1 : Int32} : X z 154 9 ls (.int a1 :: .int a0 :: .ref x :: st) (0, 0) (K, I, R, L, sz, ex) Q = ((K x).1 = 111 ∧ wsum st ≤ 8 ∧ X z 112 0 [some (.ref x), some (.int a0), some (.int a1)] [] (0, 0) (K, I, R, L, sz, ex) (aftr (X z) mT 154 9 ls st (0, 0) Q)) := v154_9 (c := 0) (n := 0)
theorem v154_12 {z : P0} {st : List Value} {cu : Nat × Nat} {Q : Res → Mem → Prop} {σ : Mem} {x0 x1 x2 : Option Value} {u : Int32} : X z 154 12 [x0, x1, x2] (.int u :: st) cu σ Q = (cat2 x1 = false ∧ X z 154 13 [x0, x1, some (.int u)] (st) cu σ Q) := by
  rw [x154_12]
  obtain ⟨K, I, R, L, sz, ex⟩ := σ
  exact i_istore_n.trans sl_2
theorem v154_13 {z : P0} {st : List Value} {cu : Nat × Nat} {Q : Res → Mem → Prop} {σ : Mem} {x0 x1 : Option Value} {u : Int32} : X z 154 13 [x0, x1, some (.int u)] (st) cu σ Q = (X z 154 14 [x0, x1, some (.int u)] (.int u :: st) cu σ Q) := by
  rw [x154_13]
  rfl
theorem v154_14 {z : P0} {st : List Value} {cu : Nat × Nat} {Q : Res → Mem → Prop} {σ : Mem} {x0 x1 x2 : Option Value} {u : Int32} : X z 154 14 [x0, x1, x2] (.int u :: st) cu σ Q = (if nI 0 < u then X z 154 17 [x0, x1, x2] (st) cu σ Q else X z 154 21 [x0, x1, x2] (st) cu σ Q) := by
  rw [x154_14]
  rw [nI_0]
  obtain ⟨K, I, R, L, sz, ex⟩ := σ
  exact br_ge
theorem v154_17 {z : P0} {st : List Value} {cu : Nat × Nat} {Q : Res → Mem → Prop} {σ : Mem} {x0 x1 : Option Value} {u : Int32} : X z 154 17 [x0, x1, some (.int u)] (st) cu σ Q = (X z 154 18 [x0, x1, some (.int u)] (.int u :: st) cu σ Q) := by
  rw [x154_17]
  rfl
theorem v154_18 {z : P0} {st : List Value} {cu : Nat × Nat} {Q : Res → Mem → Prop} {σ : Mem} {x0 x1 x2 : Option Value} : X z 154 18 [x0, x1, x2] (st) cu σ Q = (X z 154 39 [x0, x1, x2] (st) cu σ Q) := by
  rw [x154_18]
  rfl
theorem v154_21 {z : P0} {st : List Value} {cu : Nat × Nat} {Q : Res → Mem → Prop} {σ : Mem} {x1 x2 : Option Value} {u : Nat} : X z 154 21 [some (.ref u), x1, x2] (st) cu σ Q = (X z 154 22 [some (.ref u), x1, x2] (.ref u :: st) cu σ Q) := by
  rw [x154_21]
  rfl
theorem v154_22 {z : P0} {st : List Value} {cu : Nat × Nat} {Q : Res → Mem → Prop} {σ : Mem} {x1 x2 : Option Value} {u : Nat} : X z 154 22 [some (.ref u), x1, x2] (st) cu σ Q = (X z 154 23 [some (.ref u), x1, x2] (.ref u :: st) cu σ Q) := by
  rw [x154_22]
  rfl
theorem v154_23 {z : P0} {st : List Value} {cu : Nat × Nat} {Q : Res → Mem → Prop} {K : Nat → Nat × Nat} {I : Nat → Nat → Int32} {R : Nat → Nat → Option Nat} {L : Nat → Nat → Int64} {sz : Nat} {ex : Bool} {x0 x1 x2 : Option Value} {u : Nat} : X z 154 23 [x0, x1, x2] (.ref u :: st) cu (K, I, R, L, sz, ex) Q = ((K u).1 = 111 ∧ X z 154 26 [x0, x1, x2] (va_rf (R u 11) :: st) cu (K, I, R, L, sz, ex) Q) := by
  rw [x154_23]
  rfl
theorem v154_26 {z : P0} {st : List Value} {cu : Nat × Nat} {Q : Res → Mem → Prop} {σ : Mem} {x0 x2 : Option Value} {u : Int32} : X z 154 26 [x0, some (.int u), x2] (st) cu σ Q = (X z 154 27 [x0, some (.int u), x2] (.int u :: st) cu σ Q) := by
  rw [x154_26]
  rfl
theorem v154_27 {z : P0} {st : List Value} {cu : Nat × Nat} {Q : Res → Mem → Prop} {K : Nat → Nat × Nat} {I : Nat → Nat → Int32} {R : Nat → Nat → Option Nat} {L : Nat → Nat → Int64} {sz : Nat} {ex : Bool} {x0 x1 x2 : Option Value} {u : Nat} {v : Int32} : X z 154 27 [x0, x1, x2] (.int v :: .ref u :: st) cu (K, I, R, L, sz, ex) Q = (((K u).1 = 20 ∨ (K u).1 = 50) ∧ vp_in v (K u).2 ∧ X z 154 28 [x0, x1, x2] (.int (I u v.toNatClampNeg) :: st) cu (K, I, R, L, sz, ex) Q) := by
  rw [x154_27]
  rfl
theorem u154_28 {z : P0} {ls : Lcs} {st : List Value} {K : Nat → Nat × Nat} {I : Nat → Nat → Int32} {R : Nat → Nat → Option Nat} {L : Nat → Nat → Int64} {sz : Nat} {ex : Bool} {Q : Res → Mem → Prop} {x : Nat} {a0 : Int32} : X z 154 28 ls (.int a0 :: .ref x :: st) (0, 0) (K, I, R, L, sz, ex) Q = ((K x).1 = 111 ∧ wsum st ≤ 8 ∧ X z 131 0 [some (.ref x), some (.int a0)] [] (0, 0) (K, I, R, L, sz, ex) (aftr (X z) mT 154 28 ls st (0, 0) Q)) := v154_28 (c := 0) (n := 0)
theorem v154_31 {z : P0} {st : List Value} {cu : Nat × Nat} {Q : Res → Mem → Prop} {σ : Mem} {x0 x1 x2 : Option Value} {u : Int32} : X z 154 31 [x0, x1, x2] (.int u :: st) cu σ Q = (if u = nI 0 then X z 154 38 [x0, x1, x2] (st) cu σ Q else X z 154 34 [x0, x1, x2] (st) cu σ Q) := by
  rw [x154_31]
  rw [nI_0]
  obtain ⟨K, I, R, L, sz, ex⟩ := σ
  exact br_ite
theorem v154_34 {z : P0} {st : List Value} {cu : Nat × Nat} {Q : Res → Mem → Prop} {σ : Mem} {x0 x1 x2 : Option Value} : X z 154 34 [x0, x1, x2] (st) cu σ Q = (X z 154 35 [x0, x1, x2] (.int (nI 0) :: st) cu σ Q) := by
  rw [x154_34]
  rfl
theorem v154_35 {z : P0} {st : List Value} {cu : Nat × Nat} {Q : Res → Mem → Prop} {σ : Mem} {x0 x1 x2 : Option Value} : X z 154 35 [x0, x1, x2] (st) cu σ Q = (X z 154 39 [x0, x1, x2] (st) cu σ Q) := by
  rw [x154_35]
  rfl
theorem v154_38 {z : P0} {st : List Value} {cu : Nat × Nat} {Q : Res → Mem → Prop} {σ : Mem} {x0 x1 x2 : Option Value} : X z 154 38 [x0, x1, x2] (st) cu σ Q = (X z 154 39 [x0, x1, x2] (.int (nI 4) :: st) cu σ Q) := by
  rw [x154_38]
  rfl
theorem v154_39 {z : P0} {cu : Nat × Nat} {Q : Res → Mem → Prop} {σ : Mem} {x0 x1 x2 : Option Value} {v : Int32} : X z 154 39 [x0, x1, x2] ([.int v]) cu σ Q = (Q (.inl (some (.int v))) σ) := by
  rw [x154_39]
  exact propext ⟨fun h => h.2, fun h => ⟨trivial, h⟩⟩
theorem v155_0 {z : P0} {st : List Value} {cu : Nat × Nat} {Q : Res → Mem → Prop} {σ : Mem} {x0 x1 : Option Value} {u : Int32} : X z 155 0 [x0, x1, some (.int u)] (st) cu σ Q = (X z 155 1 [x0, x1, some (.int u)] (.int u :: st) cu σ Q) := by
  rw [x155_0]
  rfl
theorem w155_1_0 {z : P0} {st : List Value} {cu : Nat × Nat} {Q : Res → Mem → Prop} {σ : Mem} {x0 x1 x2 : Option Value} : X z 155 1 [x0, x1, x2] (.int (nI 0) :: st) cu σ Q = (X z 155 48 [x0, x1, x2] (st) cu σ Q) := by
  rw [x155_1]
  exact tsw_in (j := 0) (by decide) (by decide) (by decide) rfl
theorem w155_1_1 {z : P0} {st : List Value} {cu : Nat × Nat} {Q : Res → Mem → Prop} {σ : Mem} {x0 x1 x2 : Option Value} : X z 155 1 [x0, x1, x2] (.int (nI 1) :: st) cu σ Q = (X z 155 59 [x0, x1, x2] (st) cu σ Q) := by
  rw [x155_1]
  exact tsw_in (j := 1) (by decide) (by decide) (by decide) rfl
theorem w155_1_2 {z : P0} {st : List Value} {cu : Nat × Nat} {Q : Res → Mem → Prop} {σ : Mem} {x0 x1 x2 : Option Value} : X z 155 1 [x0, x1, x2] (.int (nI 2) :: st) cu σ Q = (X z 155 69 [x0, x1, x2] (st) cu σ Q) := by
  rw [x155_1]
  exact tsw_in (j := 2) (by decide) (by decide) (by decide) rfl
theorem w155_1_3 {z : P0} {st : List Value} {cu : Nat × Nat} {Q : Res → Mem → Prop} {σ : Mem} {x0 x1 x2 : Option Value} : X z 155 1 [x0, x1, x2] (.int (nI 3) :: st) cu σ Q = (X z 155 79 [x0, x1, x2] (st) cu σ Q) := by
  rw [x155_1]
  exact tsw_in (j := 3) (by decide) (by decide) (by decide) rfl
theorem w155_1_4 {z : P0} {st : List Value} {cu : Nat × Nat} {Q : Res → Mem → Prop} {σ : Mem} {x0 x1 x2 : Option Value} : X z 155 1 [x0, x1, x2] (.int (nI 4) :: st) cu σ Q = (X z 155 89 [x0, x1, x2] (st) cu σ Q) := by
  rw [x155_1]
  exact tsw_in (j := 4) (by decide) (by decide) (by decide) rfl
theorem w155_1_5 {z : P0} {st : List Value} {cu : Nat × Nat} {Q : Res → Mem → Prop} {σ : Mem} {x0 x1 x2 : Option Value} : X z 155 1 [x0, x1, x2] (.int (nI 5) :: st) cu σ Q = (X z 155 99 [x0, x1, x2] (st) cu σ Q) := by
  rw [x155_1]
  exact tsw_in (j := 5) (by decide) (by decide) (by decide) rfl
theorem w155_1_6 {z : P0} {st : List Value} {cu : Nat × Nat} {Q : Res → Mem → Prop} {σ : Mem} {x0 x1 x2 : Option Value} : X z 155 1 [x0, x1, x2] (.int (nI 6) :: st) cu σ Q = (X z 155 109 [x0, x1, x2] (st) cu σ Q) := by
  rw [x155_1]
  exact tsw_in (j := 6) (by decide) (by decide) (by decide) rfl
theorem w155_1_7 {z : P0} {st : List Value} {cu : Nat × Nat} {Q : Res → Mem → Prop} {σ : Mem} {x0 x1 x2 : Option Value} : X z 155 1 [x0, x1, x2] (.int (nI 7) :: st) cu σ Q = (X z 155 119 [x0, x1, x2] (st) cu σ Q) := by
  rw [x155_1]
  exact tsw_in (j := 7) (by decide) (by decide) (by decide) rfl
theorem w155_1_d {z : P0} {st : List Value} {cu : Nat × Nat} {Q : Res → Mem → Prop} {σ : Mem} {x0 x1 x2 : Option Value} {j : Nat} (h : 7 < j ∧ j < 2147483648) : X z 155 1 [x0, x1, x2] (.int (nI j) :: st) cu σ Q = (X z 155 126 [x0, x1, x2] (st) cu σ Q) := by
  rw [x155_1]
  exact tsw_out (Or.inr (by rw [nI_toInt h.2]; omega))
theorem v155_48 {z : P0} {st : List Value} {cu : Nat × Nat} {Q : Res → Mem → Prop} {σ : Mem} {x1 x2 : Option Value} {u : Nat} : X z 155 48 [some (.ref u), x1, x2] (st) cu σ Q = (X z 155 49 [some (.ref u), x1, x2] (.ref u :: st) cu σ Q) := by
  rw [x155_48]
  rfl
theorem v155_49 {z : P0} {st : List Value} {cu : Nat × Nat} {Q : Res → Mem → Prop} {K : Nat → Nat × Nat} {I : Nat → Nat → Int32} {R : Nat → Nat → Option Nat} {L : Nat → Nat → Int64} {sz : Nat} {ex : Bool} {x0 x1 x2 : Option Value} {u : Nat} : X z 155 49 [x0, x1, x2] (.ref u :: st) cu (K, I, R, L, sz, ex) Q = ((K u).1 = 111 ∧ X z 155 52 [x0, x1, x2] (va_rf (R u 0) :: st) cu (K, I, R, L, sz, ex) Q) := by
  rw [x155_49]
  rfl
theorem v155_52 {z : P0} {st : List Value} {cu : Nat × Nat} {Q : Res → Mem → Prop} {σ : Mem} {x0 x1 x2 : Option Value} : X z 155 52 [x0, x1, x2] (st) cu σ Q = (X z 155 55 [x0, x1, x2] (.int (nI 133) :: st) cu σ Q) := by
  rw [x155_52]
  rfl
theorem v155_55 {z : P0} {st : List Value} {cu : Nat × Nat} {Q : Res → Mem → Prop} {σ : Mem} {x0 x2 : Option Value} {u : Int32} : X z 155 55 [x0, some (.int u), x2] (st) cu σ Q = (X z 155 56 [x0, some (.int u), x2] (.int u :: st) cu σ Q) := by
  rw [x155_55]
  rfl
theorem v155_56 {z : P0} {st : List Value} {cu : Nat × Nat} {Q : Res → Mem → Prop} {σ : Mem} {x0 x1 x2 : Option Value} {u v : Int32} : X z 155 56 [x0, x1, x2] (.int v :: .int u :: st) cu σ Q = (X z 155 57 [x0, x1, x2] (.int (u + v) :: st) cu σ Q) := by
  rw [x155_56]
  rfl
theorem v155_57 {z : P0} {st : List Value} {cu : Nat × Nat} {Q : Res → Mem → Prop} {K : Nat → Nat × Nat} {I : Nat → Nat → Int32} {R : Nat → Nat → Option Nat} {L : Nat → Nat → Int64} {sz : Nat} {ex : Bool} {x0 x1 x2 : Option Value} {u : Nat} {v : Int32} : X z 155 57 [x0, x1, x2] (.int v :: .ref u :: st) cu (K, I, R, L, sz, ex) Q = (((K u).1 = 20 ∨ (K u).1 = 50) ∧ vp_in v (K u).2 ∧ X z 155 58 [x0, x1, x2] (.int (I u v.toNatClampNeg) :: st) cu (K, I, R, L, sz, ex) Q) := by
  rw [x155_57]
  rfl
theorem v155_58 {z : P0} {cu : Nat × Nat} {Q : Res → Mem → Prop} {σ : Mem} {x0 x1 x2 : Option Value} {v : Int32} : X z 155 58 [x0, x1, x2] ([.int v]) cu σ Q = (Q (.inl (some (.int v))) σ) := by
  rw [x155_58]
  exact propext ⟨fun h => h.2, fun h => ⟨trivial, h⟩⟩
theorem v155_59 {z : P0} {st : List Value} {cu : Nat × Nat} {Q : Res → Mem → Prop} {σ : Mem} {x1 x2 : Option Value} {u : Nat} : X z 155 59 [some (.ref u), x1, x2] (st) cu σ Q = (X z 155 60 [some (.ref u), x1, x2] (.ref u :: st) cu σ Q) := by
  rw [x155_59]
  rfl
theorem v155_60 {z : P0} {st : List Value} {cu : Nat × Nat} {Q : Res → Mem → Prop} {K : Nat → Nat × Nat} {I : Nat → Nat → Int32} {R : Nat → Nat → Option Nat} {L : Nat → Nat → Int64} {sz : Nat} {ex : Bool} {x0 x1 x2 : Option Value} {u : Nat} : X z 155 60 [x0, x1, x2] (.ref u :: st) cu (K, I, R, L, sz, ex) Q = ((K u).1 = 111 ∧ X z 155 63 [x0, x1, x2] (va_rf (R u 0) :: st) cu (K, I, R, L, sz, ex) Q) := by
  rw [x155_60]
  rfl
theorem v155_63 {z : P0} {st : List Value} {cu : Nat × Nat} {Q : Res → Mem → Prop} {σ : Mem} {x0 x1 x2 : Option Value} : X z 155 63 [x0, x1, x2] (st) cu σ Q = (X z 155 65 [x0, x1, x2] (.int (nI 13) :: st) cu σ Q) := by
  rw [x155_63]
  rfl
theorem v155_65 {z : P0} {st : List Value} {cu : Nat × Nat} {Q : Res → Mem → Prop} {σ : Mem} {x0 x2 : Option Value} {u : Int32} : X z 155 65 [x0, some (.int u), x2] (st) cu σ Q = (X z 155 66 [x0, some (.int u), x2] (.int u :: st) cu σ Q) := by
  rw [x155_65]
  rfl
theorem v155_66 {z : P0} {st : List Value} {cu : Nat × Nat} {Q : Res → Mem → Prop} {σ : Mem} {x0 x1 x2 : Option Value} {u v : Int32} : X z 155 66 [x0, x1, x2] (.int v :: .int u :: st) cu σ Q = (X z 155 67 [x0, x1, x2] (.int (u + v) :: st) cu σ Q) := by
  rw [x155_66]
  rfl
theorem v155_67 {z : P0} {st : List Value} {cu : Nat × Nat} {Q : Res → Mem → Prop} {K : Nat → Nat × Nat} {I : Nat → Nat → Int32} {R : Nat → Nat → Option Nat} {L : Nat → Nat → Int64} {sz : Nat} {ex : Bool} {x0 x1 x2 : Option Value} {u : Nat} {v : Int32} : X z 155 67 [x0, x1, x2] (.int v :: .ref u :: st) cu (K, I, R, L, sz, ex) Q = (((K u).1 = 20 ∨ (K u).1 = 50) ∧ vp_in v (K u).2 ∧ X z 155 68 [x0, x1, x2] (.int (I u v.toNatClampNeg) :: st) cu (K, I, R, L, sz, ex) Q) := by
  rw [x155_67]
  rfl
theorem v155_68 {z : P0} {cu : Nat × Nat} {Q : Res → Mem → Prop} {σ : Mem} {x0 x1 x2 : Option Value} {v : Int32} : X z 155 68 [x0, x1, x2] ([.int v]) cu σ Q = (Q (.inl (some (.int v))) σ) := by
  rw [x155_68]
  exact propext ⟨fun h => h.2, fun h => ⟨trivial, h⟩⟩
theorem v155_69 {z : P0} {st : List Value} {cu : Nat × Nat} {Q : Res → Mem → Prop} {σ : Mem} {x1 x2 : Option Value} {u : Nat} : X z 155 69 [some (.ref u), x1, x2] (st) cu σ Q = (X z 155 70 [some (.ref u), x1, x2] (.ref u :: st) cu σ Q) := by
  rw [x155_69]
  rfl
theorem v155_70 {z : P0} {st : List Value} {cu : Nat × Nat} {Q : Res → Mem → Prop} {K : Nat → Nat × Nat} {I : Nat → Nat → Int32} {R : Nat → Nat → Option Nat} {L : Nat → Nat → Int64} {sz : Nat} {ex : Bool} {x0 x1 x2 : Option Value} {u : Nat} : X z 155 70 [x0, x1, x2] (.ref u :: st) cu (K, I, R, L, sz, ex) Q = ((K u).1 = 111 ∧ X z 155 73 [x0, x1, x2] (va_rf (R u 0) :: st) cu (K, I, R, L, sz, ex) Q) := by
  rw [x155_70]
  rfl
theorem v155_73 {z : P0} {st : List Value} {cu : Nat × Nat} {Q : Res → Mem → Prop} {σ : Mem} {x0 x1 x2 : Option Value} : X z 155 73 [x0, x1, x2] (st) cu σ Q = (X z 155 75 [x0, x1, x2] (.int (nI 33) :: st) cu σ Q) := by
  rw [x155_73]
  rfl
theorem v155_75 {z : P0} {st : List Value} {cu : Nat × Nat} {Q : Res → Mem → Prop} {σ : Mem} {x0 x2 : Option Value} {u : Int32} : X z 155 75 [x0, some (.int u), x2] (st) cu σ Q = (X z 155 76 [x0, some (.int u), x2] (.int u :: st) cu σ Q) := by
  rw [x155_75]
  rfl
theorem v155_76 {z : P0} {st : List Value} {cu : Nat × Nat} {Q : Res → Mem → Prop} {σ : Mem} {x0 x1 x2 : Option Value} {u v : Int32} : X z 155 76 [x0, x1, x2] (.int v :: .int u :: st) cu σ Q = (X z 155 77 [x0, x1, x2] (.int (u + v) :: st) cu σ Q) := by
  rw [x155_76]
  rfl
theorem v155_77 {z : P0} {st : List Value} {cu : Nat × Nat} {Q : Res → Mem → Prop} {K : Nat → Nat × Nat} {I : Nat → Nat → Int32} {R : Nat → Nat → Option Nat} {L : Nat → Nat → Int64} {sz : Nat} {ex : Bool} {x0 x1 x2 : Option Value} {u : Nat} {v : Int32} : X z 155 77 [x0, x1, x2] (.int v :: .ref u :: st) cu (K, I, R, L, sz, ex) Q = (((K u).1 = 20 ∨ (K u).1 = 50) ∧ vp_in v (K u).2 ∧ X z 155 78 [x0, x1, x2] (.int (I u v.toNatClampNeg) :: st) cu (K, I, R, L, sz, ex) Q) := by
  rw [x155_77]
  rfl
theorem v155_78 {z : P0} {cu : Nat × Nat} {Q : Res → Mem → Prop} {σ : Mem} {x0 x1 x2 : Option Value} {v : Int32} : X z 155 78 [x0, x1, x2] ([.int v]) cu σ Q = (Q (.inl (some (.int v))) σ) := by
  rw [x155_78]
  exact propext ⟨fun h => h.2, fun h => ⟨trivial, h⟩⟩
theorem v155_79 {z : P0} {st : List Value} {cu : Nat × Nat} {Q : Res → Mem → Prop} {σ : Mem} {x1 x2 : Option Value} {u : Nat} : X z 155 79 [some (.ref u), x1, x2] (st) cu σ Q = (X z 155 80 [some (.ref u), x1, x2] (.ref u :: st) cu σ Q) := by
  rw [x155_79]
  rfl
theorem v155_80 {z : P0} {st : List Value} {cu : Nat × Nat} {Q : Res → Mem → Prop} {K : Nat → Nat × Nat} {I : Nat → Nat → Int32} {R : Nat → Nat → Option Nat} {L : Nat → Nat → Int64} {sz : Nat} {ex : Bool} {x0 x1 x2 : Option Value} {u : Nat} : X z 155 80 [x0, x1, x2] (.ref u :: st) cu (K, I, R, L, sz, ex) Q = ((K u).1 = 111 ∧ X z 155 83 [x0, x1, x2] (va_rf (R u 0) :: st) cu (K, I, R, L, sz, ex) Q) := by
  rw [x155_80]
  rfl
theorem v155_83 {z : P0} {st : List Value} {cu : Nat × Nat} {Q : Res → Mem → Prop} {σ : Mem} {x0 x1 x2 : Option Value} : X z 155 83 [x0, x1, x2] (st) cu σ Q = (X z 155 85 [x0, x1, x2] (.int (nI 53) :: st) cu σ Q) := by
  rw [x155_83]
  rfl
theorem v155_85 {z : P0} {st : List Value} {cu : Nat × Nat} {Q : Res → Mem → Prop} {σ : Mem} {x0 x2 : Option Value} {u : Int32} : X z 155 85 [x0, some (.int u), x2] (st) cu σ Q = (X z 155 86 [x0, some (.int u), x2] (.int u :: st) cu σ Q) := by
  rw [x155_85]
  rfl
theorem v155_86 {z : P0} {st : List Value} {cu : Nat × Nat} {Q : Res → Mem → Prop} {σ : Mem} {x0 x1 x2 : Option Value} {u v : Int32} : X z 155 86 [x0, x1, x2] (.int v :: .int u :: st) cu σ Q = (X z 155 87 [x0, x1, x2] (.int (u + v) :: st) cu σ Q) := by
  rw [x155_86]
  rfl
theorem v155_87 {z : P0} {st : List Value} {cu : Nat × Nat} {Q : Res → Mem → Prop} {K : Nat → Nat × Nat} {I : Nat → Nat → Int32} {R : Nat → Nat → Option Nat} {L : Nat → Nat → Int64} {sz : Nat} {ex : Bool} {x0 x1 x2 : Option Value} {u : Nat} {v : Int32} : X z 155 87 [x0, x1, x2] (.int v :: .ref u :: st) cu (K, I, R, L, sz, ex) Q = (((K u).1 = 20 ∨ (K u).1 = 50) ∧ vp_in v (K u).2 ∧ X z 155 88 [x0, x1, x2] (.int (I u v.toNatClampNeg) :: st) cu (K, I, R, L, sz, ex) Q) := by
  rw [x155_87]
  rfl
theorem v155_88 {z : P0} {cu : Nat × Nat} {Q : Res → Mem → Prop} {σ : Mem} {x0 x1 x2 : Option Value} {v : Int32} : X z 155 88 [x0, x1, x2] ([.int v]) cu σ Q = (Q (.inl (some (.int v))) σ) := by
  rw [x155_88]
  exact propext ⟨fun h => h.2, fun h => ⟨trivial, h⟩⟩
theorem v155_89 {z : P0} {st : List Value} {cu : Nat × Nat} {Q : Res → Mem → Prop} {σ : Mem} {x1 x2 : Option Value} {u : Nat} : X z 155 89 [some (.ref u), x1, x2] (st) cu σ Q = (X z 155 90 [some (.ref u), x1, x2] (.ref u :: st) cu σ Q) := by
  rw [x155_89]
  rfl
theorem v155_90 {z : P0} {st : List Value} {cu : Nat × Nat} {Q : Res → Mem → Prop} {K : Nat → Nat × Nat} {I : Nat → Nat → Int32} {R : Nat → Nat → Option Nat} {L : Nat → Nat → Int64} {sz : Nat} {ex : Bool} {x0 x1 x2 : Option Value} {u : Nat} : X z 155 90 [x0, x1, x2] (.ref u :: st) cu (K, I, R, L, sz, ex) Q = ((K u).1 = 111 ∧ X z 155 93 [x0, x1, x2] (va_rf (R u 0) :: st) cu (K, I, R, L, sz, ex) Q) := by
  rw [x155_90]
  rfl
theorem v155_93 {z : P0} {st : List Value} {cu : Nat × Nat} {Q : Res → Mem → Prop} {σ : Mem} {x0 x1 x2 : Option Value} : X z 155 93 [x0, x1, x2] (st) cu σ Q = (X z 155 95 [x0, x1, x2] (.int (nI 73) :: st) cu σ Q) := by
  rw [x155_93]
  rfl
theorem v155_95 {z : P0} {st : List Value} {cu : Nat × Nat} {Q : Res → Mem → Prop} {σ : Mem} {x0 x2 : Option Value} {u : Int32} : X z 155 95 [x0, some (.int u), x2] (st) cu σ Q = (X z 155 96 [x0, some (.int u), x2] (.int u :: st) cu σ Q) := by
  rw [x155_95]
  rfl
theorem v155_96 {z : P0} {st : List Value} {cu : Nat × Nat} {Q : Res → Mem → Prop} {σ : Mem} {x0 x1 x2 : Option Value} {u v : Int32} : X z 155 96 [x0, x1, x2] (.int v :: .int u :: st) cu σ Q = (X z 155 97 [x0, x1, x2] (.int (u + v) :: st) cu σ Q) := by
  rw [x155_96]
  rfl
theorem v155_97 {z : P0} {st : List Value} {cu : Nat × Nat} {Q : Res → Mem → Prop} {K : Nat → Nat × Nat} {I : Nat → Nat → Int32} {R : Nat → Nat → Option Nat} {L : Nat → Nat → Int64} {sz : Nat} {ex : Bool} {x0 x1 x2 : Option Value} {u : Nat} {v : Int32} : X z 155 97 [x0, x1, x2] (.int v :: .ref u :: st) cu (K, I, R, L, sz, ex) Q = (((K u).1 = 20 ∨ (K u).1 = 50) ∧ vp_in v (K u).2 ∧ X z 155 98 [x0, x1, x2] (.int (I u v.toNatClampNeg) :: st) cu (K, I, R, L, sz, ex) Q) := by
  rw [x155_97]
  rfl
theorem v155_98 {z : P0} {cu : Nat × Nat} {Q : Res → Mem → Prop} {σ : Mem} {x0 x1 x2 : Option Value} {v : Int32} : X z 155 98 [x0, x1, x2] ([.int v]) cu σ Q = (Q (.inl (some (.int v))) σ) := by
  rw [x155_98]
  exact propext ⟨fun h => h.2, fun h => ⟨trivial, h⟩⟩
theorem v155_99 {z : P0} {st : List Value} {cu : Nat × Nat} {Q : Res → Mem → Prop} {σ : Mem} {x1 x2 : Option Value} {u : Nat} : X z 155 99 [some (.ref u), x1, x2] (st) cu σ Q = (X z 155 100 [some (.ref u), x1, x2] (.ref u :: st) cu σ Q) := by
  rw [x155_99]
  rfl
theorem v155_100 {z : P0} {st : List Value} {cu : Nat × Nat} {Q : Res → Mem → Prop} {K : Nat → Nat × Nat} {I : Nat → Nat → Int32} {R : Nat → Nat → Option Nat} {L : Nat → Nat → Int64} {sz : Nat} {ex : Bool} {x0 x1 x2 : Option Value} {u : Nat} : X z 155 100 [x0, x1, x2] (.ref u :: st) cu (K, I, R, L, sz, ex) Q = ((K u).1 = 111 ∧ X z 155 103 [x0, x1, x2] (va_rf (R u 0) :: st) cu (K, I, R, L, sz, ex) Q) := by
  rw [x155_100]
  rfl
theorem v155_103 {z : P0} {st : List Value} {cu : Nat × Nat} {Q : Res → Mem → Prop} {σ : Mem} {x0 x1 x2 : Option Value} : X z 155 103 [x0, x1, x2] (st) cu σ Q = (X z 155 105 [x0, x1, x2] (.int (nI 93) :: st) cu σ Q) := by
  rw [x155_103]
  rfl
theorem v155_105 {z : P0} {st : List Value} {cu : Nat × Nat} {Q : Res → Mem → Prop} {σ : Mem} {x0 x2 : Option Value} {u : Int32} : X z 155 105 [x0, some (.int u), x2] (st) cu σ Q = (X z 155 106 [x0, some (.int u), x2] (.int u :: st) cu σ Q) := by
  rw [x155_105]
  rfl
theorem v155_106 {z : P0} {st : List Value} {cu : Nat × Nat} {Q : Res → Mem → Prop} {σ : Mem} {x0 x1 x2 : Option Value} {u v : Int32} : X z 155 106 [x0, x1, x2] (.int v :: .int u :: st) cu σ Q = (X z 155 107 [x0, x1, x2] (.int (u + v) :: st) cu σ Q) := by
  rw [x155_106]
  rfl
theorem v155_107 {z : P0} {st : List Value} {cu : Nat × Nat} {Q : Res → Mem → Prop} {K : Nat → Nat × Nat} {I : Nat → Nat → Int32} {R : Nat → Nat → Option Nat} {L : Nat → Nat → Int64} {sz : Nat} {ex : Bool} {x0 x1 x2 : Option Value} {u : Nat} {v : Int32} : X z 155 107 [x0, x1, x2] (.int v :: .ref u :: st) cu (K, I, R, L, sz, ex) Q = (((K u).1 = 20 ∨ (K u).1 = 50) ∧ vp_in v (K u).2 ∧ X z 155 108 [x0, x1, x2] (.int (I u v.toNatClampNeg) :: st) cu (K, I, R, L, sz, ex) Q) := by
  rw [x155_107]
  rfl
theorem v155_108 {z : P0} {cu : Nat × Nat} {Q : Res → Mem → Prop} {σ : Mem} {x0 x1 x2 : Option Value} {v : Int32} : X z 155 108 [x0, x1, x2] ([.int v]) cu σ Q = (Q (.inl (some (.int v))) σ) := by
  rw [x155_108]
  exact propext ⟨fun h => h.2, fun h => ⟨trivial, h⟩⟩
theorem v155_109 {z : P0} {st : List Value} {cu : Nat × Nat} {Q : Res → Mem → Prop} {σ : Mem} {x1 x2 : Option Value} {u : Nat} : X z 155 109 [some (.ref u), x1, x2] (st) cu σ Q = (X z 155 110 [some (.ref u), x1, x2] (.ref u :: st) cu σ Q) := by
  rw [x155_109]
  rfl
theorem v155_110 {z : P0} {st : List Value} {cu : Nat × Nat} {Q : Res → Mem → Prop} {K : Nat → Nat × Nat} {I : Nat → Nat → Int32} {R : Nat → Nat → Option Nat} {L : Nat → Nat → Int64} {sz : Nat} {ex : Bool} {x0 x1 x2 : Option Value} {u : Nat} : X z 155 110 [x0, x1, x2] (.ref u :: st) cu (K, I, R, L, sz, ex) Q = ((K u).1 = 111 ∧ X z 155 113 [x0, x1, x2] (va_rf (R u 0) :: st) cu (K, I, R, L, sz, ex) Q) := by
  rw [x155_110]
  rfl
theorem v155_113 {z : P0} {st : List Value} {cu : Nat × Nat} {Q : Res → Mem → Prop} {σ : Mem} {x0 x1 x2 : Option Value} : X z 155 113 [x0, x1, x2] (st) cu σ Q = (X z 155 115 [x0, x1, x2] (.int (nI 113) :: st) cu σ Q) := by
  rw [x155_113]
  rfl
theorem v155_115 {z : P0} {st : List Value} {cu : Nat × Nat} {Q : Res → Mem → Prop} {σ : Mem} {x0 x2 : Option Value} {u : Int32} : X z 155 115 [x0, some (.int u), x2] (st) cu σ Q = (X z 155 116 [x0, some (.int u), x2] (.int u :: st) cu σ Q) := by
  rw [x155_115]
  rfl
theorem v155_116 {z : P0} {st : List Value} {cu : Nat × Nat} {Q : Res → Mem → Prop} {σ : Mem} {x0 x1 x2 : Option Value} {u v : Int32} : X z 155 116 [x0, x1, x2] (.int v :: .int u :: st) cu σ Q = (X z 155 117 [x0, x1, x2] (.int (u + v) :: st) cu σ Q) := by
  rw [x155_116]
  rfl
theorem v155_117 {z : P0} {st : List Value} {cu : Nat × Nat} {Q : Res → Mem → Prop} {K : Nat → Nat × Nat} {I : Nat → Nat → Int32} {R : Nat → Nat → Option Nat} {L : Nat → Nat → Int64} {sz : Nat} {ex : Bool} {x0 x1 x2 : Option Value} {u : Nat} {v : Int32} : X z 155 117 [x0, x1, x2] (.int v :: .ref u :: st) cu (K, I, R, L, sz, ex) Q = (((K u).1 = 20 ∨ (K u).1 = 50) ∧ vp_in v (K u).2 ∧ X z 155 118 [x0, x1, x2] (.int (I u v.toNatClampNeg) :: st) cu (K, I, R, L, sz, ex) Q) := by
  rw [x155_117]
  rfl
theorem v155_118 {z : P0} {cu : Nat × Nat} {Q : Res → Mem → Prop} {σ : Mem} {x0 x1 x2 : Option Value} {v : Int32} : X z 155 118 [x0, x1, x2] ([.int v]) cu σ Q = (Q (.inl (some (.int v))) σ) := by
  rw [x155_118]
  exact propext ⟨fun h => h.2, fun h => ⟨trivial, h⟩⟩
theorem v155_119 {z : P0} {st : List Value} {cu : Nat × Nat} {Q : Res → Mem → Prop} {σ : Mem} {x1 x2 : Option Value} {u : Nat} : X z 155 119 [some (.ref u), x1, x2] (st) cu σ Q = (X z 155 120 [some (.ref u), x1, x2] (.ref u :: st) cu σ Q) := by
  rw [x155_119]
  rfl
theorem v155_120 {z : P0} {st : List Value} {cu : Nat × Nat} {Q : Res → Mem → Prop} {K : Nat → Nat × Nat} {I : Nat → Nat → Int32} {R : Nat → Nat → Option Nat} {L : Nat → Nat → Int64} {sz : Nat} {ex : Bool} {x0 x1 x2 : Option Value} {u : Nat} : X z 155 120 [x0, x1, x2] (.ref u :: st) cu (K, I, R, L, sz, ex) Q = ((K u).1 = 111 ∧ X z 155 123 [x0, x1, x2] (va_rf (R u 11) :: st) cu (K, I, R, L, sz, ex) Q) := by
  rw [x155_120]
  rfl
theorem v155_123 {z : P0} {st : List Value} {cu : Nat × Nat} {Q : Res → Mem → Prop} {σ : Mem} {x0 x2 : Option Value} {u : Int32} : X z 155 123 [x0, some (.int u), x2] (st) cu σ Q = (X z 155 124 [x0, some (.int u), x2] (.int u :: st) cu σ Q) := by
  rw [x155_123]
  rfl
theorem v155_124 {z : P0} {st : List Value} {cu : Nat × Nat} {Q : Res → Mem → Prop} {K : Nat → Nat × Nat} {I : Nat → Nat → Int32} {R : Nat → Nat → Option Nat} {L : Nat → Nat → Int64} {sz : Nat} {ex : Bool} {x0 x1 x2 : Option Value} {u : Nat} {v : Int32} : X z 155 124 [x0, x1, x2] (.int v :: .ref u :: st) cu (K, I, R, L, sz, ex) Q = (((K u).1 = 20 ∨ (K u).1 = 50) ∧ vp_in v (K u).2 ∧ X z 155 125 [x0, x1, x2] (.int (I u v.toNatClampNeg) :: st) cu (K, I, R, L, sz, ex) Q) := by
  rw [x155_124]
  rfl
theorem v155_125 {z : P0} {cu : Nat × Nat} {Q : Res → Mem → Prop} {σ : Mem} {x0 x1 x2 : Option Value} {v : Int32} : X z 155 125 [x0, x1, x2] ([.int v]) cu σ Q = (Q (.inl (some (.int v))) σ) := by
  rw [x155_125]
  exact propext ⟨fun h => h.2, fun h => ⟨trivial, h⟩⟩
theorem v155_126 {z : P0} {st : List Value} {cu : Nat × Nat} {Q : Res → Mem → Prop} {σ : Mem} {x1 x2 : Option Value} {u : Nat} : X z 155 126 [some (.ref u), x1, x2] (st) cu σ Q = (X z 155 127 [some (.ref u), x1, x2] (.ref u :: st) cu σ Q) := by
  rw [x155_126]
  rfl
theorem v155_127 {z : P0} {st : List Value} {cu : Nat × Nat} {Q : Res → Mem → Prop} {σ : Mem} {x0 x2 : Option Value} {u : Int32} : X z 155 127 [x0, some (.int u), x2] (st) cu σ Q = (X z 155 128 [x0, some (.int u), x2] (.int u :: st) cu σ Q) := by
  rw [x155_127]
  rfl
theorem u155_128 {z : P0} {ls : Lcs} {st : List Value} {K : Nat → Nat × Nat} {I : Nat → Nat → Int32} {R : Nat → Nat → Option Nat} {L : Nat → Nat → Int64} {sz : Nat} {ex : Bool} {Q : Res → Mem → Prop} {x : Nat} {a0 : Int32} : X z 155 128 ls (.int a0 :: .ref x :: st) (0, 0) (K, I, R, L, sz, ex) Q = ((K x).1 = 111 ∧ wsum st ≤ 8 ∧ X z 154 0 [some (.ref x), some (.int a0), none] [] (0, 0) (K, I, R, L, sz, ex) (aftr (X z) mT 155 128 ls st (0, 0) Q)) := v155_128 (c := 0) (n := 0)
theorem v155_131 {z : P0} {cu : Nat × Nat} {Q : Res → Mem → Prop} {σ : Mem} {x0 x1 x2 : Option Value} {v : Int32} : X z 155 131 [x0, x1, x2] ([.int v]) cu σ Q = (Q (.inl (some (.int v))) σ) := by
  rw [x155_131]
  exact propext ⟨fun h => h.2, fun h => ⟨trivial, h⟩⟩
theorem v156_0 {z : P0} {st : List Value} {cu : Nat × Nat} {Q : Res → Mem → Prop} {σ : Mem} {x1 x2 : Option Value} {u : Nat} : X z 156 0 [some (.ref u), x1, x2] (st) cu σ Q = (X z 156 1 [some (.ref u), x1, x2] (.ref u :: st) cu σ Q) := by
  rw [x156_0]
  rfl
theorem v156_1 {z : P0} {st : List Value} {cu : Nat × Nat} {Q : Res → Mem → Prop} {σ : Mem} {x1 x2 : Option Value} {u : Nat} : X z 156 1 [some (.ref u), x1, x2] (st) cu σ Q = (X z 156 2 [some (.ref u), x1, x2] (.ref u :: st) cu σ Q) := by
  rw [x156_1]
  rfl
theorem v156_2 {z : P0} {st : List Value} {cu : Nat × Nat} {Q : Res → Mem → Prop} {σ : Mem} {x0 x2 : Option Value} {u : Int32} : X z 156 2 [x0, some (.int u), x2] (st) cu σ Q = (X z 156 3 [x0, some (.int u), x2] (.int u :: st) cu σ Q) := by
  rw [x156_2]
  rfl
theorem u156_3 {z : P0} {ls : Lcs} {st : List Value} {K : Nat → Nat × Nat} {I : Nat → Nat → Int32} {R : Nat → Nat → Option Nat} {L : Nat → Nat → Int64} {sz : Nat} {ex : Bool} {Q : Res → Mem → Prop} {x : Nat} {a0 : Int32} : X z 156 3 ls (.int a0 :: .ref x :: st) (0, 0) (K, I, R, L, sz, ex) Q = ((K x).1 = 111 ∧ wsum st ≤ 8 ∧ X z 108 0 [some (.ref x), some (.int a0)] [] (0, 0) (K, I, R, L, sz, ex) (aftr (X z) mT 156 3 ls st (0, 0) Q)) := v156_3 (c := 0) (n := 0)
theorem v156_6 {z : P0} {st : List Value} {cu : Nat × Nat} {Q : Res → Mem → Prop} {σ : Mem} {x0 x1 x2 : Option Value} {u : Int32} : X z 156 6 [x0, x1, x2] (.int u :: st) cu σ Q = (if u = nI 0 then X z 156 9 [x0, x1, x2] (st) cu σ Q else X z 156 13 [x0, x1, x2] (st) cu σ Q) := by
  rw [x156_6]
  rw [nI_0]
  obtain ⟨K, I, R, L, sz, ex⟩ := σ
  exact br_ne
theorem v156_9 {z : P0} {st : List Value} {cu : Nat × Nat} {Q : Res → Mem → Prop} {σ : Mem} {x0 x1 x2 : Option Value} : X z 156 9 [x0, x1, x2] (st) cu σ Q = (X z 156 10 [x0, x1, x2] (.int (nI 1) :: st) cu σ Q) := by
  rw [x156_9]
  rfl
theorem v156_10 {z : P0} {st : List Value} {cu : Nat × Nat} {Q : Res → Mem → Prop} {σ : Mem} {x0 x1 x2 : Option Value} : X z 156 10 [x0, x1, x2] (st) cu σ Q = (X z 156 28 [x0, x1, x2] (st) cu σ Q) := by
  rw [x156_10]
  rfl
theorem v156_13 {z : P0} {st : List Value} {cu : Nat × Nat} {Q : Res → Mem → Prop} {σ : Mem} {x0 x1 : Option Value} {u : Int32} : X z 156 13 [x0, x1, some (.int u)] (st) cu σ Q = (X z 156 14 [x0, x1, some (.int u)] (.int u :: st) cu σ Q) := by
  rw [x156_13]
  rfl
theorem v156_14 {z : P0} {st : List Value} {cu : Nat × Nat} {Q : Res → Mem → Prop} {σ : Mem} {x0 x1 x2 : Option Value} : X z 156 14 [x0, x1, x2] (st) cu σ Q = (X z 156 15 [x0, x1, x2] (.int (nI 0) :: st) cu σ Q) := by
  rw [x156_14]
  rfl
theorem v156_15 {z : P0} {st : List Value} {cu : Nat × Nat} {Q : Res → Mem → Prop} {σ : Mem} {x0 x1 x2 : Option Value} : X z 156 15 [x0, x1, x2] (st) cu σ Q = (X z 156 17 [x0, x1, x2] (.int (nI 8) :: st) cu σ Q) := by
  rw [x156_15]
  rfl
theorem u156_17 {z : P0} {ls : Lcs} {st : List Value} {K : Nat → Nat × Nat} {I : Nat → Nat → Int32} {R : Nat → Nat → Option Nat} {L : Nat → Nat → Int64} {sz : Nat} {ex : Bool} {Q : Res → Mem → Prop} {a0 : Int32} {a1 : Int32} {a2 : Int32} : X z 156 17 ls (.int a2 :: .int a1 :: .int a0 :: st) (0, 0) (K, I, R, L, sz, ex) Q = (wsum st ≤ 8 ∧ X z 106 0 [some (.int a0), some (.int a1), some (.int a2)] [] (0, 0) (K, I, R, L, sz, ex) (aftr (X z) mT 156 17 ls st (0, 0) Q)) := v156_17 (c := 0) (n := 0)
theorem v156_20 {z : P0} {st : List Value} {cu : Nat × Nat} {Q : Res → Mem → Prop} {σ : Mem} {x0 x1 x2 : Option Value} {u : Int32} : X z 156 20 [x0, x1, x2] (.int u :: st) cu σ Q = (if u = nI 0 then X z 156 27 [x0, x1, x2] (st) cu σ Q else X z 156 23 [x0, x1, x2] (st) cu σ Q) := by
  rw [x156_20]
  rw [nI_0]
  obtain ⟨K, I, R, L, sz, ex⟩ := σ
  exact br_ite
theorem v156_23 {z : P0} {st : List Value} {cu : Nat × Nat} {Q : Res → Mem → Prop} {σ : Mem} {x0 x1 x2 : Option Value} : X z 156 23 [x0, x1, x2] (st) cu σ Q = (X z 156 24 [x0, x1, x2] (.int (nI 0) :: st) cu σ Q) := by
  rw [x156_23]
  rfl
theorem v156_24 {z : P0} {st : List Value} {cu : Nat × Nat} {Q : Res → Mem → Prop} {σ : Mem} {x0 x1 x2 : Option Value} : X z 156 24 [x0, x1, x2] (st) cu σ Q = (X z 156 28 [x0, x1, x2] (st) cu σ Q) := by
  rw [x156_24]
  rfl
theorem v156_27 {z : P0} {st : List Value} {cu : Nat × Nat} {Q : Res → Mem → Prop} {σ : Mem} {x0 x1 x2 : Option Value} : X z 156 27 [x0, x1, x2] (st) cu σ Q = (X z 156 28 [x0, x1, x2] (.int (nI 2) :: st) cu σ Q) := by
  rw [x156_27]
  rfl
theorem v156_28 {z : P0} {st : List Value} {cu : Nat × Nat} {Q : Res → Mem → Prop} {K : Nat → Nat × Nat} {I : Nat → Nat → Int32} {R : Nat → Nat → Option Nat} {L : Nat → Nat → Int64} {sz : Nat} {ex : Bool} {x0 x1 x2 : Option Value} {u : Nat} {v : Int32} : X z 156 28 [x0, x1, x2] (.int v :: .ref u :: st) cu (K, I, R, L, sz, ex) Q = ((K u).1 = 111 ∧ X z 156 31 [x0, x1, x2] (st) cu (K, up2 I u 5 v, R, L, sz, ex) Q) := by
  rw [x156_28]
  exact i_putI
theorem v156_31 {z : P0} {st : List Value} {cu : Nat × Nat} {Q : Res → Mem → Prop} {σ : Mem} {x1 x2 : Option Value} {u : Nat} : X z 156 31 [some (.ref u), x1, x2] (st) cu σ Q = (X z 156 32 [some (.ref u), x1, x2] (.ref u :: st) cu σ Q) := by
  rw [x156_31]
  rfl
theorem v156_32 {z : P0} {st : List Value} {cu : Nat × Nat} {Q : Res → Mem → Prop} {K : Nat → Nat × Nat} {I : Nat → Nat → Int32} {R : Nat → Nat → Option Nat} {L : Nat → Nat → Int64} {sz : Nat} {ex : Bool} {x0 x1 x2 : Option Value} {u : Nat} : X z 156 32 [x0, x1, x2] (.ref u :: st) cu (K, I, R, L, sz, ex) Q = ((K u).1 = 111 ∧ X z 156 35 [x0, x1, x2] (.int (I u 5) :: st) cu (K, I, R, L, sz, ex) Q) := by
  rw [x156_32]
  rfl
theorem v156_35 {z : P0} {st : List Value} {cu : Nat × Nat} {Q : Res → Mem → Prop} {σ : Mem} {x0 x1 x2 : Option Value} {u : Int32} : X z 156 35 [x0, x1, x2] (.int u :: st) cu σ Q = (if nI 0 < u then X z 156 38 [x0, x1, x2] (st) cu σ Q else X z 156 40 [x0, x1, x2] (st) cu σ Q) := by
  rw [x156_35]
  rw [nI_0]
  obtain ⟨K, I, R, L, sz, ex⟩ := σ
  exact br_ge
theorem v156_38 {z : P0} {st : List Value} {cu : Nat × Nat} {Q : Res → Mem → Prop} {σ : Mem} {x0 x1 x2 : Option Value} : X z 156 38 [x0, x1, x2] (st) cu σ Q = (X z 156 39 [x0, x1, x2] (.int (nI 0) :: st) cu σ Q) := by
  rw [x156_38]
  rfl
theorem v156_39 {z : P0} {cu : Nat × Nat} {Q : Res → Mem → Prop} {σ : Mem} {x0 x1 x2 : Option Value} {v : Int32} : X z 156 39 [x0, x1, x2] ([.int v]) cu σ Q = (Q (.inl (some (.int v))) σ) := by
  rw [x156_39]
  exact propext ⟨fun h => h.2, fun h => ⟨trivial, h⟩⟩
theorem v156_40 {z : P0} {st : List Value} {cu : Nat × Nat} {Q : Res → Mem → Prop} {σ : Mem} {x1 x2 : Option Value} {u : Nat} : X z 156 40 [some (.ref u), x1, x2] (st) cu σ Q = (X z 156 41 [some (.ref u), x1, x2] (.ref u :: st) cu σ Q) := by
  rw [x156_40]
  rfl
theorem u156_41 {z : P0} {ls : Lcs} {st : List Value} {K : Nat → Nat × Nat} {I : Nat → Nat → Int32} {R : Nat → Nat → Option Nat} {L : Nat → Nat → Int64} {sz : Nat} {ex : Bool} {Q : Res → Mem → Prop} {x : Nat} : X z 156 41 ls (.ref x :: st) (0, 0) (K, I, R, L, sz, ex) Q = ((K x).1 = 111 ∧ wsum st ≤ 8 ∧ X z 130 0 [some (.ref x), none] [] (0, 0) (K, I, R, L, sz, ex) (aftr (X z) mT 156 41 ls st (0, 0) Q)) := v156_41 (c := 0) (n := 0)
theorem v156_44 {z : P0} {st : List Value} {cu : Nat × Nat} {Q : Res → Mem → Prop} {σ : Mem} {x1 x2 : Option Value} {u : Nat} : X z 156 44 [some (.ref u), x1, x2] (st) cu σ Q = (X z 156 45 [some (.ref u), x1, x2] (.ref u :: st) cu σ Q) := by
  rw [x156_44]
  rfl
theorem v156_45 {z : P0} {st : List Value} {cu : Nat × Nat} {Q : Res → Mem → Prop} {σ : Mem} {x0 x2 : Option Value} {u : Int32} : X z 156 45 [x0, some (.int u), x2] (st) cu σ Q = (X z 156 46 [x0, some (.int u), x2] (.int u :: st) cu σ Q) := by
  rw [x156_45]
  rfl
theorem v156_46 {z : P0} {st : List Value} {cu : Nat × Nat} {Q : Res → Mem → Prop} {σ : Mem} {x0 x1 : Option Value} {u : Int32} : X z 156 46 [x0, x1, some (.int u)] (st) cu σ Q = (X z 156 47 [x0, x1, some (.int u)] (.int u :: st) cu σ Q) := by
  rw [x156_46]
  rfl
theorem u156_47 {z : P0} {ls : Lcs} {st : List Value} {K : Nat → Nat × Nat} {I : Nat → Nat → Int32} {R : Nat → Nat → Option Nat} {L : Nat → Nat → Int64} {sz : Nat} {ex : Bool} {Q : Res → Mem → Prop} {x : Nat} {a0 : Int32} {a1 : Int32} : X z 156 47 ls (.int a1 :: .int a0 :: .ref x :: st) (0, 0) (K, I, R, L, sz, ex) Q = ((K x).1 = 111 ∧ wsum st ≤ 8 ∧ X z 155 0 [some (.ref x), some (.int a0), some (.int a1)] [] (0, 0) (K, I, R, L, sz, ex) (aftr (X z) mT 156 47 ls st (0, 0) Q)) := v156_47 (c := 0) (n := 0)
theorem v156_50 {z : P0} {cu : Nat × Nat} {Q : Res → Mem → Prop} {σ : Mem} {x0 x1 x2 : Option Value} {v : Int32} : X z 156 50 [x0, x1, x2] ([.int v]) cu σ Q = (Q (.inl (some (.int v))) σ) := by
  rw [x156_50]
  exact propext ⟨fun h => h.2, fun h => ⟨trivial, h⟩⟩
theorem v157_0 {z : P0} {st : List Value} {cu : Nat × Nat} {Q : Res → Mem → Prop} {σ : Mem} {x1 x2 : Option Value} {u : Nat} : X z 157 0 [some (.ref u), x1, x2] (st) cu σ Q = (X z 157 1 [some (.ref u), x1, x2] (.ref u :: st) cu σ Q) := by
  rw [x157_0]
  rfl
theorem v157_1 {z : P0} {st : List Value} {cu : Nat × Nat} {Q : Res → Mem → Prop} {σ : Mem} {x1 x2 : Option Value} {u : Nat} : X z 157 1 [some (.ref u), x1, x2] (st) cu σ Q = (X z 157 2 [some (.ref u), x1, x2] (.ref u :: st) cu σ Q) := by
  rw [x157_1]
  rfl
theorem v157_2 {z : P0} {st : List Value} {cu : Nat × Nat} {Q : Res → Mem → Prop} {σ : Mem} {x0 x2 : Option Value} {u : Int32} : X z 157 2 [x0, some (.int u), x2] (st) cu σ Q = (X z 157 3 [x0, some (.int u), x2] (.int u :: st) cu σ Q) := by
  rw [x157_2]
  rfl
theorem u157_3 {z : P0} {ls : Lcs} {st : List Value} {K : Nat → Nat × Nat} {I : Nat → Nat → Int32} {R : Nat → Nat → Option Nat} {L : Nat → Nat → Int64} {sz : Nat} {ex : Bool} {Q : Res → Mem → Prop} {x : Nat} {a0 : Int32} : X z 157 3 ls (.int a0 :: .ref x :: st) (0, 0) (K, I, R, L, sz, ex) Q = ((K x).1 = 111 ∧ wsum st ≤ 8 ∧ X z 108 0 [some (.ref x), some (.int a0)] [] (0, 0) (K, I, R, L, sz, ex) (aftr (X z) mT 157 3 ls st (0, 0) Q)) := v157_3 (c := 0) (n := 0)
theorem v157_6 {z : P0} {st : List Value} {cu : Nat × Nat} {Q : Res → Mem → Prop} {σ : Mem} {x0 x1 x2 : Option Value} {u : Int32} : X z 157 6 [x0, x1, x2] (.int u :: st) cu σ Q = (if u = nI 0 then X z 157 33 [x0, x1, x2] (st) cu σ Q else X z 157 9 [x0, x1, x2] (st) cu σ Q) := by
  rw [x157_6]
  rw [nI_0]
  obtain ⟨K, I, R, L, sz, ex⟩ := σ
  exact br_ite
theorem v157_9 {z : P0} {st : List Value} {cu : Nat × Nat} {Q : Res → Mem → Prop} {σ : Mem} {x0 x1 : Option Value} {u : Int32} : X z 157 9 [x0, x1, some (.int u)] (st) cu σ Q = (X z 157 10 [x0, x1, some (.int u)] (.int u :: st) cu σ Q) := by
  rw [x157_9]
  rfl
theorem v157_10 {z : P0} {st : List Value} {cu : Nat × Nat} {Q : Res → Mem → Prop} {σ : Mem} {x0 x1 x2 : Option Value} : X z 157 10 [x0, x1, x2] (st) cu σ Q = (X z 157 11 [x0, x1, x2] (.int (nI 0) :: st) cu σ Q) := by
  rw [x157_10]
  rfl
theorem v157_11 {z : P0} {st : List Value} {cu : Nat × Nat} {Q : Res → Mem → Prop} {σ : Mem} {x1 x2 : Option Value} {u : Nat} : X z 157 11 [some (.ref u), x1, x2] (st) cu σ Q = (X z 157 12 [some (.ref u), x1, x2] (.ref u :: st) cu σ Q) := by
  rw [x157_11]
  rfl
theorem v157_12 {z : P0} {st : List Value} {cu : Nat × Nat} {Q : Res → Mem → Prop} {K : Nat → Nat × Nat} {I : Nat → Nat → Int32} {R : Nat → Nat → Option Nat} {L : Nat → Nat → Int64} {sz : Nat} {ex : Bool} {x0 x1 x2 : Option Value} {u : Nat} : X z 157 12 [x0, x1, x2] (.ref u :: st) cu (K, I, R, L, sz, ex) Q = ((K u).1 = 111 ∧ X z 157 15 [x0, x1, x2] (va_rf (R u 0) :: st) cu (K, I, R, L, sz, ex) Q) := by
  rw [x157_12]
  rfl
theorem v157_15 {z : P0} {st : List Value} {cu : Nat × Nat} {Q : Res → Mem → Prop} {σ : Mem} {x0 x1 x2 : Option Value} : X z 157 15 [x0, x1, x2] (st) cu σ Q = (X z 157 18 [x0, x1, x2] (.int (nI 133) :: st) cu σ Q) := by
  rw [x157_15]
  rfl
theorem v157_18 {z : P0} {st : List Value} {cu : Nat × Nat} {Q : Res → Mem → Prop} {σ : Mem} {x0 x2 : Option Value} {u : Int32} : X z 157 18 [x0, some (.int u), x2] (st) cu σ Q = (X z 157 19 [x0, some (.int u), x2] (.int u :: st) cu σ Q) := by
  rw [x157_18]
  rfl
theorem v157_19 {z : P0} {st : List Value} {cu : Nat × Nat} {Q : Res → Mem → Prop} {σ : Mem} {x0 x1 x2 : Option Value} {u v : Int32} : X z 157 19 [x0, x1, x2] (.int v :: .int u :: st) cu σ Q = (X z 157 20 [x0, x1, x2] (.int (u + v) :: st) cu σ Q) := by
  rw [x157_19]
  rfl
theorem v157_20 {z : P0} {st : List Value} {cu : Nat × Nat} {Q : Res → Mem → Prop} {K : Nat → Nat × Nat} {I : Nat → Nat → Int32} {R : Nat → Nat → Option Nat} {L : Nat → Nat → Int64} {sz : Nat} {ex : Bool} {x0 x1 x2 : Option Value} {u : Nat} {v : Int32} : X z 157 20 [x0, x1, x2] (.int v :: .ref u :: st) cu (K, I, R, L, sz, ex) Q = (((K u).1 = 20 ∨ (K u).1 = 50) ∧ vp_in v (K u).2 ∧ X z 157 21 [x0, x1, x2] (.int (I u v.toNatClampNeg) :: st) cu (K, I, R, L, sz, ex) Q) := by
  rw [x157_20]
  rfl
theorem v157_21 {z : P0} {st : List Value} {cu : Nat × Nat} {Q : Res → Mem → Prop} {σ : Mem} {x0 x1 x2 : Option Value} : X z 157 21 [x0, x1, x2] (st) cu σ Q = (X z 157 22 [x0, x1, x2] (.int (nI 1) :: st) cu σ Q) := by
  rw [x157_21]
  rfl
theorem v157_22 {z : P0} {st : List Value} {cu : Nat × Nat} {Q : Res → Mem → Prop} {σ : Mem} {x0 x1 x2 : Option Value} {u v : Int32} : X z 157 22 [x0, x1, x2] (.int v :: .int u :: st) cu σ Q = (X z 157 23 [x0, x1, x2] (.int (u - v) :: st) cu σ Q) := by
  rw [x157_22]
  rfl
theorem u157_23 {z : P0} {ls : Lcs} {st : List Value} {K : Nat → Nat × Nat} {I : Nat → Nat → Int32} {R : Nat → Nat → Option Nat} {L : Nat → Nat → Int64} {sz : Nat} {ex : Bool} {Q : Res → Mem → Prop} {a0 : Int32} {a1 : Int32} {a2 : Int32} : X z 157 23 ls (.int a2 :: .int a1 :: .int a0 :: st) (0, 0) (K, I, R, L, sz, ex) Q = (wsum st ≤ 8 ∧ X z 106 0 [some (.int a0), some (.int a1), some (.int a2)] [] (0, 0) (K, I, R, L, sz, ex) (aftr (X z) mT 157 23 ls st (0, 0) Q)) := v157_23 (c := 0) (n := 0)
theorem v157_26 {z : P0} {st : List Value} {cu : Nat × Nat} {Q : Res → Mem → Prop} {σ : Mem} {x0 x1 x2 : Option Value} {u : Int32} : X z 157 26 [x0, x1, x2] (.int u :: st) cu σ Q = (if u = nI 0 then X z 157 33 [x0, x1, x2] (st) cu σ Q else X z 157 29 [x0, x1, x2] (st) cu σ Q) := by
  rw [x157_26]
  rw [nI_0]
  obtain ⟨K, I, R, L, sz, ex⟩ := σ
  exact br_ite
theorem v157_29 {z : P0} {st : List Value} {cu : Nat × Nat} {Q : Res → Mem → Prop} {σ : Mem} {x0 x1 x2 : Option Value} : X z 157 29 [x0, x1, x2] (st) cu σ Q = (X z 157 30 [x0, x1, x2] (.int (nI 0) :: st) cu σ Q) := by
  rw [x157_29]
  rfl
theorem v157_30 {z : P0} {st : List Value} {cu : Nat × Nat} {Q : Res → Mem → Prop} {σ : Mem} {x0 x1 x2 : Option Value} : X z 157 30 [x0, x1, x2] (st) cu σ Q = (X z 157 34 [x0, x1, x2] (st) cu σ Q) := by
  rw [x157_30]
  rfl
theorem v157_33 {z : P0} {st : List Value} {cu : Nat × Nat} {Q : Res → Mem → Prop} {σ : Mem} {x0 x1 x2 : Option Value} : X z 157 33 [x0, x1, x2] (st) cu σ Q = (X z 157 34 [x0, x1, x2] (.int (nI 1) :: st) cu σ Q) := by
  rw [x157_33]
  rfl
theorem v157_34 {z : P0} {st : List Value} {cu : Nat × Nat} {Q : Res → Mem → Prop} {K : Nat → Nat × Nat} {I : Nat → Nat → Int32} {R : Nat → Nat → Option Nat} {L : Nat → Nat → Int64} {sz : Nat} {ex : Bool} {x0 x1 x2 : Option Value} {u : Nat} {v : Int32} : X z 157 34 [x0, x1, x2] (.int v :: .ref u :: st) cu (K, I, R, L, sz, ex) Q = ((K u).1 = 111 ∧ X z 157 37 [x0, x1, x2] (st) cu (K, up2 I u 5 v, R, L, sz, ex) Q) := by
  rw [x157_34]
  exact i_putI
theorem v157_37 {z : P0} {st : List Value} {cu : Nat × Nat} {Q : Res → Mem → Prop} {σ : Mem} {x1 x2 : Option Value} {u : Nat} : X z 157 37 [some (.ref u), x1, x2] (st) cu σ Q = (X z 157 38 [some (.ref u), x1, x2] (.ref u :: st) cu σ Q) := by
  rw [x157_37]
  rfl
theorem v157_38 {z : P0} {st : List Value} {cu : Nat × Nat} {Q : Res → Mem → Prop} {K : Nat → Nat × Nat} {I : Nat → Nat → Int32} {R : Nat → Nat → Option Nat} {L : Nat → Nat → Int64} {sz : Nat} {ex : Bool} {x0 x1 x2 : Option Value} {u : Nat} : X z 157 38 [x0, x1, x2] (.ref u :: st) cu (K, I, R, L, sz, ex) Q = ((K u).1 = 111 ∧ X z 157 41 [x0, x1, x2] (.int (I u 5) :: st) cu (K, I, R, L, sz, ex) Q) := by
  rw [x157_38]
  rfl
theorem v157_41 {z : P0} {st : List Value} {cu : Nat × Nat} {Q : Res → Mem → Prop} {σ : Mem} {x0 x1 x2 : Option Value} {u : Int32} : X z 157 41 [x0, x1, x2] (.int u :: st) cu σ Q = (if nI 0 < u then X z 157 44 [x0, x1, x2] (st) cu σ Q else X z 157 48 [x0, x1, x2] (st) cu σ Q) := by
  rw [x157_41]
  rw [nI_0]
  obtain ⟨K, I, R, L, sz, ex⟩ := σ
  exact br_ge
theorem v157_44 {z : P0} {st : List Value} {cu : Nat × Nat} {Q : Res → Mem → Prop} {σ : Mem} {x0 x1 x2 : Option Value} : X z 157 44 [x0, x1, x2] (st) cu σ Q = (X z 157 45 [x0, x1, x2] (.int (nI 0) :: st) cu σ Q) := by
  rw [x157_44]
  rfl
theorem v157_45 {z : P0} {st : List Value} {cu : Nat × Nat} {Q : Res → Mem → Prop} {σ : Mem} {x0 x1 x2 : Option Value} : X z 157 45 [x0, x1, x2] (st) cu σ Q = (X z 157 63 [x0, x1, x2] (st) cu σ Q) := by
  rw [x157_45]
  rfl
theorem v157_48 {z : P0} {st : List Value} {cu : Nat × Nat} {Q : Res → Mem → Prop} {σ : Mem} {x1 x2 : Option Value} {u : Nat} : X z 157 48 [some (.ref u), x1, x2] (st) cu σ Q = (X z 157 49 [some (.ref u), x1, x2] (.ref u :: st) cu σ Q) := by
  rw [x157_48]
  rfl
theorem v157_49 {z : P0} {st : List Value} {cu : Nat × Nat} {Q : Res → Mem → Prop} {K : Nat → Nat × Nat} {I : Nat → Nat → Int32} {R : Nat → Nat → Option Nat} {L : Nat → Nat → Int64} {sz : Nat} {ex : Bool} {x0 x1 x2 : Option Value} {u : Nat} : X z 157 49 [x0, x1, x2] (.ref u :: st) cu (K, I, R, L, sz, ex) Q = ((K u).1 = 111 ∧ X z 157 52 [x0, x1, x2] (va_rf (R u 0) :: st) cu (K, I, R, L, sz, ex) Q) := by
  rw [x157_49]
  rfl
theorem v157_52 {z : P0} {st : List Value} {cu : Nat × Nat} {Q : Res → Mem → Prop} {σ : Mem} {x0 x1 x2 : Option Value} : X z 157 52 [x0, x1, x2] (st) cu σ Q = (X z 157 55 [x0, x1, x2] (.int (nI 153) :: st) cu σ Q) := by
  rw [x157_52]
  rfl
theorem v157_55 {z : P0} {st : List Value} {cu : Nat × Nat} {Q : Res → Mem → Prop} {σ : Mem} {x0 x1 x2 : Option Value} : X z 157 55 [x0, x1, x2] (st) cu σ Q = (X z 157 57 [x0, x1, x2] (.int (nI 8) :: st) cu σ Q) := by
  rw [x157_55]
  rfl
theorem v157_57 {z : P0} {st : List Value} {cu : Nat × Nat} {Q : Res → Mem → Prop} {σ : Mem} {x0 x2 : Option Value} {u : Int32} : X z 157 57 [x0, some (.int u), x2] (st) cu σ Q = (X z 157 58 [x0, some (.int u), x2] (.int u :: st) cu σ Q) := by
  rw [x157_57]
  rfl
theorem v157_58 {z : P0} {st : List Value} {cu : Nat × Nat} {Q : Res → Mem → Prop} {σ : Mem} {x0 x1 x2 : Option Value} {u v : Int32} : X z 157 58 [x0, x1, x2] (.int v :: .int u :: st) cu σ Q = (X z 157 59 [x0, x1, x2] (.int (u * v) :: st) cu σ Q) := by
  rw [x157_58]
  rfl
theorem v157_59 {z : P0} {st : List Value} {cu : Nat × Nat} {Q : Res → Mem → Prop} {σ : Mem} {x0 x1 x2 : Option Value} {u v : Int32} : X z 157 59 [x0, x1, x2] (.int v :: .int u :: st) cu σ Q = (X z 157 60 [x0, x1, x2] (.int (u + v) :: st) cu σ Q) := by
  rw [x157_59]
  rfl
theorem v157_60 {z : P0} {st : List Value} {cu : Nat × Nat} {Q : Res → Mem → Prop} {σ : Mem} {x0 x1 : Option Value} {u : Int32} : X z 157 60 [x0, x1, some (.int u)] (st) cu σ Q = (X z 157 61 [x0, x1, some (.int u)] (.int u :: st) cu σ Q) := by
  rw [x157_60]
  rfl
theorem v157_61 {z : P0} {st : List Value} {cu : Nat × Nat} {Q : Res → Mem → Prop} {σ : Mem} {x0 x1 x2 : Option Value} {u v : Int32} : X z 157 61 [x0, x1, x2] (.int v :: .int u :: st) cu σ Q = (X z 157 62 [x0, x1, x2] (.int (u + v) :: st) cu σ Q) := by
  rw [x157_61]
  rfl
theorem v157_62 {z : P0} {st : List Value} {cu : Nat × Nat} {Q : Res → Mem → Prop} {K : Nat → Nat × Nat} {I : Nat → Nat → Int32} {R : Nat → Nat → Option Nat} {L : Nat → Nat → Int64} {sz : Nat} {ex : Bool} {x0 x1 x2 : Option Value} {u : Nat} {v : Int32} : X z 157 62 [x0, x1, x2] (.int v :: .ref u :: st) cu (K, I, R, L, sz, ex) Q = (((K u).1 = 20 ∨ (K u).1 = 50) ∧ vp_in v (K u).2 ∧ X z 157 63 [x0, x1, x2] (.int (I u v.toNatClampNeg) :: st) cu (K, I, R, L, sz, ex) Q) := by
  rw [x157_62]
  rfl
theorem v157_63 {z : P0} {cu : Nat × Nat} {Q : Res → Mem → Prop} {σ : Mem} {x0 x1 x2 : Option Value} {v : Int32} : X z 157 63 [x0, x1, x2] ([.int v]) cu σ Q = (Q (.inl (some (.int v))) σ) := by
  rw [x157_63]
  exact propext ⟨fun h => h.2, fun h => ⟨trivial, h⟩⟩
theorem v158_0 {z : P0} {st : List Value} {cu : Nat × Nat} {Q : Res → Mem → Prop} {σ : Mem} {x0 x1 x2 x3 : Option Value} : X z 158 0 [x0, x1, x2, x3] (st) cu σ Q = (X z 158 1 [x0, x1, x2, x3] (.int (nI 0) :: st) cu σ Q) := by
  rw [x158_0]
  rfl
theorem v158_1 {z : P0} {st : List Value} {cu : Nat × Nat} {Q : Res → Mem → Prop} {σ : Mem} {x0 x1 x2 x3 : Option Value} {u : Int32} : X z 158 1 [x0, x1, x2, x3] (.int u :: st) cu σ Q = (cat2 x1 = false ∧ X z 158 2 [x0, x1, some (.int u), x3] (st) cu σ Q) := by
  rw [x158_1]
  obtain ⟨K, I, R, L, sz, ex⟩ := σ
  exact i_istore_n.trans sl_2
theorem v158_2 {z : P0} {st : List Value} {cu : Nat × Nat} {Q : Res → Mem → Prop} {σ : Mem} {x0 x1 x2 x3 : Option Value} : X z 158 2 [x0, x1, x2, x3] (st) cu σ Q = (X z 158 3 [x0, x1, x2, x3] (.int (nI 0) :: st) cu σ Q) := by
  rw [x158_2]
  rfl
theorem v158_3 {z : P0} {st : List Value} {cu : Nat × Nat} {Q : Res → Mem → Prop} {σ : Mem} {x0 x1 x2 x3 : Option Value} {u : Int32} : X z 158 3 [x0, x1, x2, x3] (.int u :: st) cu σ Q = (cat2 x2 = false ∧ X z 158 4 [x0, x1, x2, some (.int u)] (st) cu σ Q) := by
  rw [x158_3]
  obtain ⟨K, I, R, L, sz, ex⟩ := σ
  exact i_istore_n.trans sl_3
theorem v158_4 {z : P0} {st : List Value} {cu : Nat × Nat} {Q : Res → Mem → Prop} {σ : Mem} {x0 x1 x2 : Option Value} {u : Int32} : X z 158 4 [x0, x1, x2, some (.int u)] (st) cu σ Q = (X z 158 5 [x0, x1, x2, some (.int u)] (.int u :: st) cu σ Q) := by
  rw [x158_4]
  rfl
theorem v158_5 {z : P0} {st : List Value} {cu : Nat × Nat} {Q : Res → Mem → Prop} {σ : Mem} {x1 x2 x3 : Option Value} {u : Nat} : X z 158 5 [some (.ref u), x1, x2, x3] (st) cu σ Q = (X z 158 6 [some (.ref u), x1, x2, x3] (.ref u :: st) cu σ Q) := by
  rw [x158_5]
  rfl
theorem v158_6 {z : P0} {st : List Value} {cu : Nat × Nat} {Q : Res → Mem → Prop} {K : Nat → Nat × Nat} {I : Nat → Nat → Int32} {R : Nat → Nat → Option Nat} {L : Nat → Nat → Int64} {sz : Nat} {ex : Bool} {x0 x1 x2 x3 : Option Value} {u : Nat} : X z 158 6 [x0, x1, x2, x3] (.ref u :: st) cu (K, I, R, L, sz, ex) Q = ((K u).1 = 111 ∧ X z 158 9 [x0, x1, x2, x3] (va_rf (R u 0) :: st) cu (K, I, R, L, sz, ex) Q) := by
  rw [x158_6]
  rfl
theorem v158_9 {z : P0} {st : List Value} {cu : Nat × Nat} {Q : Res → Mem → Prop} {σ : Mem} {x0 x1 x2 x3 : Option Value} : X z 158 9 [x0, x1, x2, x3] (st) cu σ Q = (X z 158 11 [x0, x1, x2, x3] (.int (nI 6) :: st) cu σ Q) := by
  rw [x158_9]
  rfl
theorem v158_11 {z : P0} {st : List Value} {cu : Nat × Nat} {Q : Res → Mem → Prop} {K : Nat → Nat × Nat} {I : Nat → Nat → Int32} {R : Nat → Nat → Option Nat} {L : Nat → Nat → Int64} {sz : Nat} {ex : Bool} {x0 x1 x2 x3 : Option Value} {u : Nat} {v : Int32} : X z 158 11 [x0, x1, x2, x3] (.int v :: .ref u :: st) cu (K, I, R, L, sz, ex) Q = (((K u).1 = 20 ∨ (K u).1 = 50) ∧ vp_in v (K u).2 ∧ X z 158 12 [x0, x1, x2, x3] (.int (I u v.toNatClampNeg) :: st) cu (K, I, R, L, sz, ex) Q) := by
  rw [x158_11]
  rfl
theorem v158_12 {z : P0} {st : List Value} {cu : Nat × Nat} {Q : Res → Mem → Prop} {σ : Mem} {x0 x1 x2 x3 : Option Value} {u v : Int32} : X z 158 12 [x0, x1, x2, x3] (.int v :: .int u :: st) cu σ Q = (if u < v then X z 158 15 [x0, x1, x2, x3] (st) cu σ Q else X z 158 42 [x0, x1, x2, x3] (st) cu σ Q) := by
  rw [x158_12]
  obtain ⟨K, I, R, L, sz, ex⟩ := σ
  exact br_ge
theorem v158_15 {z : P0} {st : List Value} {cu : Nat × Nat} {Q : Res → Mem → Prop} {σ : Mem} {x0 x1 x3 : Option Value} {u : Int32} : X z 158 15 [x0, x1, some (.int u), x3] (st) cu σ Q = (X z 158 16 [x0, x1, some (.int u), x3] (.int u :: st) cu σ Q) := by
  rw [x158_15]
  rfl
theorem v158_16 {z : P0} {st : List Value} {cu : Nat × Nat} {Q : Res → Mem → Prop} {σ : Mem} {x1 x2 x3 : Option Value} {u : Nat} : X z 158 16 [some (.ref u), x1, x2, x3] (st) cu σ Q = (X z 158 17 [some (.ref u), x1, x2, x3] (.ref u :: st) cu σ Q) := by
  rw [x158_16]
  rfl
theorem v158_17 {z : P0} {st : List Value} {cu : Nat × Nat} {Q : Res → Mem → Prop} {K : Nat → Nat × Nat} {I : Nat → Nat → Int32} {R : Nat → Nat → Option Nat} {L : Nat → Nat → Int64} {sz : Nat} {ex : Bool} {x0 x1 x2 x3 : Option Value} {u : Nat} : X z 158 17 [x0, x1, x2, x3] (.ref u :: st) cu (K, I, R, L, sz, ex) Q = ((K u).1 = 111 ∧ X z 158 20 [x0, x1, x2, x3] (va_rf (R u 0) :: st) cu (K, I, R, L, sz, ex) Q) := by
  rw [x158_17]
  rfl
theorem v158_20 {z : P0} {st : List Value} {cu : Nat × Nat} {Q : Res → Mem → Prop} {σ : Mem} {x0 x1 x2 x3 : Option Value} : X z 158 20 [x0, x1, x2, x3] (st) cu σ Q = (X z 158 22 [x0, x1, x2, x3] (.int (nI 53) :: st) cu σ Q) := by
  rw [x158_20]
  rfl
theorem v158_22 {z : P0} {st : List Value} {cu : Nat × Nat} {Q : Res → Mem → Prop} {σ : Mem} {x0 x1 x2 : Option Value} {u : Int32} : X z 158 22 [x0, x1, x2, some (.int u)] (st) cu σ Q = (X z 158 23 [x0, x1, x2, some (.int u)] (.int u :: st) cu σ Q) := by
  rw [x158_22]
  rfl
theorem v158_23 {z : P0} {st : List Value} {cu : Nat × Nat} {Q : Res → Mem → Prop} {σ : Mem} {x0 x1 x2 x3 : Option Value} {u v : Int32} : X z 158 23 [x0, x1, x2, x3] (.int v :: .int u :: st) cu σ Q = (X z 158 24 [x0, x1, x2, x3] (.int (u + v) :: st) cu σ Q) := by
  rw [x158_23]
  rfl
theorem v158_24 {z : P0} {st : List Value} {cu : Nat × Nat} {Q : Res → Mem → Prop} {K : Nat → Nat × Nat} {I : Nat → Nat → Int32} {R : Nat → Nat → Option Nat} {L : Nat → Nat → Int64} {sz : Nat} {ex : Bool} {x0 x1 x2 x3 : Option Value} {u : Nat} {v : Int32} : X z 158 24 [x0, x1, x2, x3] (.int v :: .ref u :: st) cu (K, I, R, L, sz, ex) Q = (((K u).1 = 20 ∨ (K u).1 = 50) ∧ vp_in v (K u).2 ∧ X z 158 25 [x0, x1, x2, x3] (.int (I u v.toNatClampNeg) :: st) cu (K, I, R, L, sz, ex) Q) := by
  rw [x158_24]
  rfl
theorem v158_25 {z : P0} {st : List Value} {cu : Nat × Nat} {Q : Res → Mem → Prop} {σ : Mem} {x0 x2 x3 : Option Value} {u : Int32} : X z 158 25 [x0, some (.int u), x2, x3] (st) cu σ Q = (X z 158 26 [x0, some (.int u), x2, x3] (.int u :: st) cu σ Q) := by
  rw [x158_25]
  rfl
theorem v158_26 {z : P0} {st : List Value} {cu : Nat × Nat} {Q : Res → Mem → Prop} {σ : Mem} {x0 x1 x2 x3 : Option Value} {u v : Int32} : X z 158 26 [x0, x1, x2, x3] (.int v :: .int u :: st) cu σ Q = (if u = v then X z 158 29 [x0, x1, x2, x3] (st) cu σ Q else X z 158 33 [x0, x1, x2, x3] (st) cu σ Q) := by
  rw [x158_26]
  obtain ⟨K, I, R, L, sz, ex⟩ := σ
  exact br_ne
theorem v158_29 {z : P0} {st : List Value} {cu : Nat × Nat} {Q : Res → Mem → Prop} {σ : Mem} {x0 x1 x2 x3 : Option Value} : X z 158 29 [x0, x1, x2, x3] (st) cu σ Q = (X z 158 30 [x0, x1, x2, x3] (.int (nI 1) :: st) cu σ Q) := by
  rw [x158_29]
  rfl
theorem v158_30 {z : P0} {st : List Value} {cu : Nat × Nat} {Q : Res → Mem → Prop} {σ : Mem} {x0 x1 x2 x3 : Option Value} : X z 158 30 [x0, x1, x2, x3] (st) cu σ Q = (X z 158 34 [x0, x1, x2, x3] (st) cu σ Q) := by
  rw [x158_30]
  rfl
theorem v158_33 {z : P0} {st : List Value} {cu : Nat × Nat} {Q : Res → Mem → Prop} {σ : Mem} {x0 x1 x2 x3 : Option Value} : X z 158 33 [x0, x1, x2, x3] (st) cu σ Q = (X z 158 34 [x0, x1, x2, x3] (.int (nI 0) :: st) cu σ Q) := by
  rw [x158_33]
  rfl
theorem v158_34 {z : P0} {st : List Value} {cu : Nat × Nat} {Q : Res → Mem → Prop} {σ : Mem} {x0 x1 x2 x3 : Option Value} {u v : Int32} : X z 158 34 [x0, x1, x2, x3] (.int v :: .int u :: st) cu σ Q = (X z 158 35 [x0, x1, x2, x3] (.int (u + v) :: st) cu σ Q) := by
  rw [x158_34]
  rfl
theorem v158_35 {z : P0} {st : List Value} {cu : Nat × Nat} {Q : Res → Mem → Prop} {σ : Mem} {x0 x1 x2 x3 : Option Value} {u : Int32} : X z 158 35 [x0, x1, x2, x3] (.int u :: st) cu σ Q = (cat2 x1 = false ∧ X z 158 36 [x0, x1, some (.int u), x3] (st) cu σ Q) := by
  rw [x158_35]
  obtain ⟨K, I, R, L, sz, ex⟩ := σ
  exact i_istore_n.trans sl_2
theorem v158_36 {z : P0} {st : List Value} {cu : Nat × Nat} {Q : Res → Mem → Prop} {σ : Mem} {x0 x1 x2 : Option Value} {u : Int32} : X z 158 36 [x0, x1, x2, some (.int u)] (st) cu σ Q = (cat2 x2 = false ∧ X z 158 39 [x0, x1, x2, some (.int (u + nI 1))] (st) cu σ Q) := by
  rw [x158_36]
  obtain ⟨K, I, R, L, sz, ex⟩ := σ
  exact i_iinc.trans (gl_3.trans (ldI_i.trans sl_3))
theorem v158_39 {z : P0} {st : List Value} {cu : Nat × Nat} {Q : Res → Mem → Prop} {σ : Mem} {x0 x1 x2 x3 : Option Value} : X z 158 39 [x0, x1, x2, x3] (st) cu σ Q = (X z 158 4 [x0, x1, x2, x3] (st) cu σ Q) := by
  rw [x158_39]
  rfl
theorem v158_42 {z : P0} {st : List Value} {cu : Nat × Nat} {Q : Res → Mem → Prop} {σ : Mem} {x0 x1 x3 : Option Value} {u : Int32} : X z 158 42 [x0, x1, some (.int u), x3] (st) cu σ Q = (X z 158 43 [x0, x1, some (.int u), x3] (.int u :: st) cu σ Q) := by
  rw [x158_42]
  rfl
theorem v158_43 {z : P0} {cu : Nat × Nat} {Q : Res → Mem → Prop} {σ : Mem} {x0 x1 x2 x3 : Option Value} {v : Int32} : X z 158 43 [x0, x1, x2, x3] ([.int v]) cu σ Q = (Q (.inl (some (.int v))) σ) := by
  rw [x158_43]
  exact propext ⟨fun h => h.2, fun h => ⟨trivial, h⟩⟩
theorem v159_0 {z : P0} {st : List Value} {cu : Nat × Nat} {Q : Res → Mem → Prop} {σ : Mem} {x0 x1 : Option Value} {u : Int32} : X z 159 0 [x0, x1, some (.int u)] (st) cu σ Q = (X z 159 1 [x0, x1, some (.int u)] (.int u :: st) cu σ Q) := by
  rw [x159_0]
  rfl
theorem w159_1_0 {z : P0} {st : List Value} {cu : Nat × Nat} {Q : Res → Mem → Prop} {σ : Mem} {x0 x1 x2 : Option Value} : X z 159 1 [x0, x1, x2] (.int (nI 0) :: st) cu σ Q = (X z 159 32 [x0, x1, x2] (st) cu σ Q) := by
  rw [x159_1]
  exact tsw_in (j := 0) (by decide) (by decide) (by decide) rfl
theorem w159_1_1 {z : P0} {st : List Value} {cu : Nat × Nat} {Q : Res → Mem → Prop} {σ : Mem} {x0 x1 x2 : Option Value} : X z 159 1 [x0, x1, x2] (.int (nI 1) :: st) cu σ Q = (X z 159 43 [x0, x1, x2] (st) cu σ Q) := by
  rw [x159_1]
  exact tsw_in (j := 1) (by decide) (by decide) (by decide) rfl
theorem w159_1_2 {z : P0} {st : List Value} {cu : Nat × Nat} {Q : Res → Mem → Prop} {σ : Mem} {x0 x1 x2 : Option Value} : X z 159 1 [x0, x1, x2] (.int (nI 2) :: st) cu σ Q = (X z 159 54 [x0, x1, x2] (st) cu σ Q) := by
  rw [x159_1]
  exact tsw_in (j := 2) (by decide) (by decide) (by decide) rfl
theorem w159_1_3 {z : P0} {st : List Value} {cu : Nat × Nat} {Q : Res → Mem → Prop} {σ : Mem} {x0 x1 x2 : Option Value} : X z 159 1 [x0, x1, x2] (.int (nI 3) :: st) cu σ Q = (X z 159 60 [x0, x1, x2] (st) cu σ Q) := by
  rw [x159_1]
  exact tsw_in (j := 3) (by decide) (by decide) (by decide) rfl
theorem w159_1_d {z : P0} {st : List Value} {cu : Nat × Nat} {Q : Res → Mem → Prop} {σ : Mem} {x0 x1 x2 : Option Value} {j : Nat} (h : 3 < j ∧ j < 2147483648) : X z 159 1 [x0, x1, x2] (.int (nI j) :: st) cu σ Q = (X z 159 66 [x0, x1, x2] (st) cu σ Q) := by
  rw [x159_1]
  exact tsw_out (Or.inr (by rw [nI_toInt h.2]; omega))
theorem v159_32 {z : P0} {st : List Value} {cu : Nat × Nat} {Q : Res → Mem → Prop} {σ : Mem} {x1 x2 : Option Value} {u : Nat} : X z 159 32 [some (.ref u), x1, x2] (st) cu σ Q = (X z 159 33 [some (.ref u), x1, x2] (.ref u :: st) cu σ Q) := by
  rw [x159_32]
  rfl
theorem v159_33 {z : P0} {st : List Value} {cu : Nat × Nat} {Q : Res → Mem → Prop} {K : Nat → Nat × Nat} {I : Nat → Nat → Int32} {R : Nat → Nat → Option Nat} {L : Nat → Nat → Int64} {sz : Nat} {ex : Bool} {x0 x1 x2 : Option Value} {u : Nat} : X z 159 33 [x0, x1, x2] (.ref u :: st) cu (K, I, R, L, sz, ex) Q = ((K u).1 = 111 ∧ X z 159 36 [x0, x1, x2] (va_rf (R u 0) :: st) cu (K, I, R, L, sz, ex) Q) := by
  rw [x159_33]
  rfl
theorem v159_36 {z : P0} {st : List Value} {cu : Nat × Nat} {Q : Res → Mem → Prop} {σ : Mem} {x0 x1 x2 : Option Value} : X z 159 36 [x0, x1, x2] (st) cu σ Q = (X z 159 39 [x0, x1, x2] (.int (nI 313) :: st) cu σ Q) := by
  rw [x159_36]
  rfl
theorem v159_39 {z : P0} {st : List Value} {cu : Nat × Nat} {Q : Res → Mem → Prop} {σ : Mem} {x0 x2 : Option Value} {u : Int32} : X z 159 39 [x0, some (.int u), x2] (st) cu σ Q = (X z 159 40 [x0, some (.int u), x2] (.int u :: st) cu σ Q) := by
  rw [x159_39]
  rfl
theorem v159_40 {z : P0} {st : List Value} {cu : Nat × Nat} {Q : Res → Mem → Prop} {σ : Mem} {x0 x1 x2 : Option Value} {u v : Int32} : X z 159 40 [x0, x1, x2] (.int v :: .int u :: st) cu σ Q = (X z 159 41 [x0, x1, x2] (.int (u + v) :: st) cu σ Q) := by
  rw [x159_40]
  rfl
theorem v159_41 {z : P0} {st : List Value} {cu : Nat × Nat} {Q : Res → Mem → Prop} {K : Nat → Nat × Nat} {I : Nat → Nat → Int32} {R : Nat → Nat → Option Nat} {L : Nat → Nat → Int64} {sz : Nat} {ex : Bool} {x0 x1 x2 : Option Value} {u : Nat} {v : Int32} : X z 159 41 [x0, x1, x2] (.int v :: .ref u :: st) cu (K, I, R, L, sz, ex) Q = (((K u).1 = 20 ∨ (K u).1 = 50) ∧ vp_in v (K u).2 ∧ X z 159 42 [x0, x1, x2] (.int (I u v.toNatClampNeg) :: st) cu (K, I, R, L, sz, ex) Q) := by
  rw [x159_41]
  rfl
theorem v159_42 {z : P0} {cu : Nat × Nat} {Q : Res → Mem → Prop} {σ : Mem} {x0 x1 x2 : Option Value} {v : Int32} : X z 159 42 [x0, x1, x2] ([.int v]) cu σ Q = (Q (.inl (some (.int v))) σ) := by
  rw [x159_42]
  exact propext ⟨fun h => h.2, fun h => ⟨trivial, h⟩⟩
theorem v159_43 {z : P0} {st : List Value} {cu : Nat × Nat} {Q : Res → Mem → Prop} {σ : Mem} {x1 x2 : Option Value} {u : Nat} : X z 159 43 [some (.ref u), x1, x2] (st) cu σ Q = (X z 159 44 [some (.ref u), x1, x2] (.ref u :: st) cu σ Q) := by
  rw [x159_43]
  rfl
theorem v159_44 {z : P0} {st : List Value} {cu : Nat × Nat} {Q : Res → Mem → Prop} {K : Nat → Nat × Nat} {I : Nat → Nat → Int32} {R : Nat → Nat → Option Nat} {L : Nat → Nat → Int64} {sz : Nat} {ex : Bool} {x0 x1 x2 : Option Value} {u : Nat} : X z 159 44 [x0, x1, x2] (.ref u :: st) cu (K, I, R, L, sz, ex) Q = ((K u).1 = 111 ∧ X z 159 47 [x0, x1, x2] (va_rf (R u 0) :: st) cu (K, I, R, L, sz, ex) Q) := by
  rw [x159_44]
  rfl
theorem v159_47 {z : P0} {st : List Value} {cu : Nat × Nat} {Q : Res → Mem → Prop} {σ : Mem} {x0 x1 x2 : Option Value} : X z 159 47 [x0, x1, x2] (st) cu σ Q = (X z 159 50 [x0, x1, x2] (.int (nI 323) :: st) cu σ Q) := by
  rw [x159_47]
  rfl
theorem v159_50 {z : P0} {st : List Value} {cu : Nat × Nat} {Q : Res → Mem → Prop} {σ : Mem} {x0 x2 : Option Value} {u : Int32} : X z 159 50 [x0, some (.int u), x2] (st) cu σ Q = (X z 159 51 [x0, some (.int u), x2] (.int u :: st) cu σ Q) := by
  rw [x159_50]
  rfl
theorem v159_51 {z : P0} {st : List Value} {cu : Nat × Nat} {Q : Res → Mem → Prop} {σ : Mem} {x0 x1 x2 : Option Value} {u v : Int32} : X z 159 51 [x0, x1, x2] (.int v :: .int u :: st) cu σ Q = (X z 159 52 [x0, x1, x2] (.int (u + v) :: st) cu σ Q) := by
  rw [x159_51]
  rfl
theorem v159_52 {z : P0} {st : List Value} {cu : Nat × Nat} {Q : Res → Mem → Prop} {K : Nat → Nat × Nat} {I : Nat → Nat → Int32} {R : Nat → Nat → Option Nat} {L : Nat → Nat → Int64} {sz : Nat} {ex : Bool} {x0 x1 x2 : Option Value} {u : Nat} {v : Int32} : X z 159 52 [x0, x1, x2] (.int v :: .ref u :: st) cu (K, I, R, L, sz, ex) Q = (((K u).1 = 20 ∨ (K u).1 = 50) ∧ vp_in v (K u).2 ∧ X z 159 53 [x0, x1, x2] (.int (I u v.toNatClampNeg) :: st) cu (K, I, R, L, sz, ex) Q) := by
  rw [x159_52]
  rfl
theorem v159_53 {z : P0} {cu : Nat × Nat} {Q : Res → Mem → Prop} {σ : Mem} {x0 x1 x2 : Option Value} {v : Int32} : X z 159 53 [x0, x1, x2] ([.int v]) cu σ Q = (Q (.inl (some (.int v))) σ) := by
  rw [x159_53]
  exact propext ⟨fun h => h.2, fun h => ⟨trivial, h⟩⟩
theorem v159_54 {z : P0} {st : List Value} {cu : Nat × Nat} {Q : Res → Mem → Prop} {σ : Mem} {x1 x2 : Option Value} {u : Nat} : X z 159 54 [some (.ref u), x1, x2] (st) cu σ Q = (X z 159 55 [some (.ref u), x1, x2] (.ref u :: st) cu σ Q) := by
  rw [x159_54]
  rfl
theorem v159_55 {z : P0} {st : List Value} {cu : Nat × Nat} {Q : Res → Mem → Prop} {σ : Mem} {x0 x2 : Option Value} {u : Int32} : X z 159 55 [x0, some (.int u), x2] (st) cu σ Q = (X z 159 56 [x0, some (.int u), x2] (.int u :: st) cu σ Q) := by
  rw [x159_55]
  rfl
theorem u159_56 {z : P0} {ls : Lcs} {st : List Value} {K : Nat → Nat × Nat} {I : Nat → Nat → Int32} {R : Nat → Nat → Option Nat} {L : Nat → Nat → Int64} {sz : Nat} {ex : Bool} {Q : Res → Mem → Prop} {x : Nat} {a0 : Int32} : X z 159 56 ls (.int a0 :: .ref x :: st) (0, 0) (K, I, R, L, sz, ex) Q = ((K x).1 = 111 ∧ wsum st ≤ 8 ∧ X z 158 0 [some (.ref x), some (.int a0), none, none] [] (0, 0) (K, I, R, L, sz, ex) (aftr (X z) mT 159 56 ls st (0, 0) Q)) := v159_56 (c := 0) (n := 0)
theorem v159_59 {z : P0} {cu : Nat × Nat} {Q : Res → Mem → Prop} {σ : Mem} {x0 x1 x2 : Option Value} {v : Int32} : X z 159 59 [x0, x1, x2] ([.int v]) cu σ Q = (Q (.inl (some (.int v))) σ) := by
  rw [x159_59]
  exact propext ⟨fun h => h.2, fun h => ⟨trivial, h⟩⟩
theorem v159_60 {z : P0} {st : List Value} {cu : Nat × Nat} {Q : Res → Mem → Prop} {σ : Mem} {x1 x2 : Option Value} {u : Nat} : X z 159 60 [some (.ref u), x1, x2] (st) cu σ Q = (X z 159 61 [some (.ref u), x1, x2] (.ref u :: st) cu σ Q) := by
  rw [x159_60]
  rfl
theorem v159_61 {z : P0} {st : List Value} {cu : Nat × Nat} {Q : Res → Mem → Prop} {σ : Mem} {x0 x2 : Option Value} {u : Int32} : X z 159 61 [x0, some (.int u), x2] (st) cu σ Q = (X z 159 62 [x0, some (.int u), x2] (.int u :: st) cu σ Q) := by
  rw [x159_61]
  rfl
theorem u159_62 {z : P0} {ls : Lcs} {st : List Value} {K : Nat → Nat × Nat} {I : Nat → Nat → Int32} {R : Nat → Nat → Option Nat} {L : Nat → Nat → Int64} {sz : Nat} {ex : Bool} {Q : Res → Mem → Prop} {x : Nat} {a0 : Int32} : X z 159 62 ls (.int a0 :: .ref x :: st) (0, 0) (K, I, R, L, sz, ex) Q = ((K x).1 = 111 ∧ wsum st ≤ 8 ∧ X z 120 0 [some (.ref x), some (.int a0), none, none] [] (0, 0) (K, I, R, L, sz, ex) (aftr (X z) mT 159 62 ls st (0, 0) Q)) := v159_62 (c := 0) (n := 0)
theorem v159_65 {z : P0} {cu : Nat × Nat} {Q : Res → Mem → Prop} {σ : Mem} {x0 x1 x2 : Option Value} {v : Int32} : X z 159 65 [x0, x1, x2] ([.int v]) cu σ Q = (Q (.inl (some (.int v))) σ) := by
  rw [x159_65]
  exact propext ⟨fun h => h.2, fun h => ⟨trivial, h⟩⟩
theorem v159_66 {z : P0} {st : List Value} {cu : Nat × Nat} {Q : Res → Mem → Prop} {σ : Mem} {x0 x1 : Option Value} {u : Int32} : X z 159 66 [x0, x1, some (.int u)] (st) cu σ Q = (X z 159 67 [x0, x1, some (.int u)] (.int u :: st) cu σ Q) := by
  rw [x159_66]
  rfl
theorem v159_67 {z : P0} {st : List Value} {cu : Nat × Nat} {Q : Res → Mem → Prop} {σ : Mem} {x0 x1 x2 : Option Value} : X z 159 67 [x0, x1, x2] (st) cu σ Q = (X z 159 69 [x0, x1, x2] (.int (nI 10) :: st) cu σ Q) := by
  rw [x159_67]
  rfl
theorem v159_69 {z : P0} {st : List Value} {cu : Nat × Nat} {Q : Res → Mem → Prop} {σ : Mem} {x0 x1 x2 : Option Value} {u v : Int32} : X z 159 69 [x0, x1, x2] (.int v :: .int u :: st) cu σ Q = (X z 159 70 [x0, x1, x2] (.int (u - v) :: st) cu σ Q) := by
  rw [x159_69]
  rfl
theorem v159_70 {z : P0} {st : List Value} {cu : Nat × Nat} {Q : Res → Mem → Prop} {σ : Mem} {x1 x2 : Option Value} {u : Nat} : X z 159 70 [some (.ref u), x1, x2] (st) cu σ Q = (X z 159 71 [some (.ref u), x1, x2] (.ref u :: st) cu σ Q) := by
  rw [x159_70]
  rfl
theorem v159_71 {z : P0} {st : List Value} {cu : Nat × Nat} {Q : Res → Mem → Prop} {K : Nat → Nat × Nat} {I : Nat → Nat → Int32} {R : Nat → Nat → Option Nat} {L : Nat → Nat → Int64} {sz : Nat} {ex : Bool} {x0 x1 x2 : Option Value} {u : Nat} : X z 159 71 [x0, x1, x2] (.ref u :: st) cu (K, I, R, L, sz, ex) Q = ((K u).1 = 111 ∧ X z 159 74 [x0, x1, x2] (va_rf (R u 0) :: st) cu (K, I, R, L, sz, ex) Q) := by
  rw [x159_71]
  rfl
theorem v159_74 {z : P0} {st : List Value} {cu : Nat × Nat} {Q : Res → Mem → Prop} {σ : Mem} {x0 x1 x2 : Option Value} : X z 159 74 [x0, x1, x2] (st) cu σ Q = (X z 159 77 [x0, x1, x2] (.int (nI 313) :: st) cu σ Q) := by
  rw [x159_74]
  rfl
theorem v159_77 {z : P0} {st : List Value} {cu : Nat × Nat} {Q : Res → Mem → Prop} {σ : Mem} {x0 x2 : Option Value} {u : Int32} : X z 159 77 [x0, some (.int u), x2] (st) cu σ Q = (X z 159 78 [x0, some (.int u), x2] (.int u :: st) cu σ Q) := by
  rw [x159_77]
  rfl
theorem v159_78 {z : P0} {st : List Value} {cu : Nat × Nat} {Q : Res → Mem → Prop} {σ : Mem} {x0 x1 x2 : Option Value} {u v : Int32} : X z 159 78 [x0, x1, x2] (.int v :: .int u :: st) cu σ Q = (X z 159 79 [x0, x1, x2] (.int (u + v) :: st) cu σ Q) := by
  rw [x159_78]
  rfl
theorem v159_79 {z : P0} {st : List Value} {cu : Nat × Nat} {Q : Res → Mem → Prop} {K : Nat → Nat × Nat} {I : Nat → Nat → Int32} {R : Nat → Nat → Option Nat} {L : Nat → Nat → Int64} {sz : Nat} {ex : Bool} {x0 x1 x2 : Option Value} {u : Nat} {v : Int32} : X z 159 79 [x0, x1, x2] (.int v :: .ref u :: st) cu (K, I, R, L, sz, ex) Q = (((K u).1 = 20 ∨ (K u).1 = 50) ∧ vp_in v (K u).2 ∧ X z 159 80 [x0, x1, x2] (.int (I u v.toNatClampNeg) :: st) cu (K, I, R, L, sz, ex) Q) := by
  rw [x159_79]
  rfl
theorem v159_80 {z : P0} {st : List Value} {cu : Nat × Nat} {Q : Res → Mem → Prop} {σ : Mem} {x0 x1 x2 : Option Value} {u v : Int32} : X z 159 80 [x0, x1, x2] (.int v :: .int u :: st) cu σ Q = (if u < v then X z 159 83 [x0, x1, x2] (st) cu σ Q else X z 159 104 [x0, x1, x2] (st) cu σ Q) := by
  rw [x159_80]
  obtain ⟨K, I, R, L, sz, ex⟩ := σ
  exact br_ge
theorem v159_83 {z : P0} {st : List Value} {cu : Nat × Nat} {Q : Res → Mem → Prop} {σ : Mem} {x1 x2 : Option Value} {u : Nat} : X z 159 83 [some (.ref u), x1, x2] (st) cu σ Q = (X z 159 84 [some (.ref u), x1, x2] (.ref u :: st) cu σ Q) := by
  rw [x159_83]
  rfl
theorem v159_84 {z : P0} {st : List Value} {cu : Nat × Nat} {Q : Res → Mem → Prop} {K : Nat → Nat × Nat} {I : Nat → Nat → Int32} {R : Nat → Nat → Option Nat} {L : Nat → Nat → Int64} {sz : Nat} {ex : Bool} {x0 x1 x2 : Option Value} {u : Nat} : X z 159 84 [x0, x1, x2] (.ref u :: st) cu (K, I, R, L, sz, ex) Q = ((K u).1 = 111 ∧ X z 159 87 [x0, x1, x2] (va_rf (R u 0) :: st) cu (K, I, R, L, sz, ex) Q) := by
  rw [x159_84]
  rfl
theorem v159_87 {z : P0} {st : List Value} {cu : Nat × Nat} {Q : Res → Mem → Prop} {σ : Mem} {x0 x1 x2 : Option Value} : X z 159 87 [x0, x1, x2] (st) cu σ Q = (X z 159 90 [x0, x1, x2] (.int (nI 333) :: st) cu σ Q) := by
  rw [x159_87]
  rfl
theorem v159_90 {z : P0} {st : List Value} {cu : Nat × Nat} {Q : Res → Mem → Prop} {σ : Mem} {x0 x1 x2 : Option Value} : X z 159 90 [x0, x1, x2] (st) cu σ Q = (X z 159 92 [x0, x1, x2] (.int (nI 8) :: st) cu σ Q) := by
  rw [x159_90]
  rfl
theorem v159_92 {z : P0} {st : List Value} {cu : Nat × Nat} {Q : Res → Mem → Prop} {σ : Mem} {x0 x2 : Option Value} {u : Int32} : X z 159 92 [x0, some (.int u), x2] (st) cu σ Q = (X z 159 93 [x0, some (.int u), x2] (.int u :: st) cu σ Q) := by
  rw [x159_92]
  rfl
theorem v159_93 {z : P0} {st : List Value} {cu : Nat × Nat} {Q : Res → Mem → Prop} {σ : Mem} {x0 x1 x2 : Option Value} {u v : Int32} : X z 159 93 [x0, x1, x2] (.int v :: .int u :: st) cu σ Q = (X z 159 94 [x0, x1, x2] (.int (u * v) :: st) cu σ Q) := by
  rw [x159_93]
  rfl
theorem v159_94 {z : P0} {st : List Value} {cu : Nat × Nat} {Q : Res → Mem → Prop} {σ : Mem} {x0 x1 x2 : Option Value} {u v : Int32} : X z 159 94 [x0, x1, x2] (.int v :: .int u :: st) cu σ Q = (X z 159 95 [x0, x1, x2] (.int (u + v) :: st) cu σ Q) := by
  rw [x159_94]
  rfl
theorem v159_95 {z : P0} {st : List Value} {cu : Nat × Nat} {Q : Res → Mem → Prop} {σ : Mem} {x0 x1 : Option Value} {u : Int32} : X z 159 95 [x0, x1, some (.int u)] (st) cu σ Q = (X z 159 96 [x0, x1, some (.int u)] (.int u :: st) cu σ Q) := by
  rw [x159_95]
  rfl
theorem v159_96 {z : P0} {st : List Value} {cu : Nat × Nat} {Q : Res → Mem → Prop} {σ : Mem} {x0 x1 x2 : Option Value} {u v : Int32} : X z 159 96 [x0, x1, x2] (.int v :: .int u :: st) cu σ Q = (X z 159 97 [x0, x1, x2] (.int (u + v) :: st) cu σ Q) := by
  rw [x159_96]
  rfl
theorem v159_97 {z : P0} {st : List Value} {cu : Nat × Nat} {Q : Res → Mem → Prop} {σ : Mem} {x0 x1 x2 : Option Value} : X z 159 97 [x0, x1, x2] (st) cu σ Q = (X z 159 99 [x0, x1, x2] (.int (nI 10) :: st) cu σ Q) := by
  rw [x159_97]
  rfl
theorem v159_99 {z : P0} {st : List Value} {cu : Nat × Nat} {Q : Res → Mem → Prop} {σ : Mem} {x0 x1 x2 : Option Value} {u v : Int32} : X z 159 99 [x0, x1, x2] (.int v :: .int u :: st) cu σ Q = (X z 159 100 [x0, x1, x2] (.int (u - v) :: st) cu σ Q) := by
  rw [x159_99]
  rfl
theorem v159_100 {z : P0} {st : List Value} {cu : Nat × Nat} {Q : Res → Mem → Prop} {K : Nat → Nat × Nat} {I : Nat → Nat → Int32} {R : Nat → Nat → Option Nat} {L : Nat → Nat → Int64} {sz : Nat} {ex : Bool} {x0 x1 x2 : Option Value} {u : Nat} {v : Int32} : X z 159 100 [x0, x1, x2] (.int v :: .ref u :: st) cu (K, I, R, L, sz, ex) Q = (((K u).1 = 20 ∨ (K u).1 = 50) ∧ vp_in v (K u).2 ∧ X z 159 101 [x0, x1, x2] (.int (I u v.toNatClampNeg) :: st) cu (K, I, R, L, sz, ex) Q) := by
  rw [x159_100]
  rfl
theorem v159_101 {z : P0} {st : List Value} {cu : Nat × Nat} {Q : Res → Mem → Prop} {σ : Mem} {x0 x1 x2 : Option Value} : X z 159 101 [x0, x1, x2] (st) cu σ Q = (X z 159 105 [x0, x1, x2] (st) cu σ Q) := by
  rw [x159_101]
  rfl
theorem v159_104 {z : P0} {st : List Value} {cu : Nat × Nat} {Q : Res → Mem → Prop} {σ : Mem} {x0 x1 x2 : Option Value} : X z 159 104 [x0, x1, x2] (st) cu σ Q = (X z 159 105 [x0, x1, x2] (.int (nI 4294967295) :: st) cu σ Q) := by
  rw [x159_104]
  rw [neg1]
  rfl
theorem v159_105 {z : P0} {cu : Nat × Nat} {Q : Res → Mem → Prop} {σ : Mem} {x0 x1 x2 : Option Value} {v : Int32} : X z 159 105 [x0, x1, x2] ([.int v]) cu σ Q = (Q (.inl (some (.int v))) σ) := by
  rw [x159_105]
  exact propext ⟨fun h => h.2, fun h => ⟨trivial, h⟩⟩
theorem v160_0 {z : P0} {st : List Value} {cu : Nat × Nat} {Q : Res → Mem → Prop} {σ : Mem} {x1 x2 : Option Value} {u : Nat} : X z 160 0 [some (.ref u), x1, x2] (st) cu σ Q = (X z 160 1 [some (.ref u), x1, x2] (.ref u :: st) cu σ Q) := by
  rw [x160_0]
  rfl
theorem v160_1 {z : P0} {st : List Value} {cu : Nat × Nat} {Q : Res → Mem → Prop} {σ : Mem} {x1 x2 : Option Value} {u : Nat} : X z 160 1 [some (.ref u), x1, x2] (st) cu σ Q = (X z 160 2 [some (.ref u), x1, x2] (.ref u :: st) cu σ Q) := by
  rw [x160_1]
  rfl
theorem v160_2 {z : P0} {st : List Value} {cu : Nat × Nat} {Q : Res → Mem → Prop} {σ : Mem} {x0 x2 : Option Value} {u : Int32} : X z 160 2 [x0, some (.int u), x2] (st) cu σ Q = (X z 160 3 [x0, some (.int u), x2] (.int u :: st) cu σ Q) := by
  rw [x160_2]
  rfl
theorem u160_3 {z : P0} {ls : Lcs} {st : List Value} {K : Nat → Nat × Nat} {I : Nat → Nat → Int32} {R : Nat → Nat → Option Nat} {L : Nat → Nat → Int64} {sz : Nat} {ex : Bool} {Q : Res → Mem → Prop} {x : Nat} {a0 : Int32} : X z 160 3 ls (.int a0 :: .ref x :: st) (0, 0) (K, I, R, L, sz, ex) Q = ((K x).1 = 111 ∧ wsum st ≤ 8 ∧ X z 109 0 [some (.ref x), some (.int a0)] [] (0, 0) (K, I, R, L, sz, ex) (aftr (X z) mT 160 3 ls st (0, 0) Q)) := v160_3 (c := 0) (n := 0)
theorem v160_6 {z : P0} {st : List Value} {cu : Nat × Nat} {Q : Res → Mem → Prop} {σ : Mem} {x0 x1 x2 : Option Value} {u : Int32} : X z 160 6 [x0, x1, x2] (.int u :: st) cu σ Q = (if u = nI 0 then X z 160 9 [x0, x1, x2] (st) cu σ Q else X z 160 13 [x0, x1, x2] (st) cu σ Q) := by
  rw [x160_6]
  rw [nI_0]
  obtain ⟨K, I, R, L, sz, ex⟩ := σ
  exact br_ne
theorem v160_9 {z : P0} {st : List Value} {cu : Nat × Nat} {Q : Res → Mem → Prop} {σ : Mem} {x0 x1 x2 : Option Value} : X z 160 9 [x0, x1, x2] (st) cu σ Q = (X z 160 10 [x0, x1, x2] (.int (nI 1) :: st) cu σ Q) := by
  rw [x160_9]
  rfl
theorem v160_10 {z : P0} {st : List Value} {cu : Nat × Nat} {Q : Res → Mem → Prop} {σ : Mem} {x0 x1 x2 : Option Value} : X z 160 10 [x0, x1, x2] (st) cu σ Q = (X z 160 38 [x0, x1, x2] (st) cu σ Q) := by
  rw [x160_10]
  rfl
theorem v160_13 {z : P0} {st : List Value} {cu : Nat × Nat} {Q : Res → Mem → Prop} {σ : Mem} {x0 x1 : Option Value} {u : Int32} : X z 160 13 [x0, x1, some (.int u)] (st) cu σ Q = (X z 160 14 [x0, x1, some (.int u)] (.int u :: st) cu σ Q) := by
  rw [x160_13]
  rfl
theorem v160_14 {z : P0} {st : List Value} {cu : Nat × Nat} {Q : Res → Mem → Prop} {σ : Mem} {x0 x1 x2 : Option Value} : X z 160 14 [x0, x1, x2] (st) cu σ Q = (X z 160 15 [x0, x1, x2] (.int (nI 0) :: st) cu σ Q) := by
  rw [x160_14]
  rfl
theorem v160_15 {z : P0} {st : List Value} {cu : Nat × Nat} {Q : Res → Mem → Prop} {σ : Mem} {x0 x1 x2 : Option Value} : X z 160 15 [x0, x1, x2] (st) cu σ Q = (X z 160 16 [x0, x1, x2] (.int (nI 3) :: st) cu σ Q) := by
  rw [x160_15]
  rfl
theorem u160_16 {z : P0} {ls : Lcs} {st : List Value} {K : Nat → Nat × Nat} {I : Nat → Nat → Int32} {R : Nat → Nat → Option Nat} {L : Nat → Nat → Int64} {sz : Nat} {ex : Bool} {Q : Res → Mem → Prop} {a0 : Int32} {a1 : Int32} {a2 : Int32} : X z 160 16 ls (.int a2 :: .int a1 :: .int a0 :: st) (0, 0) (K, I, R, L, sz, ex) Q = (wsum st ≤ 8 ∧ X z 106 0 [some (.int a0), some (.int a1), some (.int a2)] [] (0, 0) (K, I, R, L, sz, ex) (aftr (X z) mT 160 16 ls st (0, 0) Q)) := v160_16 (c := 0) (n := 0)
theorem v160_19 {z : P0} {st : List Value} {cu : Nat × Nat} {Q : Res → Mem → Prop} {σ : Mem} {x0 x1 x2 : Option Value} {u : Int32} : X z 160 19 [x0, x1, x2] (.int u :: st) cu σ Q = (if u = nI 0 then X z 160 22 [x0, x1, x2] (st) cu σ Q else X z 160 33 [x0, x1, x2] (st) cu σ Q) := by
  rw [x160_19]
  rw [nI_0]
  obtain ⟨K, I, R, L, sz, ex⟩ := σ
  exact br_ne
theorem v160_22 {z : P0} {st : List Value} {cu : Nat × Nat} {Q : Res → Mem → Prop} {σ : Mem} {x0 x1 : Option Value} {u : Int32} : X z 160 22 [x0, x1, some (.int u)] (st) cu σ Q = (X z 160 23 [x0, x1, some (.int u)] (.int u :: st) cu σ Q) := by
  rw [x160_22]
  rfl
theorem v160_23 {z : P0} {st : List Value} {cu : Nat × Nat} {Q : Res → Mem → Prop} {σ : Mem} {x0 x1 x2 : Option Value} : X z 160 23 [x0, x1, x2] (st) cu σ Q = (X z 160 25 [x0, x1, x2] (.int (nI 10) :: st) cu σ Q) := by
  rw [x160_23]
  rfl
theorem v160_25 {z : P0} {st : List Value} {cu : Nat × Nat} {Q : Res → Mem → Prop} {σ : Mem} {x0 x1 x2 : Option Value} : X z 160 25 [x0, x1, x2] (st) cu σ Q = (X z 160 27 [x0, x1, x2] (.int (nI 17) :: st) cu σ Q) := by
  rw [x160_25]
  rfl
theorem u160_27 {z : P0} {ls : Lcs} {st : List Value} {K : Nat → Nat × Nat} {I : Nat → Nat → Int32} {R : Nat → Nat → Option Nat} {L : Nat → Nat → Int64} {sz : Nat} {ex : Bool} {Q : Res → Mem → Prop} {a0 : Int32} {a1 : Int32} {a2 : Int32} : X z 160 27 ls (.int a2 :: .int a1 :: .int a0 :: st) (0, 0) (K, I, R, L, sz, ex) Q = (wsum st ≤ 8 ∧ X z 106 0 [some (.int a0), some (.int a1), some (.int a2)] [] (0, 0) (K, I, R, L, sz, ex) (aftr (X z) mT 160 27 ls st (0, 0) Q)) := v160_27 (c := 0) (n := 0)
theorem v160_30 {z : P0} {st : List Value} {cu : Nat × Nat} {Q : Res → Mem → Prop} {σ : Mem} {x0 x1 x2 : Option Value} {u : Int32} : X z 160 30 [x0, x1, x2] (.int u :: st) cu σ Q = (if u = nI 0 then X z 160 37 [x0, x1, x2] (st) cu σ Q else X z 160 33 [x0, x1, x2] (st) cu σ Q) := by
  rw [x160_30]
  rw [nI_0]
  obtain ⟨K, I, R, L, sz, ex⟩ := σ
  exact br_ite
theorem v160_33 {z : P0} {st : List Value} {cu : Nat × Nat} {Q : Res → Mem → Prop} {σ : Mem} {x0 x1 x2 : Option Value} : X z 160 33 [x0, x1, x2] (st) cu σ Q = (X z 160 34 [x0, x1, x2] (.int (nI 0) :: st) cu σ Q) := by
  rw [x160_33]
  rfl
theorem v160_34 {z : P0} {st : List Value} {cu : Nat × Nat} {Q : Res → Mem → Prop} {σ : Mem} {x0 x1 x2 : Option Value} : X z 160 34 [x0, x1, x2] (st) cu σ Q = (X z 160 38 [x0, x1, x2] (st) cu σ Q) := by
  rw [x160_34]
  rfl
theorem v160_37 {z : P0} {st : List Value} {cu : Nat × Nat} {Q : Res → Mem → Prop} {σ : Mem} {x0 x1 x2 : Option Value} : X z 160 37 [x0, x1, x2] (st) cu σ Q = (X z 160 38 [x0, x1, x2] (.int (nI 2) :: st) cu σ Q) := by
  rw [x160_37]
  rfl
theorem v160_38 {z : P0} {st : List Value} {cu : Nat × Nat} {Q : Res → Mem → Prop} {K : Nat → Nat × Nat} {I : Nat → Nat → Int32} {R : Nat → Nat → Option Nat} {L : Nat → Nat → Int64} {sz : Nat} {ex : Bool} {x0 x1 x2 : Option Value} {u : Nat} {v : Int32} : X z 160 38 [x0, x1, x2] (.int v :: .ref u :: st) cu (K, I, R, L, sz, ex) Q = ((K u).1 = 111 ∧ X z 160 41 [x0, x1, x2] (st) cu (K, up2 I u 5 v, R, L, sz, ex) Q) := by
  rw [x160_38]
  exact i_putI
theorem v160_41 {z : P0} {st : List Value} {cu : Nat × Nat} {Q : Res → Mem → Prop} {σ : Mem} {x1 x2 : Option Value} {u : Nat} : X z 160 41 [some (.ref u), x1, x2] (st) cu σ Q = (X z 160 42 [some (.ref u), x1, x2] (.ref u :: st) cu σ Q) := by
  rw [x160_41]
  rfl
theorem v160_42 {z : P0} {st : List Value} {cu : Nat × Nat} {Q : Res → Mem → Prop} {K : Nat → Nat × Nat} {I : Nat → Nat → Int32} {R : Nat → Nat → Option Nat} {L : Nat → Nat → Int64} {sz : Nat} {ex : Bool} {x0 x1 x2 : Option Value} {u : Nat} : X z 160 42 [x0, x1, x2] (.ref u :: st) cu (K, I, R, L, sz, ex) Q = ((K u).1 = 111 ∧ X z 160 45 [x0, x1, x2] (.int (I u 5) :: st) cu (K, I, R, L, sz, ex) Q) := by
  rw [x160_42]
  rfl
theorem v160_45 {z : P0} {st : List Value} {cu : Nat × Nat} {Q : Res → Mem → Prop} {σ : Mem} {x0 x1 x2 : Option Value} {u : Int32} : X z 160 45 [x0, x1, x2] (.int u :: st) cu σ Q = (if nI 0 < u then X z 160 48 [x0, x1, x2] (st) cu σ Q else X z 160 52 [x0, x1, x2] (st) cu σ Q) := by
  rw [x160_45]
  rw [nI_0]
  obtain ⟨K, I, R, L, sz, ex⟩ := σ
  exact br_ge
theorem v160_48 {z : P0} {st : List Value} {cu : Nat × Nat} {Q : Res → Mem → Prop} {σ : Mem} {x0 x1 x2 : Option Value} : X z 160 48 [x0, x1, x2] (st) cu σ Q = (X z 160 49 [x0, x1, x2] (.int (nI 0) :: st) cu σ Q) := by
  rw [x160_48]
  rfl
theorem v160_49 {z : P0} {st : List Value} {cu : Nat × Nat} {Q : Res → Mem → Prop} {σ : Mem} {x0 x1 x2 : Option Value} : X z 160 49 [x0, x1, x2] (st) cu σ Q = (X z 160 58 [x0, x1, x2] (st) cu σ Q) := by
  rw [x160_49]
  rfl
theorem v160_52 {z : P0} {st : List Value} {cu : Nat × Nat} {Q : Res → Mem → Prop} {σ : Mem} {x1 x2 : Option Value} {u : Nat} : X z 160 52 [some (.ref u), x1, x2] (st) cu σ Q = (X z 160 53 [some (.ref u), x1, x2] (.ref u :: st) cu σ Q) := by
  rw [x160_52]
  rfl
theorem v160_53 {z : P0} {st : List Value} {cu : Nat × Nat} {Q : Res → Mem → Prop} {σ : Mem} {x0 x2 : Option Value} {u : Int32} : X z 160 53 [x0, some (.int u), x2] (st) cu σ Q = (X z 160 54 [x0, some (.int u), x2] (.int u :: st) cu σ Q) := by
  rw [x160_53]
  rfl
theorem v160_54 {z : P0} {st : List Value} {cu : Nat × Nat} {Q : Res → Mem → Prop} {σ : Mem} {x0 x1 : Option Value} {u : Int32} : X z 160 54 [x0, x1, some (.int u)] (st) cu σ Q = (X z 160 55 [x0, x1, some (.int u)] (.int u :: st) cu σ Q) := by
  rw [x160_54]
  rfl
theorem u160_55 {z : P0} {ls : Lcs} {st : List Value} {K : Nat → Nat × Nat} {I : Nat → Nat → Int32} {R : Nat → Nat → Option Nat} {L : Nat → Nat → Int64} {sz : Nat} {ex : Bool} {Q : Res → Mem → Prop} {x : Nat} {a0 : Int32} {a1 : Int32} : X z 160 55 ls (.int a1 :: .int a0 :: .ref x :: st) (0, 0) (K, I, R, L, sz, ex) Q = ((K x).1 = 111 ∧ wsum st ≤ 8 ∧ X z 159 0 [some (.ref x), some (.int a0), some (.int a1)] [] (0, 0) (K, I, R, L, sz, ex) (aftr (X z) mT 160 55 ls st (0, 0) Q)) := v160_55 (c := 0) (n := 0)
theorem v160_58 {z : P0} {cu : Nat × Nat} {Q : Res → Mem → Prop} {σ : Mem} {x0 x1 x2 : Option Value} {v : Int32} : X z 160 58 [x0, x1, x2] ([.int v]) cu σ Q = (Q (.inl (some (.int v))) σ) := by
  rw [x160_58]
  exact propext ⟨fun h => h.2, fun h => ⟨trivial, h⟩⟩
theorem v161_0 {z : P0} {st : List Value} {cu : Nat × Nat} {Q : Res → Mem → Prop} {σ : Mem} {x0 x1 : Option Value} {u : Int32} : X z 161 0 [x0, x1, some (.int u)] (st) cu σ Q = (X z 161 1 [x0, x1, some (.int u)] (.int u :: st) cu σ Q) := by
  rw [x161_0]
  rfl
theorem w161_1_0 {z : P0} {st : List Value} {cu : Nat × Nat} {Q : Res → Mem → Prop} {σ : Mem} {x0 x1 x2 : Option Value} : X z 161 1 [x0, x1, x2] (.int (nI 0) :: st) cu σ Q = (X z 161 44 [x0, x1, x2] (st) cu σ Q) := by
  rw [x161_1]
  exact tsw_in (j := 0) (by decide) (by decide) (by decide) rfl
theorem w161_1_1 {z : P0} {st : List Value} {cu : Nat × Nat} {Q : Res → Mem → Prop} {σ : Mem} {x0 x1 x2 : Option Value} : X z 161 1 [x0, x1, x2] (.int (nI 1) :: st) cu σ Q = (X z 161 50 [x0, x1, x2] (st) cu σ Q) := by
  rw [x161_1]
  exact tsw_in (j := 1) (by decide) (by decide) (by decide) rfl
theorem w161_1_2 {z : P0} {st : List Value} {cu : Nat × Nat} {Q : Res → Mem → Prop} {σ : Mem} {x0 x1 x2 : Option Value} : X z 161 1 [x0, x1, x2] (.int (nI 2) :: st) cu σ Q = (X z 161 57 [x0, x1, x2] (st) cu σ Q) := by
  rw [x161_1]
  exact tsw_in (j := 2) (by decide) (by decide) (by decide) rfl
theorem w161_1_3 {z : P0} {st : List Value} {cu : Nat × Nat} {Q : Res → Mem → Prop} {σ : Mem} {x0 x1 x2 : Option Value} : X z 161 1 [x0, x1, x2] (.int (nI 3) :: st) cu σ Q = (X z 161 71 [x0, x1, x2] (st) cu σ Q) := by
  rw [x161_1]
  exact tsw_in (j := 3) (by decide) (by decide) (by decide) rfl
theorem w161_1_4 {z : P0} {st : List Value} {cu : Nat × Nat} {Q : Res → Mem → Prop} {σ : Mem} {x0 x1 x2 : Option Value} : X z 161 1 [x0, x1, x2] (.int (nI 4) :: st) cu σ Q = (X z 161 78 [x0, x1, x2] (st) cu σ Q) := by
  rw [x161_1]
  exact tsw_in (j := 4) (by decide) (by decide) (by decide) rfl
theorem w161_1_5 {z : P0} {st : List Value} {cu : Nat × Nat} {Q : Res → Mem → Prop} {σ : Mem} {x0 x1 x2 : Option Value} : X z 161 1 [x0, x1, x2] (.int (nI 5) :: st) cu σ Q = (X z 161 85 [x0, x1, x2] (st) cu σ Q) := by
  rw [x161_1]
  exact tsw_in (j := 5) (by decide) (by decide) (by decide) rfl
theorem w161_1_6 {z : P0} {st : List Value} {cu : Nat × Nat} {Q : Res → Mem → Prop} {σ : Mem} {x0 x1 x2 : Option Value} : X z 161 1 [x0, x1, x2] (.int (nI 6) :: st) cu σ Q = (X z 161 92 [x0, x1, x2] (st) cu σ Q) := by
  rw [x161_1]
  exact tsw_in (j := 6) (by decide) (by decide) (by decide) rfl
theorem w161_1_d {z : P0} {st : List Value} {cu : Nat × Nat} {Q : Res → Mem → Prop} {σ : Mem} {x0 x1 x2 : Option Value} {j : Nat} (h : 6 < j ∧ j < 2147483648) : X z 161 1 [x0, x1, x2] (.int (nI j) :: st) cu σ Q = (X z 161 106 [x0, x1, x2] (st) cu σ Q) := by
  rw [x161_1]
  exact tsw_out (Or.inr (by rw [nI_toInt h.2]; omega))
theorem v161_44 {z : P0} {st : List Value} {cu : Nat × Nat} {Q : Res → Mem → Prop} {σ : Mem} {x1 x2 : Option Value} {u : Nat} : X z 161 44 [some (.ref u), x1, x2] (st) cu σ Q = (X z 161 45 [some (.ref u), x1, x2] (.ref u :: st) cu σ Q) := by
  rw [x161_44]
  rfl
theorem v161_45 {z : P0} {st : List Value} {cu : Nat × Nat} {Q : Res → Mem → Prop} {σ : Mem} {x0 x2 : Option Value} {u : Int32} : X z 161 45 [x0, some (.int u), x2] (st) cu σ Q = (X z 161 46 [x0, some (.int u), x2] (.int u :: st) cu σ Q) := by
  rw [x161_45]
  rfl
theorem u161_46 {z : P0} {ls : Lcs} {st : List Value} {K : Nat → Nat × Nat} {I : Nat → Nat → Int32} {R : Nat → Nat → Option Nat} {L : Nat → Nat → Int64} {sz : Nat} {ex : Bool} {Q : Res → Mem → Prop} {x : Nat} {a0 : Int32} : X z 161 46 ls (.int a0 :: .ref x :: st) (0, 0) (K, I, R, L, sz, ex) Q = ((K x).1 = 111 ∧ wsum st ≤ 8 ∧ X z 113 0 [some (.ref x), some (.int a0), none] [] (0, 0) (K, I, R, L, sz, ex) (aftr (X z) mT 161 46 ls st (0, 0) Q)) := v161_46 (c := 0) (n := 0)
theorem v161_49 {z : P0} {cu : Nat × Nat} {Q : Res → Mem → Prop} {σ : Mem} {x0 x1 x2 : Option Value} {v : Int32} : X z 161 49 [x0, x1, x2] ([.int v]) cu σ Q = (Q (.inl (some (.int v))) σ) := by
  rw [x161_49]
  exact propext ⟨fun h => h.2, fun h => ⟨trivial, h⟩⟩
theorem v161_50 {z : P0} {st : List Value} {cu : Nat × Nat} {Q : Res → Mem → Prop} {σ : Mem} {x1 x2 : Option Value} {u : Nat} : X z 161 50 [some (.ref u), x1, x2] (st) cu σ Q = (X z 161 51 [some (.ref u), x1, x2] (.ref u :: st) cu σ Q) := by
  rw [x161_50]
  rfl
theorem v161_51 {z : P0} {st : List Value} {cu : Nat × Nat} {Q : Res → Mem → Prop} {K : Nat → Nat × Nat} {I : Nat → Nat → Int32} {R : Nat → Nat → Option Nat} {L : Nat → Nat → Int64} {sz : Nat} {ex : Bool} {x0 x1 x2 : Option Value} {u : Nat} : X z 161 51 [x0, x1, x2] (.ref u :: st) cu (K, I, R, L, sz, ex) Q = ((K u).1 = 111 ∧ X z 161 54 [x0, x1, x2] (va_rf (R u 7) :: st) cu (K, I, R, L, sz, ex) Q) := by
  rw [x161_51]
  rfl
theorem v161_54 {z : P0} {st : List Value} {cu : Nat × Nat} {Q : Res → Mem → Prop} {σ : Mem} {x0 x2 : Option Value} {u : Int32} : X z 161 54 [x0, some (.int u), x2] (st) cu σ Q = (X z 161 55 [x0, some (.int u), x2] (.int u :: st) cu σ Q) := by
  rw [x161_54]
  rfl
theorem v161_55 {z : P0} {st : List Value} {cu : Nat × Nat} {Q : Res → Mem → Prop} {K : Nat → Nat × Nat} {I : Nat → Nat → Int32} {R : Nat → Nat → Option Nat} {L : Nat → Nat → Int64} {sz : Nat} {ex : Bool} {x0 x1 x2 : Option Value} {u : Nat} {v : Int32} : X z 161 55 [x0, x1, x2] (.int v :: .ref u :: st) cu (K, I, R, L, sz, ex) Q = (((K u).1 = 20 ∨ (K u).1 = 50) ∧ vp_in v (K u).2 ∧ X z 161 56 [x0, x1, x2] (.int (I u v.toNatClampNeg) :: st) cu (K, I, R, L, sz, ex) Q) := by
  rw [x161_55]
  rfl
theorem v161_56 {z : P0} {cu : Nat × Nat} {Q : Res → Mem → Prop} {σ : Mem} {x0 x1 x2 : Option Value} {v : Int32} : X z 161 56 [x0, x1, x2] ([.int v]) cu σ Q = (Q (.inl (some (.int v))) σ) := by
  rw [x161_56]
  exact propext ⟨fun h => h.2, fun h => ⟨trivial, h⟩⟩
theorem v161_57 {z : P0} {st : List Value} {cu : Nat × Nat} {Q : Res → Mem → Prop} {σ : Mem} {x1 x2 : Option Value} {u : Nat} : X z 161 57 [some (.ref u), x1, x2] (st) cu σ Q = (X z 161 58 [some (.ref u), x1, x2] (.ref u :: st) cu σ Q) := by
  rw [x161_57]
  rfl
theorem v161_58 {z : P0} {st : List Value} {cu : Nat × Nat} {Q : Res → Mem → Prop} {K : Nat → Nat × Nat} {I : Nat → Nat → Int32} {R : Nat → Nat → Option Nat} {L : Nat → Nat → Int64} {sz : Nat} {ex : Bool} {x0 x1 x2 : Option Value} {u : Nat} : X z 161 58 [x0, x1, x2] (.ref u :: st) cu (K, I, R, L, sz, ex) Q = ((K u).1 = 111 ∧ X z 161 61 [x0, x1, x2] (va_rf (R u 0) :: st) cu (K, I, R, L, sz, ex) Q) := by
  rw [x161_58]
  rfl
theorem v161_61 {z : P0} {st : List Value} {cu : Nat × Nat} {Q : Res → Mem → Prop} {σ : Mem} {x0 x1 x2 : Option Value} : X z 161 61 [x0, x1, x2] (st) cu σ Q = (X z 161 63 [x0, x1, x2] (.int (nI 13) :: st) cu σ Q) := by
  rw [x161_61]
  rfl
theorem v161_63 {z : P0} {st : List Value} {cu : Nat × Nat} {Q : Res → Mem → Prop} {σ : Mem} {x1 x2 : Option Value} {u : Nat} : X z 161 63 [some (.ref u), x1, x2] (st) cu σ Q = (X z 161 64 [some (.ref u), x1, x2] (.ref u :: st) cu σ Q) := by
  rw [x161_63]
  rfl
theorem v161_64 {z : P0} {st : List Value} {cu : Nat × Nat} {Q : Res → Mem → Prop} {σ : Mem} {x0 x2 : Option Value} {u : Int32} : X z 161 64 [x0, some (.int u), x2] (st) cu σ Q = (X z 161 65 [x0, some (.int u), x2] (.int u :: st) cu σ Q) := by
  rw [x161_64]
  rfl
theorem u161_65 {z : P0} {ls : Lcs} {st : List Value} {K : Nat → Nat × Nat} {I : Nat → Nat → Int32} {R : Nat → Nat → Option Nat} {L : Nat → Nat → Int64} {sz : Nat} {ex : Bool} {Q : Res → Mem → Prop} {x : Nat} {a0 : Int32} : X z 161 65 ls (.int a0 :: .ref x :: st) (0, 0) (K, I, R, L, sz, ex) Q = ((K x).1 = 111 ∧ wsum st ≤ 8 ∧ X z 113 0 [some (.ref x), some (.int a0), none] [] (0, 0) (K, I, R, L, sz, ex) (aftr (X z) mT 161 65 ls st (0, 0) Q)) := v161_65 (c := 0) (n := 0)
theorem v161_68 {z : P0} {st : List Value} {cu : Nat × Nat} {Q : Res → Mem → Prop} {σ : Mem} {x0 x1 x2 : Option Value} {u v : Int32} : X z 161 68 [x0, x1, x2] (.int v :: .int u :: st) cu σ Q = (X z 161 69 [x0, x1, x2] (.int (u + v) :: st) cu σ Q) := by
  rw [x161_68]
  rfl
theorem v161_69 {z : P0} {st : List Value} {cu : Nat × Nat} {Q : Res → Mem → Prop} {K : Nat → Nat × Nat} {I : Nat → Nat → Int32} {R : Nat → Nat → Option Nat} {L : Nat → Nat → Int64} {sz : Nat} {ex : Bool} {x0 x1 x2 : Option Value} {u : Nat} {v : Int32} : X z 161 69 [x0, x1, x2] (.int v :: .ref u :: st) cu (K, I, R, L, sz, ex) Q = (((K u).1 = 20 ∨ (K u).1 = 50) ∧ vp_in v (K u).2 ∧ X z 161 70 [x0, x1, x2] (.int (I u v.toNatClampNeg) :: st) cu (K, I, R, L, sz, ex) Q) := by
  rw [x161_69]
  rfl
theorem v161_70 {z : P0} {cu : Nat × Nat} {Q : Res → Mem → Prop} {σ : Mem} {x0 x1 x2 : Option Value} {v : Int32} : X z 161 70 [x0, x1, x2] ([.int v]) cu σ Q = (Q (.inl (some (.int v))) σ) := by
  rw [x161_70]
  exact propext ⟨fun h => h.2, fun h => ⟨trivial, h⟩⟩
theorem v161_71 {z : P0} {st : List Value} {cu : Nat × Nat} {Q : Res → Mem → Prop} {σ : Mem} {x1 x2 : Option Value} {u : Nat} : X z 161 71 [some (.ref u), x1, x2] (st) cu σ Q = (X z 161 72 [some (.ref u), x1, x2] (.ref u :: st) cu σ Q) := by
  rw [x161_71]
  rfl
theorem v161_72 {z : P0} {st : List Value} {cu : Nat × Nat} {Q : Res → Mem → Prop} {K : Nat → Nat × Nat} {I : Nat → Nat → Int32} {R : Nat → Nat → Option Nat} {L : Nat → Nat → Int64} {sz : Nat} {ex : Bool} {x0 x1 x2 : Option Value} {u : Nat} : X z 161 72 [x0, x1, x2] (.ref u :: st) cu (K, I, R, L, sz, ex) Q = ((K u).1 = 111 ∧ X z 161 75 [x0, x1, x2] (va_rf (R u 8) :: st) cu (K, I, R, L, sz, ex) Q) := by
  rw [x161_72]
  rfl
theorem v161_75 {z : P0} {st : List Value} {cu : Nat × Nat} {Q : Res → Mem → Prop} {σ : Mem} {x0 x2 : Option Value} {u : Int32} : X z 161 75 [x0, some (.int u), x2] (st) cu σ Q = (X z 161 76 [x0, some (.int u), x2] (.int u :: st) cu σ Q) := by
  rw [x161_75]
  rfl
theorem v161_76 {z : P0} {st : List Value} {cu : Nat × Nat} {Q : Res → Mem → Prop} {K : Nat → Nat × Nat} {I : Nat → Nat → Int32} {R : Nat → Nat → Option Nat} {L : Nat → Nat → Int64} {sz : Nat} {ex : Bool} {x0 x1 x2 : Option Value} {u : Nat} {v : Int32} : X z 161 76 [x0, x1, x2] (.int v :: .ref u :: st) cu (K, I, R, L, sz, ex) Q = (((K u).1 = 20 ∨ (K u).1 = 50) ∧ vp_in v (K u).2 ∧ X z 161 77 [x0, x1, x2] (.int (I u v.toNatClampNeg) :: st) cu (K, I, R, L, sz, ex) Q) := by
  rw [x161_76]
  rfl
theorem v161_77 {z : P0} {cu : Nat × Nat} {Q : Res → Mem → Prop} {σ : Mem} {x0 x1 x2 : Option Value} {v : Int32} : X z 161 77 [x0, x1, x2] ([.int v]) cu σ Q = (Q (.inl (some (.int v))) σ) := by
  rw [x161_77]
  exact propext ⟨fun h => h.2, fun h => ⟨trivial, h⟩⟩
theorem v161_78 {z : P0} {st : List Value} {cu : Nat × Nat} {Q : Res → Mem → Prop} {σ : Mem} {x1 x2 : Option Value} {u : Nat} : X z 161 78 [some (.ref u), x1, x2] (st) cu σ Q = (X z 161 79 [some (.ref u), x1, x2] (.ref u :: st) cu σ Q) := by
  rw [x161_78]
  rfl
theorem v161_79 {z : P0} {st : List Value} {cu : Nat × Nat} {Q : Res → Mem → Prop} {K : Nat → Nat × Nat} {I : Nat → Nat → Int32} {R : Nat → Nat → Option Nat} {L : Nat → Nat → Int64} {sz : Nat} {ex : Bool} {x0 x1 x2 : Option Value} {u : Nat} : X z 161 79 [x0, x1, x2] (.ref u :: st) cu (K, I, R, L, sz, ex) Q = ((K u).1 = 111 ∧ X z 161 82 [x0, x1, x2] (va_rf (R u 9) :: st) cu (K, I, R, L, sz, ex) Q) := by
  rw [x161_79]
  rfl
theorem v161_82 {z : P0} {st : List Value} {cu : Nat × Nat} {Q : Res → Mem → Prop} {σ : Mem} {x0 x2 : Option Value} {u : Int32} : X z 161 82 [x0, some (.int u), x2] (st) cu σ Q = (X z 161 83 [x0, some (.int u), x2] (.int u :: st) cu σ Q) := by
  rw [x161_82]
  rfl
theorem v161_83 {z : P0} {st : List Value} {cu : Nat × Nat} {Q : Res → Mem → Prop} {K : Nat → Nat × Nat} {I : Nat → Nat → Int32} {R : Nat → Nat → Option Nat} {L : Nat → Nat → Int64} {sz : Nat} {ex : Bool} {x0 x1 x2 : Option Value} {u : Nat} {v : Int32} : X z 161 83 [x0, x1, x2] (.int v :: .ref u :: st) cu (K, I, R, L, sz, ex) Q = (((K u).1 = 20 ∨ (K u).1 = 50) ∧ vp_in v (K u).2 ∧ X z 161 84 [x0, x1, x2] (.int (I u v.toNatClampNeg) :: st) cu (K, I, R, L, sz, ex) Q) := by
  rw [x161_83]
  rfl
theorem v161_84 {z : P0} {cu : Nat × Nat} {Q : Res → Mem → Prop} {σ : Mem} {x0 x1 x2 : Option Value} {v : Int32} : X z 161 84 [x0, x1, x2] ([.int v]) cu σ Q = (Q (.inl (some (.int v))) σ) := by
  rw [x161_84]
  exact propext ⟨fun h => h.2, fun h => ⟨trivial, h⟩⟩
theorem v161_85 {z : P0} {st : List Value} {cu : Nat × Nat} {Q : Res → Mem → Prop} {σ : Mem} {x1 x2 : Option Value} {u : Nat} : X z 161 85 [some (.ref u), x1, x2] (st) cu σ Q = (X z 161 86 [some (.ref u), x1, x2] (.ref u :: st) cu σ Q) := by
  rw [x161_85]
  rfl
theorem v161_86 {z : P0} {st : List Value} {cu : Nat × Nat} {Q : Res → Mem → Prop} {K : Nat → Nat × Nat} {I : Nat → Nat → Int32} {R : Nat → Nat → Option Nat} {L : Nat → Nat → Int64} {sz : Nat} {ex : Bool} {x0 x1 x2 : Option Value} {u : Nat} : X z 161 86 [x0, x1, x2] (.ref u :: st) cu (K, I, R, L, sz, ex) Q = ((K u).1 = 111 ∧ X z 161 89 [x0, x1, x2] (va_rf (R u 10) :: st) cu (K, I, R, L, sz, ex) Q) := by
  rw [x161_86]
  rfl
theorem v161_89 {z : P0} {st : List Value} {cu : Nat × Nat} {Q : Res → Mem → Prop} {σ : Mem} {x0 x2 : Option Value} {u : Int32} : X z 161 89 [x0, some (.int u), x2] (st) cu σ Q = (X z 161 90 [x0, some (.int u), x2] (.int u :: st) cu σ Q) := by
  rw [x161_89]
  rfl
theorem v161_90 {z : P0} {st : List Value} {cu : Nat × Nat} {Q : Res → Mem → Prop} {K : Nat → Nat × Nat} {I : Nat → Nat → Int32} {R : Nat → Nat → Option Nat} {L : Nat → Nat → Int64} {sz : Nat} {ex : Bool} {x0 x1 x2 : Option Value} {u : Nat} {v : Int32} : X z 161 90 [x0, x1, x2] (.int v :: .ref u :: st) cu (K, I, R, L, sz, ex) Q = (((K u).1 = 20 ∨ (K u).1 = 50) ∧ vp_in v (K u).2 ∧ X z 161 91 [x0, x1, x2] (.int (I u v.toNatClampNeg) :: st) cu (K, I, R, L, sz, ex) Q) := by
  rw [x161_90]
  rfl
theorem v161_91 {z : P0} {cu : Nat × Nat} {Q : Res → Mem → Prop} {σ : Mem} {x0 x1 x2 : Option Value} {v : Int32} : X z 161 91 [x0, x1, x2] ([.int v]) cu σ Q = (Q (.inl (some (.int v))) σ) := by
  rw [x161_91]
  exact propext ⟨fun h => h.2, fun h => ⟨trivial, h⟩⟩
theorem v161_92 {z : P0} {st : List Value} {cu : Nat × Nat} {Q : Res → Mem → Prop} {σ : Mem} {x1 x2 : Option Value} {u : Nat} : X z 161 92 [some (.ref u), x1, x2] (st) cu σ Q = (X z 161 93 [some (.ref u), x1, x2] (.ref u :: st) cu σ Q) := by
  rw [x161_92]
  rfl
theorem v161_93 {z : P0} {st : List Value} {cu : Nat × Nat} {Q : Res → Mem → Prop} {K : Nat → Nat × Nat} {I : Nat → Nat → Int32} {R : Nat → Nat → Option Nat} {L : Nat → Nat → Int64} {sz : Nat} {ex : Bool} {x0 x1 x2 : Option Value} {u : Nat} : X z 161 93 [x0, x1, x2] (.ref u :: st) cu (K, I, R, L, sz, ex) Q = ((K u).1 = 111 ∧ X z 161 96 [x0, x1, x2] (va_rf (R u 10) :: st) cu (K, I, R, L, sz, ex) Q) := by
  rw [x161_93]
  rfl
theorem v161_96 {z : P0} {st : List Value} {cu : Nat × Nat} {Q : Res → Mem → Prop} {σ : Mem} {x0 x2 : Option Value} {u : Int32} : X z 161 96 [x0, some (.int u), x2] (st) cu σ Q = (X z 161 97 [x0, some (.int u), x2] (.int u :: st) cu σ Q) := by
  rw [x161_96]
  rfl
theorem v161_97 {z : P0} {st : List Value} {cu : Nat × Nat} {Q : Res → Mem → Prop} {K : Nat → Nat × Nat} {I : Nat → Nat → Int32} {R : Nat → Nat → Option Nat} {L : Nat → Nat → Int64} {sz : Nat} {ex : Bool} {x0 x1 x2 : Option Value} {u : Nat} {v : Int32} : X z 161 97 [x0, x1, x2] (.int v :: .ref u :: st) cu (K, I, R, L, sz, ex) Q = (((K u).1 = 20 ∨ (K u).1 = 50) ∧ vp_in v (K u).2 ∧ X z 161 98 [x0, x1, x2] (.int (I u v.toNatClampNeg) :: st) cu (K, I, R, L, sz, ex) Q) := by
  rw [x161_97]
  rfl
theorem v161_98 {z : P0} {st : List Value} {cu : Nat × Nat} {Q : Res → Mem → Prop} {σ : Mem} {x1 x2 : Option Value} {u : Nat} : X z 161 98 [some (.ref u), x1, x2] (st) cu σ Q = (X z 161 99 [some (.ref u), x1, x2] (.ref u :: st) cu σ Q) := by
  rw [x161_98]
  rfl
theorem v161_99 {z : P0} {st : List Value} {cu : Nat × Nat} {Q : Res → Mem → Prop} {K : Nat → Nat × Nat} {I : Nat → Nat → Int32} {R : Nat → Nat → Option Nat} {L : Nat → Nat → Int64} {sz : Nat} {ex : Bool} {x0 x1 x2 : Option Value} {u : Nat} : X z 161 99 [x0, x1, x2] (.ref u :: st) cu (K, I, R, L, sz, ex) Q = ((K u).1 = 111 ∧ X z 161 102 [x0, x1, x2] (va_rf (R u 0) :: st) cu (K, I, R, L, sz, ex) Q) := by
  rw [x161_99]
  rfl
theorem v161_102 {z : P0} {st : List Value} {cu : Nat × Nat} {Q : Res → Mem → Prop} {σ : Mem} {x0 x1 x2 : Option Value} : X z 161 102 [x0, x1, x2] (st) cu σ Q = (X z 161 103 [x0, x1, x2] (.int (nI 5) :: st) cu σ Q) := by
  rw [x161_102]
  rfl
theorem v161_103 {z : P0} {st : List Value} {cu : Nat × Nat} {Q : Res → Mem → Prop} {K : Nat → Nat × Nat} {I : Nat → Nat → Int32} {R : Nat → Nat → Option Nat} {L : Nat → Nat → Int64} {sz : Nat} {ex : Bool} {x0 x1 x2 : Option Value} {u : Nat} {v : Int32} : X z 161 103 [x0, x1, x2] (.int v :: .ref u :: st) cu (K, I, R, L, sz, ex) Q = (((K u).1 = 20 ∨ (K u).1 = 50) ∧ vp_in v (K u).2 ∧ X z 161 104 [x0, x1, x2] (.int (I u v.toNatClampNeg) :: st) cu (K, I, R, L, sz, ex) Q) := by
  rw [x161_103]
  rfl
theorem v161_104 {z : P0} {st : List Value} {cu : Nat × Nat} {Q : Res → Mem → Prop} {σ : Mem} {x0 x1 x2 : Option Value} {u v : Int32} : X z 161 104 [x0, x1, x2] (.int v :: .int u :: st) cu σ Q = (X z 161 105 [x0, x1, x2] (.int (u * v) :: st) cu σ Q) := by
  rw [x161_104]
  rfl
theorem v161_105 {z : P0} {cu : Nat × Nat} {Q : Res → Mem → Prop} {σ : Mem} {x0 x1 x2 : Option Value} {v : Int32} : X z 161 105 [x0, x1, x2] ([.int v]) cu σ Q = (Q (.inl (some (.int v))) σ) := by
  rw [x161_105]
  exact propext ⟨fun h => h.2, fun h => ⟨trivial, h⟩⟩
theorem v161_106 {z : P0} {st : List Value} {cu : Nat × Nat} {Q : Res → Mem → Prop} {σ : Mem} {x1 x2 : Option Value} {u : Nat} : X z 161 106 [some (.ref u), x1, x2] (st) cu σ Q = (X z 161 107 [some (.ref u), x1, x2] (.ref u :: st) cu σ Q) := by
  rw [x161_106]
  rfl
theorem v161_107 {z : P0} {st : List Value} {cu : Nat × Nat} {Q : Res → Mem → Prop} {σ : Mem} {x0 x2 : Option Value} {u : Int32} : X z 161 107 [x0, some (.int u), x2] (st) cu σ Q = (X z 161 108 [x0, some (.int u), x2] (.int u :: st) cu σ Q) := by
  rw [x161_107]
  rfl
theorem u161_108 {z : P0} {ls : Lcs} {st : List Value} {K : Nat → Nat × Nat} {I : Nat → Nat → Int32} {R : Nat → Nat → Option Nat} {L : Nat → Nat → Int64} {sz : Nat} {ex : Bool} {Q : Res → Mem → Prop} {x : Nat} {a0 : Int32} : X z 161 108 ls (.int a0 :: .ref x :: st) (0, 0) (K, I, R, L, sz, ex) Q = ((K x).1 = 111 ∧ wsum st ≤ 8 ∧ X z 131 0 [some (.ref x), some (.int a0)] [] (0, 0) (K, I, R, L, sz, ex) (aftr (X z) mT 161 108 ls st (0, 0) Q)) := v161_108 (c := 0) (n := 0)
theorem v161_111 {z : P0} {st : List Value} {cu : Nat × Nat} {Q : Res → Mem → Prop} {σ : Mem} {x0 x1 x2 : Option Value} {u : Int32} : X z 161 111 [x0, x1, x2] (.int u :: st) cu σ Q = (if u = nI 0 then X z 161 118 [x0, x1, x2] (st) cu σ Q else X z 161 114 [x0, x1, x2] (st) cu σ Q) := by
  rw [x161_111]
  rw [nI_0]
  obtain ⟨K, I, R, L, sz, ex⟩ := σ
  exact br_ite
theorem v161_114 {z : P0} {st : List Value} {cu : Nat × Nat} {Q : Res → Mem → Prop} {σ : Mem} {x0 x1 x2 : Option Value} : X z 161 114 [x0, x1, x2] (st) cu σ Q = (X z 161 115 [x0, x1, x2] (.int (nI 1) :: st) cu σ Q) := by
  rw [x161_114]
  rfl
theorem v161_115 {z : P0} {st : List Value} {cu : Nat × Nat} {Q : Res → Mem → Prop} {σ : Mem} {x0 x1 x2 : Option Value} : X z 161 115 [x0, x1, x2] (st) cu σ Q = (X z 161 119 [x0, x1, x2] (st) cu σ Q) := by
  rw [x161_115]
  rfl
theorem v161_118 {z : P0} {st : List Value} {cu : Nat × Nat} {Q : Res → Mem → Prop} {σ : Mem} {x0 x1 x2 : Option Value} : X z 161 118 [x0, x1, x2] (st) cu σ Q = (X z 161 119 [x0, x1, x2] (.int (nI 0) :: st) cu σ Q) := by
  rw [x161_118]
  rfl
theorem v161_119 {z : P0} {cu : Nat × Nat} {Q : Res → Mem → Prop} {σ : Mem} {x0 x1 x2 : Option Value} {v : Int32} : X z 161 119 [x0, x1, x2] ([.int v]) cu σ Q = (Q (.inl (some (.int v))) σ) := by
  rw [x161_119]
  exact propext ⟨fun h => h.2, fun h => ⟨trivial, h⟩⟩
theorem v162_0 {z : P0} {st : List Value} {cu : Nat × Nat} {Q : Res → Mem → Prop} {σ : Mem} {x1 x2 : Option Value} {u : Nat} : X z 162 0 [some (.ref u), x1, x2] (st) cu σ Q = (X z 162 1 [some (.ref u), x1, x2] (.ref u :: st) cu σ Q) := by
  rw [x162_0]
  rfl
theorem u162_1 {z : P0} {ls : Lcs} {st : List Value} {K : Nat → Nat × Nat} {I : Nat → Nat → Int32} {R : Nat → Nat → Option Nat} {L : Nat → Nat → Int64} {sz : Nat} {ex : Bool} {Q : Res → Mem → Prop} {x : Nat} : X z 162 1 ls (.ref x :: st) (0, 0) (K, I, R, L, sz, ex) Q = ((K x).1 = 111 ∧ wsum st ≤ 8 ∧ X z 130 0 [some (.ref x), none] [] (0, 0) (K, I, R, L, sz, ex) (aftr (X z) mT 162 1 ls st (0, 0) Q)) := v162_1 (c := 0) (n := 0)
theorem v162_4 {z : P0} {st : List Value} {cu : Nat × Nat} {Q : Res → Mem → Prop} {σ : Mem} {x1 x2 : Option Value} {u : Nat} : X z 162 4 [some (.ref u), x1, x2] (st) cu σ Q = (X z 162 5 [some (.ref u), x1, x2] (.ref u :: st) cu σ Q) := by
  rw [x162_4]
  rfl
theorem v162_5 {z : P0} {st : List Value} {cu : Nat × Nat} {Q : Res → Mem → Prop} {σ : Mem} {x0 x2 : Option Value} {u : Int32} : X z 162 5 [x0, some (.int u), x2] (st) cu σ Q = (X z 162 6 [x0, some (.int u), x2] (.int u :: st) cu σ Q) := by
  rw [x162_5]
  rfl
theorem v162_6 {z : P0} {st : List Value} {cu : Nat × Nat} {Q : Res → Mem → Prop} {σ : Mem} {x0 x1 x2 : Option Value} : X z 162 6 [x0, x1, x2] (st) cu σ Q = (X z 162 7 [x0, x1, x2] (.int (nI 0) :: st) cu σ Q) := by
  rw [x162_6]
  rfl
theorem v162_7 {z : P0} {st : List Value} {cu : Nat × Nat} {Q : Res → Mem → Prop} {σ : Mem} {x1 x2 : Option Value} {u : Nat} : X z 162 7 [some (.ref u), x1, x2] (st) cu σ Q = (X z 162 8 [some (.ref u), x1, x2] (.ref u :: st) cu σ Q) := by
  rw [x162_7]
  rfl
theorem v162_8 {z : P0} {st : List Value} {cu : Nat × Nat} {Q : Res → Mem → Prop} {K : Nat → Nat × Nat} {I : Nat → Nat → Int32} {R : Nat → Nat → Option Nat} {L : Nat → Nat → Int64} {sz : Nat} {ex : Bool} {x0 x1 x2 : Option Value} {u : Nat} : X z 162 8 [x0, x1, x2] (.ref u :: st) cu (K, I, R, L, sz, ex) Q = ((K u).1 = 111 ∧ X z 162 11 [x0, x1, x2] (.int (I u 12) :: st) cu (K, I, R, L, sz, ex) Q) := by
  rw [x162_8]
  rfl
theorem v162_11 {z : P0} {st : List Value} {cu : Nat × Nat} {Q : Res → Mem → Prop} {σ : Mem} {x0 x1 x2 : Option Value} : X z 162 11 [x0, x1, x2] (st) cu σ Q = (X z 162 12 [x0, x1, x2] (.int (nI 1) :: st) cu σ Q) := by
  rw [x162_11]
  rfl
theorem v162_12 {z : P0} {st : List Value} {cu : Nat × Nat} {Q : Res → Mem → Prop} {σ : Mem} {x0 x1 x2 : Option Value} {u v : Int32} : X z 162 12 [x0, x1, x2] (.int v :: .int u :: st) cu σ Q = (X z 162 13 [x0, x1, x2] (.int (u - v) :: st) cu σ Q) := by
  rw [x162_12]
  rfl
theorem u162_13 {z : P0} {ls : Lcs} {st : List Value} {K : Nat → Nat × Nat} {I : Nat → Nat → Int32} {R : Nat → Nat → Option Nat} {L : Nat → Nat → Int64} {sz : Nat} {ex : Bool} {Q : Res → Mem → Prop} {a0 : Int32} {a1 : Int32} {a2 : Int32} : X z 162 13 ls (.int a2 :: .int a1 :: .int a0 :: st) (0, 0) (K, I, R, L, sz, ex) Q = (wsum st ≤ 8 ∧ X z 106 0 [some (.int a0), some (.int a1), some (.int a2)] [] (0, 0) (K, I, R, L, sz, ex) (aftr (X z) mT 162 13 ls st (0, 0) Q)) := v162_13 (c := 0) (n := 0)
theorem v162_16 {z : P0} {st : List Value} {cu : Nat × Nat} {Q : Res → Mem → Prop} {σ : Mem} {x0 x1 x2 : Option Value} {u : Int32} : X z 162 16 [x0, x1, x2] (.int u :: st) cu σ Q = (if u = nI 0 then X z 162 19 [x0, x1, x2] (st) cu σ Q else X z 162 23 [x0, x1, x2] (st) cu σ Q) := by
  rw [x162_16]
  rw [nI_0]
  obtain ⟨K, I, R, L, sz, ex⟩ := σ
  exact br_ne
theorem v162_19 {z : P0} {st : List Value} {cu : Nat × Nat} {Q : Res → Mem → Prop} {σ : Mem} {x0 x1 x2 : Option Value} : X z 162 19 [x0, x1, x2] (st) cu σ Q = (X z 162 20 [x0, x1, x2] (.int (nI 1) :: st) cu σ Q) := by
  rw [x162_19]
  rfl
theorem v162_20 {z : P0} {st : List Value} {cu : Nat × Nat} {Q : Res → Mem → Prop} {σ : Mem} {x0 x1 x2 : Option Value} : X z 162 20 [x0, x1, x2] (st) cu σ Q = (X z 162 38 [x0, x1, x2] (st) cu σ Q) := by
  rw [x162_20]
  rfl
theorem v162_23 {z : P0} {st : List Value} {cu : Nat × Nat} {Q : Res → Mem → Prop} {σ : Mem} {x0 x1 : Option Value} {u : Int32} : X z 162 23 [x0, x1, some (.int u)] (st) cu σ Q = (X z 162 24 [x0, x1, some (.int u)] (.int u :: st) cu σ Q) := by
  rw [x162_23]
  rfl
theorem v162_24 {z : P0} {st : List Value} {cu : Nat × Nat} {Q : Res → Mem → Prop} {σ : Mem} {x0 x1 x2 : Option Value} : X z 162 24 [x0, x1, x2] (st) cu σ Q = (X z 162 25 [x0, x1, x2] (.int (nI 0) :: st) cu σ Q) := by
  rw [x162_24]
  rfl
theorem v162_25 {z : P0} {st : List Value} {cu : Nat × Nat} {Q : Res → Mem → Prop} {σ : Mem} {x0 x1 x2 : Option Value} : X z 162 25 [x0, x1, x2] (st) cu σ Q = (X z 162 27 [x0, x1, x2] (.int (nI 7) :: st) cu σ Q) := by
  rw [x162_25]
  rfl
theorem u162_27 {z : P0} {ls : Lcs} {st : List Value} {K : Nat → Nat × Nat} {I : Nat → Nat → Int32} {R : Nat → Nat → Option Nat} {L : Nat → Nat → Int64} {sz : Nat} {ex : Bool} {Q : Res → Mem → Prop} {a0 : Int32} {a1 : Int32} {a2 : Int32} : X z 162 27 ls (.int a2 :: .int a1 :: .int a0 :: st) (0, 0) (K, I, R, L, sz, ex) Q = (wsum st ≤ 8 ∧ X z 106 0 [some (.int a0), some (.int a1), some (.int a2)] [] (0, 0) (K, I, R, L, sz, ex) (aftr (X z) mT 162 27 ls st (0, 0) Q)) := v162_27 (c := 0) (n := 0)
theorem v162_30 {z : P0} {st : List Value} {cu : Nat × Nat} {Q : Res → Mem → Prop} {σ : Mem} {x0 x1 x2 : Option Value} {u : Int32} : X z 162 30 [x0, x1, x2] (.int u :: st) cu σ Q = (if u = nI 0 then X z 162 37 [x0, x1, x2] (st) cu σ Q else X z 162 33 [x0, x1, x2] (st) cu σ Q) := by
  rw [x162_30]
  rw [nI_0]
  obtain ⟨K, I, R, L, sz, ex⟩ := σ
  exact br_ite
theorem v162_33 {z : P0} {st : List Value} {cu : Nat × Nat} {Q : Res → Mem → Prop} {σ : Mem} {x0 x1 x2 : Option Value} : X z 162 33 [x0, x1, x2] (st) cu σ Q = (X z 162 34 [x0, x1, x2] (.int (nI 0) :: st) cu σ Q) := by
  rw [x162_33]
  rfl
theorem v162_34 {z : P0} {st : List Value} {cu : Nat × Nat} {Q : Res → Mem → Prop} {σ : Mem} {x0 x1 x2 : Option Value} : X z 162 34 [x0, x1, x2] (st) cu σ Q = (X z 162 38 [x0, x1, x2] (st) cu σ Q) := by
  rw [x162_34]
  rfl
theorem v162_37 {z : P0} {st : List Value} {cu : Nat × Nat} {Q : Res → Mem → Prop} {σ : Mem} {x0 x1 x2 : Option Value} : X z 162 37 [x0, x1, x2] (st) cu σ Q = (X z 162 38 [x0, x1, x2] (.int (nI 2) :: st) cu σ Q) := by
  rw [x162_37]
  rfl
theorem v162_38 {z : P0} {st : List Value} {cu : Nat × Nat} {Q : Res → Mem → Prop} {K : Nat → Nat × Nat} {I : Nat → Nat → Int32} {R : Nat → Nat → Option Nat} {L : Nat → Nat → Int64} {sz : Nat} {ex : Bool} {x0 x1 x2 : Option Value} {u : Nat} {v : Int32} : X z 162 38 [x0, x1, x2] (.int v :: .ref u :: st) cu (K, I, R, L, sz, ex) Q = ((K u).1 = 111 ∧ X z 162 41 [x0, x1, x2] (st) cu (K, up2 I u 5 v, R, L, sz, ex) Q) := by
  rw [x162_38]
  exact i_putI
theorem v162_41 {z : P0} {st : List Value} {cu : Nat × Nat} {Q : Res → Mem → Prop} {σ : Mem} {x1 x2 : Option Value} {u : Nat} : X z 162 41 [some (.ref u), x1, x2] (st) cu σ Q = (X z 162 42 [some (.ref u), x1, x2] (.ref u :: st) cu σ Q) := by
  rw [x162_41]
  rfl
theorem v162_42 {z : P0} {st : List Value} {cu : Nat × Nat} {Q : Res → Mem → Prop} {K : Nat → Nat × Nat} {I : Nat → Nat → Int32} {R : Nat → Nat → Option Nat} {L : Nat → Nat → Int64} {sz : Nat} {ex : Bool} {x0 x1 x2 : Option Value} {u : Nat} : X z 162 42 [x0, x1, x2] (.ref u :: st) cu (K, I, R, L, sz, ex) Q = ((K u).1 = 111 ∧ X z 162 45 [x0, x1, x2] (.int (I u 5) :: st) cu (K, I, R, L, sz, ex) Q) := by
  rw [x162_42]
  rfl
theorem v162_45 {z : P0} {st : List Value} {cu : Nat × Nat} {Q : Res → Mem → Prop} {σ : Mem} {x0 x1 x2 : Option Value} {u : Int32} : X z 162 45 [x0, x1, x2] (.int u :: st) cu σ Q = (if nI 0 < u then X z 162 48 [x0, x1, x2] (st) cu σ Q else X z 162 52 [x0, x1, x2] (st) cu σ Q) := by
  rw [x162_45]
  rw [nI_0]
  obtain ⟨K, I, R, L, sz, ex⟩ := σ
  exact br_ge
theorem v162_48 {z : P0} {st : List Value} {cu : Nat × Nat} {Q : Res → Mem → Prop} {σ : Mem} {x0 x1 x2 : Option Value} : X z 162 48 [x0, x1, x2] (st) cu σ Q = (X z 162 49 [x0, x1, x2] (.int (nI 0) :: st) cu σ Q) := by
  rw [x162_48]
  rfl
theorem v162_49 {z : P0} {st : List Value} {cu : Nat × Nat} {Q : Res → Mem → Prop} {σ : Mem} {x0 x1 x2 : Option Value} : X z 162 49 [x0, x1, x2] (st) cu σ Q = (X z 162 58 [x0, x1, x2] (st) cu σ Q) := by
  rw [x162_49]
  rfl
theorem v162_52 {z : P0} {st : List Value} {cu : Nat × Nat} {Q : Res → Mem → Prop} {σ : Mem} {x1 x2 : Option Value} {u : Nat} : X z 162 52 [some (.ref u), x1, x2] (st) cu σ Q = (X z 162 53 [some (.ref u), x1, x2] (.ref u :: st) cu σ Q) := by
  rw [x162_52]
  rfl
theorem v162_53 {z : P0} {st : List Value} {cu : Nat × Nat} {Q : Res → Mem → Prop} {σ : Mem} {x0 x2 : Option Value} {u : Int32} : X z 162 53 [x0, some (.int u), x2] (st) cu σ Q = (X z 162 54 [x0, some (.int u), x2] (.int u :: st) cu σ Q) := by
  rw [x162_53]
  rfl
theorem v162_54 {z : P0} {st : List Value} {cu : Nat × Nat} {Q : Res → Mem → Prop} {σ : Mem} {x0 x1 : Option Value} {u : Int32} : X z 162 54 [x0, x1, some (.int u)] (st) cu σ Q = (X z 162 55 [x0, x1, some (.int u)] (.int u :: st) cu σ Q) := by
  rw [x162_54]
  rfl
theorem u162_55 {z : P0} {ls : Lcs} {st : List Value} {K : Nat → Nat × Nat} {I : Nat → Nat → Int32} {R : Nat → Nat → Option Nat} {L : Nat → Nat → Int64} {sz : Nat} {ex : Bool} {Q : Res → Mem → Prop} {x : Nat} {a0 : Int32} {a1 : Int32} : X z 162 55 ls (.int a1 :: .int a0 :: .ref x :: st) (0, 0) (K, I, R, L, sz, ex) Q = ((K x).1 = 111 ∧ wsum st ≤ 8 ∧ X z 161 0 [some (.ref x), some (.int a0), some (.int a1)] [] (0, 0) (K, I, R, L, sz, ex) (aftr (X z) mT 162 55 ls st (0, 0) Q)) := v162_55 (c := 0) (n := 0)
theorem v162_58 {z : P0} {cu : Nat × Nat} {Q : Res → Mem → Prop} {σ : Mem} {x0 x1 x2 : Option Value} {v : Int32} : X z 162 58 [x0, x1, x2] ([.int v]) cu σ Q = (Q (.inl (some (.int v))) σ) := by
  rw [x162_58]
  exact propext ⟨fun h => h.2, fun h => ⟨trivial, h⟩⟩
theorem v163_0 {z : P0} {st : List Value} {cu : Nat × Nat} {Q : Res → Mem → Prop} {σ : Mem} {x1 x2 : Option Value} {u : Nat} : X z 163 0 [some (.ref u), x1, x2] (st) cu σ Q = (X z 163 1 [some (.ref u), x1, x2] (.ref u :: st) cu σ Q) := by
  rw [x163_0]
  rfl
theorem u163_1 {z : P0} {ls : Lcs} {st : List Value} {K : Nat → Nat × Nat} {I : Nat → Nat → Int32} {R : Nat → Nat → Option Nat} {L : Nat → Nat → Int64} {sz : Nat} {ex : Bool} {Q : Res → Mem → Prop} {x : Nat} : X z 163 1 ls (.ref x :: st) (0, 0) (K, I, R, L, sz, ex) Q = ((K x).1 = 111 ∧ wsum st ≤ 8 ∧ X z 130 0 [some (.ref x), none] [] (0, 0) (K, I, R, L, sz, ex) (aftr (X z) mT 163 1 ls st (0, 0) Q)) := v163_1 (c := 0) (n := 0)
theorem v163_4 {z : P0} {st : List Value} {cu : Nat × Nat} {Q : Res → Mem → Prop} {σ : Mem} {x1 x2 : Option Value} {u : Nat} : X z 163 4 [some (.ref u), x1, x2] (st) cu σ Q = (X z 163 5 [some (.ref u), x1, x2] (.ref u :: st) cu σ Q) := by
  rw [x163_4]
  rfl
theorem v163_5 {z : P0} {st : List Value} {cu : Nat × Nat} {Q : Res → Mem → Prop} {σ : Mem} {x0 x2 : Option Value} {u : Int32} : X z 163 5 [x0, some (.int u), x2] (st) cu σ Q = (X z 163 6 [x0, some (.int u), x2] (.int u :: st) cu σ Q) := by
  rw [x163_5]
  rfl
theorem v163_6 {z : P0} {st : List Value} {cu : Nat × Nat} {Q : Res → Mem → Prop} {σ : Mem} {x0 x1 x2 : Option Value} : X z 163 6 [x0, x1, x2] (st) cu σ Q = (X z 163 7 [x0, x1, x2] (.int (nI 0) :: st) cu σ Q) := by
  rw [x163_6]
  rfl
theorem v163_7 {z : P0} {st : List Value} {cu : Nat × Nat} {Q : Res → Mem → Prop} {σ : Mem} {x1 x2 : Option Value} {u : Nat} : X z 163 7 [some (.ref u), x1, x2] (st) cu σ Q = (X z 163 8 [some (.ref u), x1, x2] (.ref u :: st) cu σ Q) := by
  rw [x163_7]
  rfl
theorem v163_8 {z : P0} {st : List Value} {cu : Nat × Nat} {Q : Res → Mem → Prop} {K : Nat → Nat × Nat} {I : Nat → Nat → Int32} {R : Nat → Nat → Option Nat} {L : Nat → Nat → Int64} {sz : Nat} {ex : Bool} {x0 x1 x2 : Option Value} {u : Nat} : X z 163 8 [x0, x1, x2] (.ref u :: st) cu (K, I, R, L, sz, ex) Q = ((K u).1 = 111 ∧ X z 163 11 [x0, x1, x2] (.int (I u 12) :: st) cu (K, I, R, L, sz, ex) Q) := by
  rw [x163_8]
  rfl
theorem v163_11 {z : P0} {st : List Value} {cu : Nat × Nat} {Q : Res → Mem → Prop} {σ : Mem} {x0 x1 x2 : Option Value} : X z 163 11 [x0, x1, x2] (st) cu σ Q = (X z 163 12 [x0, x1, x2] (.int (nI 1) :: st) cu σ Q) := by
  rw [x163_11]
  rfl
theorem v163_12 {z : P0} {st : List Value} {cu : Nat × Nat} {Q : Res → Mem → Prop} {σ : Mem} {x0 x1 x2 : Option Value} {u v : Int32} : X z 163 12 [x0, x1, x2] (.int v :: .int u :: st) cu σ Q = (X z 163 13 [x0, x1, x2] (.int (u - v) :: st) cu σ Q) := by
  rw [x163_12]
  rfl
theorem u163_13 {z : P0} {ls : Lcs} {st : List Value} {K : Nat → Nat × Nat} {I : Nat → Nat → Int32} {R : Nat → Nat → Option Nat} {L : Nat → Nat → Int64} {sz : Nat} {ex : Bool} {Q : Res → Mem → Prop} {a0 : Int32} {a1 : Int32} {a2 : Int32} : X z 163 13 ls (.int a2 :: .int a1 :: .int a0 :: st) (0, 0) (K, I, R, L, sz, ex) Q = (wsum st ≤ 8 ∧ X z 106 0 [some (.int a0), some (.int a1), some (.int a2)] [] (0, 0) (K, I, R, L, sz, ex) (aftr (X z) mT 163 13 ls st (0, 0) Q)) := v163_13 (c := 0) (n := 0)
theorem v163_16 {z : P0} {st : List Value} {cu : Nat × Nat} {Q : Res → Mem → Prop} {σ : Mem} {x0 x1 x2 : Option Value} {u : Int32} : X z 163 16 [x0, x1, x2] (.int u :: st) cu σ Q = (if u = nI 0 then X z 163 39 [x0, x1, x2] (st) cu σ Q else X z 163 19 [x0, x1, x2] (st) cu σ Q) := by
  rw [x163_16]
  rw [nI_0]
  obtain ⟨K, I, R, L, sz, ex⟩ := σ
  exact br_ite
theorem v163_19 {z : P0} {st : List Value} {cu : Nat × Nat} {Q : Res → Mem → Prop} {σ : Mem} {x0 x1 : Option Value} {u : Int32} : X z 163 19 [x0, x1, some (.int u)] (st) cu σ Q = (X z 163 20 [x0, x1, some (.int u)] (.int u :: st) cu σ Q) := by
  rw [x163_19]
  rfl
theorem v163_20 {z : P0} {st : List Value} {cu : Nat × Nat} {Q : Res → Mem → Prop} {σ : Mem} {x0 x1 x2 : Option Value} : X z 163 20 [x0, x1, x2] (st) cu σ Q = (X z 163 21 [x0, x1, x2] (.int (nI 0) :: st) cu σ Q) := by
  rw [x163_20]
  rfl
theorem v163_21 {z : P0} {st : List Value} {cu : Nat × Nat} {Q : Res → Mem → Prop} {σ : Mem} {x1 x2 : Option Value} {u : Nat} : X z 163 21 [some (.ref u), x1, x2] (st) cu σ Q = (X z 163 22 [some (.ref u), x1, x2] (.ref u :: st) cu σ Q) := by
  rw [x163_21]
  rfl
theorem v163_22 {z : P0} {st : List Value} {cu : Nat × Nat} {Q : Res → Mem → Prop} {K : Nat → Nat × Nat} {I : Nat → Nat → Int32} {R : Nat → Nat → Option Nat} {L : Nat → Nat → Int64} {sz : Nat} {ex : Bool} {x0 x1 x2 : Option Value} {u : Nat} : X z 163 22 [x0, x1, x2] (.ref u :: st) cu (K, I, R, L, sz, ex) Q = ((K u).1 = 111 ∧ X z 163 25 [x0, x1, x2] (va_rf (R u 8) :: st) cu (K, I, R, L, sz, ex) Q) := by
  rw [x163_22]
  rfl
theorem v163_25 {z : P0} {st : List Value} {cu : Nat × Nat} {Q : Res → Mem → Prop} {σ : Mem} {x0 x2 : Option Value} {u : Int32} : X z 163 25 [x0, some (.int u), x2] (st) cu σ Q = (X z 163 26 [x0, some (.int u), x2] (.int u :: st) cu σ Q) := by
  rw [x163_25]
  rfl
theorem v163_26 {z : P0} {st : List Value} {cu : Nat × Nat} {Q : Res → Mem → Prop} {K : Nat → Nat × Nat} {I : Nat → Nat → Int32} {R : Nat → Nat → Option Nat} {L : Nat → Nat → Int64} {sz : Nat} {ex : Bool} {x0 x1 x2 : Option Value} {u : Nat} {v : Int32} : X z 163 26 [x0, x1, x2] (.int v :: .ref u :: st) cu (K, I, R, L, sz, ex) Q = (((K u).1 = 20 ∨ (K u).1 = 50) ∧ vp_in v (K u).2 ∧ X z 163 27 [x0, x1, x2] (.int (I u v.toNatClampNeg) :: st) cu (K, I, R, L, sz, ex) Q) := by
  rw [x163_26]
  rfl
theorem v163_27 {z : P0} {st : List Value} {cu : Nat × Nat} {Q : Res → Mem → Prop} {σ : Mem} {x0 x1 x2 : Option Value} : X z 163 27 [x0, x1, x2] (st) cu σ Q = (X z 163 28 [x0, x1, x2] (.int (nI 1) :: st) cu σ Q) := by
  rw [x163_27]
  rfl
theorem v163_28 {z : P0} {st : List Value} {cu : Nat × Nat} {Q : Res → Mem → Prop} {σ : Mem} {x0 x1 x2 : Option Value} {u v : Int32} : X z 163 28 [x0, x1, x2] (.int v :: .int u :: st) cu σ Q = (X z 163 29 [x0, x1, x2] (.int (u - v) :: st) cu σ Q) := by
  rw [x163_28]
  rfl
theorem u163_29 {z : P0} {ls : Lcs} {st : List Value} {K : Nat → Nat × Nat} {I : Nat → Nat → Int32} {R : Nat → Nat → Option Nat} {L : Nat → Nat → Int64} {sz : Nat} {ex : Bool} {Q : Res → Mem → Prop} {a0 : Int32} {a1 : Int32} {a2 : Int32} : X z 163 29 ls (.int a2 :: .int a1 :: .int a0 :: st) (0, 0) (K, I, R, L, sz, ex) Q = (wsum st ≤ 8 ∧ X z 106 0 [some (.int a0), some (.int a1), some (.int a2)] [] (0, 0) (K, I, R, L, sz, ex) (aftr (X z) mT 163 29 ls st (0, 0) Q)) := v163_29 (c := 0) (n := 0)
theorem v163_32 {z : P0} {st : List Value} {cu : Nat × Nat} {Q : Res → Mem → Prop} {σ : Mem} {x0 x1 x2 : Option Value} {u : Int32} : X z 163 32 [x0, x1, x2] (.int u :: st) cu σ Q = (if u = nI 0 then X z 163 39 [x0, x1, x2] (st) cu σ Q else X z 163 35 [x0, x1, x2] (st) cu σ Q) := by
  rw [x163_32]
  rw [nI_0]
  obtain ⟨K, I, R, L, sz, ex⟩ := σ
  exact br_ite
theorem v163_35 {z : P0} {st : List Value} {cu : Nat × Nat} {Q : Res → Mem → Prop} {σ : Mem} {x0 x1 x2 : Option Value} : X z 163 35 [x0, x1, x2] (st) cu σ Q = (X z 163 36 [x0, x1, x2] (.int (nI 0) :: st) cu σ Q) := by
  rw [x163_35]
  rfl
theorem v163_36 {z : P0} {st : List Value} {cu : Nat × Nat} {Q : Res → Mem → Prop} {σ : Mem} {x0 x1 x2 : Option Value} : X z 163 36 [x0, x1, x2] (st) cu σ Q = (X z 163 40 [x0, x1, x2] (st) cu σ Q) := by
  rw [x163_36]
  rfl
theorem v163_39 {z : P0} {st : List Value} {cu : Nat × Nat} {Q : Res → Mem → Prop} {σ : Mem} {x0 x1 x2 : Option Value} : X z 163 39 [x0, x1, x2] (st) cu σ Q = (X z 163 40 [x0, x1, x2] (.int (nI 1) :: st) cu σ Q) := by
  rw [x163_39]
  rfl
theorem v163_40 {z : P0} {st : List Value} {cu : Nat × Nat} {Q : Res → Mem → Prop} {K : Nat → Nat × Nat} {I : Nat → Nat → Int32} {R : Nat → Nat → Option Nat} {L : Nat → Nat → Int64} {sz : Nat} {ex : Bool} {x0 x1 x2 : Option Value} {u : Nat} {v : Int32} : X z 163 40 [x0, x1, x2] (.int v :: .ref u :: st) cu (K, I, R, L, sz, ex) Q = ((K u).1 = 111 ∧ X z 163 43 [x0, x1, x2] (st) cu (K, up2 I u 5 v, R, L, sz, ex) Q) := by
  rw [x163_40]
  exact i_putI
theorem v163_43 {z : P0} {st : List Value} {cu : Nat × Nat} {Q : Res → Mem → Prop} {σ : Mem} {x1 x2 : Option Value} {u : Nat} : X z 163 43 [some (.ref u), x1, x2] (st) cu σ Q = (X z 163 44 [some (.ref u), x1, x2] (.ref u :: st) cu σ Q) := by
  rw [x163_43]
  rfl
theorem v163_44 {z : P0} {st : List Value} {cu : Nat × Nat} {Q : Res → Mem → Prop} {K : Nat → Nat × Nat} {I : Nat → Nat → Int32} {R : Nat → Nat → Option Nat} {L : Nat → Nat → Int64} {sz : Nat} {ex : Bool} {x0 x1 x2 : Option Value} {u : Nat} : X z 163 44 [x0, x1, x2] (.ref u :: st) cu (K, I, R, L, sz, ex) Q = ((K u).1 = 111 ∧ X z 163 47 [x0, x1, x2] (.int (I u 5) :: st) cu (K, I, R, L, sz, ex) Q) := by
  rw [x163_44]
  rfl
theorem v163_47 {z : P0} {st : List Value} {cu : Nat × Nat} {Q : Res → Mem → Prop} {σ : Mem} {x0 x1 x2 : Option Value} {u : Int32} : X z 163 47 [x0, x1, x2] (.int u :: st) cu σ Q = (if nI 0 < u then X z 163 50 [x0, x1, x2] (st) cu σ Q else X z 163 52 [x0, x1, x2] (st) cu σ Q) := by
  rw [x163_47]
  rw [nI_0]
  obtain ⟨K, I, R, L, sz, ex⟩ := σ
  exact br_ge
theorem v163_50 {z : P0} {st : List Value} {cu : Nat × Nat} {Q : Res → Mem → Prop} {σ : Mem} {x0 x1 x2 : Option Value} : X z 163 50 [x0, x1, x2] (st) cu σ Q = (X z 163 51 [x0, x1, x2] (.int (nI 0) :: st) cu σ Q) := by
  rw [x163_50]
  rfl
theorem v163_51 {z : P0} {cu : Nat × Nat} {Q : Res → Mem → Prop} {σ : Mem} {x0 x1 x2 : Option Value} {v : Int32} : X z 163 51 [x0, x1, x2] ([.int v]) cu σ Q = (Q (.inl (some (.int v))) σ) := by
  rw [x163_51]
  exact propext ⟨fun h => h.2, fun h => ⟨trivial, h⟩⟩
theorem v163_52 {z : P0} {st : List Value} {cu : Nat × Nat} {Q : Res → Mem → Prop} {σ : Mem} {x1 x2 : Option Value} {u : Nat} : X z 163 52 [some (.ref u), x1, x2] (st) cu σ Q = (X z 163 53 [some (.ref u), x1, x2] (.ref u :: st) cu σ Q) := by
  rw [x163_52]
  rfl
theorem v163_53 {z : P0} {st : List Value} {cu : Nat × Nat} {Q : Res → Mem → Prop} {σ : Mem} {x0 x2 : Option Value} {u : Int32} : X z 163 53 [x0, some (.int u), x2] (st) cu σ Q = (X z 163 54 [x0, some (.int u), x2] (.int u :: st) cu σ Q) := by
  rw [x163_53]
  rfl
theorem u163_54 {z : P0} {ls : Lcs} {st : List Value} {K : Nat → Nat × Nat} {I : Nat → Nat → Int32} {R : Nat → Nat → Option Nat} {L : Nat → Nat → Int64} {sz : Nat} {ex : Bool} {Q : Res → Mem → Prop} {x : Nat} {a0 : Int32} : X z 163 54 ls (.int a0 :: .ref x :: st) (0, 0) (K, I, R, L, sz, ex) Q = ((K x).1 = 111 ∧ wsum st ≤ 8 ∧ X z 124 0 [some (.ref x), some (.int a0), none, none, none] [] (0, 0) (K, I, R, L, sz, ex) (aftr (X z) mT 163 54 ls st (0, 0) Q)) := v163_54 (c := 0) (n := 0)
theorem v163_57 {z : P0} {st : List Value} {cu : Nat × Nat} {Q : Res → Mem → Prop} {σ : Mem} {x1 x2 : Option Value} {u : Nat} : X z 163 57 [some (.ref u), x1, x2] (st) cu σ Q = (X z 163 58 [some (.ref u), x1, x2] (.ref u :: st) cu σ Q) := by
  rw [x163_57]
  rfl
theorem v163_58 {z : P0} {st : List Value} {cu : Nat × Nat} {Q : Res → Mem → Prop} {K : Nat → Nat × Nat} {I : Nat → Nat → Int32} {R : Nat → Nat → Option Nat} {L : Nat → Nat → Int64} {sz : Nat} {ex : Bool} {x0 x1 x2 : Option Value} {u : Nat} : X z 163 58 [x0, x1, x2] (.ref u :: st) cu (K, I, R, L, sz, ex) Q = ((K u).1 = 111 ∧ X z 163 61 [x0, x1, x2] (va_rf (R u 13) :: st) cu (K, I, R, L, sz, ex) Q) := by
  rw [x163_58]
  rfl
theorem v163_61 {z : P0} {st : List Value} {cu : Nat × Nat} {Q : Res → Mem → Prop} {σ : Mem} {x0 x1 : Option Value} {u : Int32} : X z 163 61 [x0, x1, some (.int u)] (st) cu σ Q = (X z 163 62 [x0, x1, some (.int u)] (.int u :: st) cu σ Q) := by
  rw [x163_61]
  rfl
theorem v163_62 {z : P0} {st : List Value} {cu : Nat × Nat} {Q : Res → Mem → Prop} {K : Nat → Nat × Nat} {I : Nat → Nat → Int32} {R : Nat → Nat → Option Nat} {L : Nat → Nat → Int64} {sz : Nat} {ex : Bool} {x0 x1 x2 : Option Value} {u : Nat} {v : Int32} : X z 163 62 [x0, x1, x2] (.int v :: .ref u :: st) cu (K, I, R, L, sz, ex) Q = (((K u).1 = 20 ∨ (K u).1 = 50) ∧ vp_in v (K u).2 ∧ X z 163 63 [x0, x1, x2] (.int (I u v.toNatClampNeg) :: st) cu (K, I, R, L, sz, ex) Q) := by
  rw [x163_62]
  rfl
theorem v163_63 {z : P0} {cu : Nat × Nat} {Q : Res → Mem → Prop} {σ : Mem} {x0 x1 x2 : Option Value} {v : Int32} : X z 163 63 [x0, x1, x2] ([.int v]) cu σ Q = (Q (.inl (some (.int v))) σ) := by
  rw [x163_63]
  exact propext ⟨fun h => h.2, fun h => ⟨trivial, h⟩⟩
theorem v164_0 {z : P0} {st : List Value} {cu : Nat × Nat} {Q : Res → Mem → Prop} {σ : Mem} {x1 : Option Value} {u : Nat} : X z 164 0 [some (.ref u), x1] (st) cu σ Q = (X z 164 1 [some (.ref u), x1] (.ref u :: st) cu σ Q) := by
  rw [x164_0]
  rfl
theorem u164_1 {z : P0} {ls : Lcs} {st : List Value} {K : Nat → Nat × Nat} {I : Nat → Nat → Int32} {R : Nat → Nat → Option Nat} {L : Nat → Nat → Int64} {sz : Nat} {ex : Bool} {Q : Res → Mem → Prop} {x : Nat} : X z 164 1 ls (.ref x :: st) (0, 0) (K, I, R, L, sz, ex) Q = ((K x).1 = 111 ∧ wsum st ≤ 8 ∧ X z 130 0 [some (.ref x), none] [] (0, 0) (K, I, R, L, sz, ex) (aftr (X z) mT 164 1 ls st (0, 0) Q)) := v164_1 (c := 0) (n := 0)
theorem v164_4 {z : P0} {st : List Value} {cu : Nat × Nat} {Q : Res → Mem → Prop} {σ : Mem} {x1 : Option Value} {u : Nat} : X z 164 4 [some (.ref u), x1] (st) cu σ Q = (X z 164 5 [some (.ref u), x1] (.ref u :: st) cu σ Q) := by
  rw [x164_4]
  rfl
theorem v164_5 {z : P0} {st : List Value} {cu : Nat × Nat} {Q : Res → Mem → Prop} {σ : Mem} {x0 : Option Value} {u : Int32} : X z 164 5 [x0, some (.int u)] (st) cu σ Q = (X z 164 6 [x0, some (.int u)] (.int u :: st) cu σ Q) := by
  rw [x164_5]
  rfl
theorem v164_6 {z : P0} {st : List Value} {cu : Nat × Nat} {Q : Res → Mem → Prop} {σ : Mem} {x0 x1 : Option Value} : X z 164 6 [x0, x1] (st) cu σ Q = (X z 164 7 [x0, x1] (.int (nI 0) :: st) cu σ Q) := by
  rw [x164_6]
  rfl
theorem v164_7 {z : P0} {st : List Value} {cu : Nat × Nat} {Q : Res → Mem → Prop} {σ : Mem} {x1 : Option Value} {u : Nat} : X z 164 7 [some (.ref u), x1] (st) cu σ Q = (X z 164 8 [some (.ref u), x1] (.ref u :: st) cu σ Q) := by
  rw [x164_7]
  rfl
theorem v164_8 {z : P0} {st : List Value} {cu : Nat × Nat} {Q : Res → Mem → Prop} {K : Nat → Nat × Nat} {I : Nat → Nat → Int32} {R : Nat → Nat → Option Nat} {L : Nat → Nat → Int64} {sz : Nat} {ex : Bool} {x0 x1 : Option Value} {u : Nat} : X z 164 8 [x0, x1] (.ref u :: st) cu (K, I, R, L, sz, ex) Q = ((K u).1 = 111 ∧ X z 164 11 [x0, x1] (.int (I u 12) :: st) cu (K, I, R, L, sz, ex) Q) := by
  rw [x164_8]
  rfl
theorem v164_11 {z : P0} {st : List Value} {cu : Nat × Nat} {Q : Res → Mem → Prop} {σ : Mem} {x0 x1 : Option Value} : X z 164 11 [x0, x1] (st) cu σ Q = (X z 164 12 [x0, x1] (.int (nI 1) :: st) cu σ Q) := by
  rw [x164_11]
  rfl
theorem v164_12 {z : P0} {st : List Value} {cu : Nat × Nat} {Q : Res → Mem → Prop} {σ : Mem} {x0 x1 : Option Value} {u v : Int32} : X z 164 12 [x0, x1] (.int v :: .int u :: st) cu σ Q = (X z 164 13 [x0, x1] (.int (u - v) :: st) cu σ Q) := by
  rw [x164_12]
  rfl
theorem u164_13 {z : P0} {ls : Lcs} {st : List Value} {K : Nat → Nat × Nat} {I : Nat → Nat → Int32} {R : Nat → Nat → Option Nat} {L : Nat → Nat → Int64} {sz : Nat} {ex : Bool} {Q : Res → Mem → Prop} {a0 : Int32} {a1 : Int32} {a2 : Int32} : X z 164 13 ls (.int a2 :: .int a1 :: .int a0 :: st) (0, 0) (K, I, R, L, sz, ex) Q = (wsum st ≤ 8 ∧ X z 106 0 [some (.int a0), some (.int a1), some (.int a2)] [] (0, 0) (K, I, R, L, sz, ex) (aftr (X z) mT 164 13 ls st (0, 0) Q)) := v164_13 (c := 0) (n := 0)
theorem v164_16 {z : P0} {st : List Value} {cu : Nat × Nat} {Q : Res → Mem → Prop} {σ : Mem} {x0 x1 : Option Value} {u : Int32} : X z 164 16 [x0, x1] (.int u :: st) cu σ Q = (if u = nI 0 then X z 164 23 [x0, x1] (st) cu σ Q else X z 164 19 [x0, x1] (st) cu σ Q) := by
  rw [x164_16]
  rw [nI_0]
  obtain ⟨K, I, R, L, sz, ex⟩ := σ
  exact br_ite
theorem v164_19 {z : P0} {st : List Value} {cu : Nat × Nat} {Q : Res → Mem → Prop} {σ : Mem} {x0 x1 : Option Value} : X z 164 19 [x0, x1] (st) cu σ Q = (X z 164 20 [x0, x1] (.int (nI 0) :: st) cu σ Q) := by
  rw [x164_19]
  rfl
theorem v164_20 {z : P0} {st : List Value} {cu : Nat × Nat} {Q : Res → Mem → Prop} {σ : Mem} {x0 x1 : Option Value} : X z 164 20 [x0, x1] (st) cu σ Q = (X z 164 24 [x0, x1] (st) cu σ Q) := by
  rw [x164_20]
  rfl
theorem v164_23 {z : P0} {st : List Value} {cu : Nat × Nat} {Q : Res → Mem → Prop} {σ : Mem} {x0 x1 : Option Value} : X z 164 23 [x0, x1] (st) cu σ Q = (X z 164 24 [x0, x1] (.int (nI 1) :: st) cu σ Q) := by
  rw [x164_23]
  rfl
theorem v164_24 {z : P0} {st : List Value} {cu : Nat × Nat} {Q : Res → Mem → Prop} {K : Nat → Nat × Nat} {I : Nat → Nat → Int32} {R : Nat → Nat → Option Nat} {L : Nat → Nat → Int64} {sz : Nat} {ex : Bool} {x0 x1 : Option Value} {u : Nat} {v : Int32} : X z 164 24 [x0, x1] (.int v :: .ref u :: st) cu (K, I, R, L, sz, ex) Q = ((K u).1 = 111 ∧ X z 164 27 [x0, x1] (st) cu (K, up2 I u 5 v, R, L, sz, ex) Q) := by
  rw [x164_24]
  exact i_putI
theorem v164_27 {z : P0} {st : List Value} {cu : Nat × Nat} {Q : Res → Mem → Prop} {σ : Mem} {x1 : Option Value} {u : Nat} : X z 164 27 [some (.ref u), x1] (st) cu σ Q = (X z 164 28 [some (.ref u), x1] (.ref u :: st) cu σ Q) := by
  rw [x164_27]
  rfl
theorem v164_28 {z : P0} {st : List Value} {cu : Nat × Nat} {Q : Res → Mem → Prop} {K : Nat → Nat × Nat} {I : Nat → Nat → Int32} {R : Nat → Nat → Option Nat} {L : Nat → Nat → Int64} {sz : Nat} {ex : Bool} {x0 x1 : Option Value} {u : Nat} : X z 164 28 [x0, x1] (.ref u :: st) cu (K, I, R, L, sz, ex) Q = ((K u).1 = 111 ∧ X z 164 31 [x0, x1] (.int (I u 5) :: st) cu (K, I, R, L, sz, ex) Q) := by
  rw [x164_28]
  rfl
theorem v164_31 {z : P0} {st : List Value} {cu : Nat × Nat} {Q : Res → Mem → Prop} {σ : Mem} {x0 x1 : Option Value} {u : Int32} : X z 164 31 [x0, x1] (.int u :: st) cu σ Q = (if nI 0 < u then X z 164 34 [x0, x1] (st) cu σ Q else X z 164 38 [x0, x1] (st) cu σ Q) := by
  rw [x164_31]
  rw [nI_0]
  obtain ⟨K, I, R, L, sz, ex⟩ := σ
  exact br_ge
theorem v164_34 {z : P0} {st : List Value} {cu : Nat × Nat} {Q : Res → Mem → Prop} {σ : Mem} {x0 x1 : Option Value} : X z 164 34 [x0, x1] (st) cu σ Q = (X z 164 35 [x0, x1] (.int (nI 0) :: st) cu σ Q) := by
  rw [x164_34]
  rfl
theorem v164_35 {z : P0} {st : List Value} {cu : Nat × Nat} {Q : Res → Mem → Prop} {σ : Mem} {x0 x1 : Option Value} : X z 164 35 [x0, x1] (st) cu σ Q = (X z 164 44 [x0, x1] (st) cu σ Q) := by
  rw [x164_35]
  rfl
theorem v164_38 {z : P0} {st : List Value} {cu : Nat × Nat} {Q : Res → Mem → Prop} {σ : Mem} {x1 : Option Value} {u : Nat} : X z 164 38 [some (.ref u), x1] (st) cu σ Q = (X z 164 39 [some (.ref u), x1] (.ref u :: st) cu σ Q) := by
  rw [x164_38]
  rfl
theorem v164_39 {z : P0} {st : List Value} {cu : Nat × Nat} {Q : Res → Mem → Prop} {K : Nat → Nat × Nat} {I : Nat → Nat → Int32} {R : Nat → Nat → Option Nat} {L : Nat → Nat → Int64} {sz : Nat} {ex : Bool} {x0 x1 : Option Value} {u : Nat} : X z 164 39 [x0, x1] (.ref u :: st) cu (K, I, R, L, sz, ex) Q = ((K u).1 = 111 ∧ X z 164 42 [x0, x1] (va_rf (R u 6) :: st) cu (K, I, R, L, sz, ex) Q) := by
  rw [x164_39]
  rfl
theorem v164_42 {z : P0} {st : List Value} {cu : Nat × Nat} {Q : Res → Mem → Prop} {σ : Mem} {x0 : Option Value} {u : Int32} : X z 164 42 [x0, some (.int u)] (st) cu σ Q = (X z 164 43 [x0, some (.int u)] (.int u :: st) cu σ Q) := by
  rw [x164_42]
  rfl
theorem v164_43 {z : P0} {st : List Value} {cu : Nat × Nat} {Q : Res → Mem → Prop} {K : Nat → Nat × Nat} {I : Nat → Nat → Int32} {R : Nat → Nat → Option Nat} {L : Nat → Nat → Int64} {sz : Nat} {ex : Bool} {x0 x1 : Option Value} {u : Nat} {v : Int32} : X z 164 43 [x0, x1] (.int v :: .ref u :: st) cu (K, I, R, L, sz, ex) Q = (((K u).1 = 20 ∨ (K u).1 = 50) ∧ vp_in v (K u).2 ∧ X z 164 44 [x0, x1] (.int (I u v.toNatClampNeg) :: st) cu (K, I, R, L, sz, ex) Q) := by
  rw [x164_43]
  rfl
theorem v164_44 {z : P0} {cu : Nat × Nat} {Q : Res → Mem → Prop} {σ : Mem} {x0 x1 : Option Value} {v : Int32} : X z 164 44 [x0, x1] ([.int v]) cu σ Q = (Q (.inl (some (.int v))) σ) := by
  rw [x164_44]
  exact propext ⟨fun h => h.2, fun h => ⟨trivial, h⟩⟩
theorem v165_0 {z : P0} {st : List Value} {cu : Nat × Nat} {Q : Res → Mem → Prop} {σ : Mem} {x0 : Option Value} {u : Int32} : X z 165 0 [x0, some (.int u)] (st) cu σ Q = (X z 165 1 [x0, some (.int u)] (.int u :: st) cu σ Q) := by
  rw [x165_0]
  rfl
theorem w165_1_0 {z : P0} {st : List Value} {cu : Nat × Nat} {Q : Res → Mem → Prop} {σ : Mem} {x0 x1 : Option Value} : X z 165 1 [x0, x1] (.int (nI 0) :: st) cu σ Q = (X z 165 72 [x0, x1] (st) cu σ Q) := by
  rw [x165_1]
  exact tsw_in (j := 0) (by decide) (by decide) (by decide) rfl
theorem w165_1_1 {z : P0} {st : List Value} {cu : Nat × Nat} {Q : Res → Mem → Prop} {σ : Mem} {x0 x1 : Option Value} : X z 165 1 [x0, x1] (.int (nI 1) :: st) cu σ Q = (X z 165 80 [x0, x1] (st) cu σ Q) := by
  rw [x165_1]
  exact tsw_in (j := 1) (by decide) (by decide) (by decide) rfl
theorem w165_1_2 {z : P0} {st : List Value} {cu : Nat × Nat} {Q : Res → Mem → Prop} {σ : Mem} {x0 x1 : Option Value} : X z 165 1 [x0, x1] (.int (nI 2) :: st) cu σ Q = (X z 165 88 [x0, x1] (st) cu σ Q) := by
  rw [x165_1]
  exact tsw_in (j := 2) (by decide) (by decide) (by decide) rfl
theorem w165_1_3 {z : P0} {st : List Value} {cu : Nat × Nat} {Q : Res → Mem → Prop} {σ : Mem} {x0 x1 : Option Value} : X z 165 1 [x0, x1] (.int (nI 3) :: st) cu σ Q = (X z 165 93 [x0, x1] (st) cu σ Q) := by
  rw [x165_1]
  exact tsw_in (j := 3) (by decide) (by decide) (by decide) rfl
theorem w165_1_4 {z : P0} {st : List Value} {cu : Nat × Nat} {Q : Res → Mem → Prop} {σ : Mem} {x0 x1 : Option Value} : X z 165 1 [x0, x1] (.int (nI 4) :: st) cu σ Q = (X z 165 101 [x0, x1] (st) cu σ Q) := by
  rw [x165_1]
  exact tsw_in (j := 4) (by decide) (by decide) (by decide) rfl
theorem w165_1_5 {z : P0} {st : List Value} {cu : Nat × Nat} {Q : Res → Mem → Prop} {σ : Mem} {x0 x1 : Option Value} : X z 165 1 [x0, x1] (.int (nI 5) :: st) cu σ Q = (X z 165 106 [x0, x1] (st) cu σ Q) := by
  rw [x165_1]
  exact tsw_in (j := 5) (by decide) (by decide) (by decide) rfl
theorem w165_1_6 {z : P0} {st : List Value} {cu : Nat × Nat} {Q : Res → Mem → Prop} {σ : Mem} {x0 x1 : Option Value} : X z 165 1 [x0, x1] (.int (nI 6) :: st) cu σ Q = (X z 165 106 [x0, x1] (st) cu σ Q) := by
  rw [x165_1]
  exact tsw_in (j := 6) (by decide) (by decide) (by decide) rfl
theorem w165_1_7 {z : P0} {st : List Value} {cu : Nat × Nat} {Q : Res → Mem → Prop} {σ : Mem} {x0 x1 : Option Value} : X z 165 1 [x0, x1] (.int (nI 7) :: st) cu σ Q = (X z 165 106 [x0, x1] (st) cu σ Q) := by
  rw [x165_1]
  exact tsw_in (j := 7) (by decide) (by decide) (by decide) rfl
theorem w165_1_8 {z : P0} {st : List Value} {cu : Nat × Nat} {Q : Res → Mem → Prop} {σ : Mem} {x0 x1 : Option Value} : X z 165 1 [x0, x1] (.int (nI 8) :: st) cu σ Q = (X z 165 106 [x0, x1] (st) cu σ Q) := by
  rw [x165_1]
  exact tsw_in (j := 8) (by decide) (by decide) (by decide) rfl
theorem w165_1_9 {z : P0} {st : List Value} {cu : Nat × Nat} {Q : Res → Mem → Prop} {σ : Mem} {x0 x1 : Option Value} : X z 165 1 [x0, x1] (.int (nI 9) :: st) cu σ Q = (X z 165 114 [x0, x1] (st) cu σ Q) := by
  rw [x165_1]
  exact tsw_in (j := 9) (by decide) (by decide) (by decide) rfl
theorem w165_1_10 {z : P0} {st : List Value} {cu : Nat × Nat} {Q : Res → Mem → Prop} {σ : Mem} {x0 x1 : Option Value} : X z 165 1 [x0, x1] (.int (nI 10) :: st) cu σ Q = (X z 165 122 [x0, x1] (st) cu σ Q) := by
  rw [x165_1]
  exact tsw_in (j := 10) (by decide) (by decide) (by decide) rfl
theorem w165_1_11 {z : P0} {st : List Value} {cu : Nat × Nat} {Q : Res → Mem → Prop} {σ : Mem} {x0 x1 : Option Value} : X z 165 1 [x0, x1] (.int (nI 11) :: st) cu σ Q = (X z 165 130 [x0, x1] (st) cu σ Q) := by
  rw [x165_1]
  exact tsw_in (j := 11) (by decide) (by decide) (by decide) rfl
theorem w165_1_12 {z : P0} {st : List Value} {cu : Nat × Nat} {Q : Res → Mem → Prop} {σ : Mem} {x0 x1 : Option Value} : X z 165 1 [x0, x1] (.int (nI 12) :: st) cu σ Q = (X z 165 138 [x0, x1] (st) cu σ Q) := by
  rw [x165_1]
  exact tsw_in (j := 12) (by decide) (by decide) (by decide) rfl
theorem w165_1_13 {z : P0} {st : List Value} {cu : Nat × Nat} {Q : Res → Mem → Prop} {σ : Mem} {x0 x1 : Option Value} : X z 165 1 [x0, x1] (.int (nI 13) :: st) cu σ Q = (X z 165 143 [x0, x1] (st) cu σ Q) := by
  rw [x165_1]
  exact tsw_in (j := 13) (by decide) (by decide) (by decide) rfl
theorem w165_1_d {z : P0} {st : List Value} {cu : Nat × Nat} {Q : Res → Mem → Prop} {σ : Mem} {x0 x1 : Option Value} {j : Nat} (h : 13 < j ∧ j < 2147483648) : X z 165 1 [x0, x1] (.int (nI j) :: st) cu σ Q = (X z 165 158 [x0, x1] (st) cu σ Q) := by
  rw [x165_1]
  exact tsw_out (Or.inr (by rw [nI_toInt h.2]; omega))
theorem v165_72 {z : P0} {st : List Value} {cu : Nat × Nat} {Q : Res → Mem → Prop} {σ : Mem} {x1 : Option Value} {u : Nat} : X z 165 72 [some (.ref u), x1] (st) cu σ Q = (X z 165 73 [some (.ref u), x1] (.ref u :: st) cu σ Q) := by
  rw [x165_72]
  rfl
theorem v165_73 {z : P0} {st : List Value} {cu : Nat × Nat} {Q : Res → Mem → Prop} {K : Nat → Nat × Nat} {I : Nat → Nat → Int32} {R : Nat → Nat → Option Nat} {L : Nat → Nat → Int64} {sz : Nat} {ex : Bool} {x0 x1 : Option Value} {u : Nat} : X z 165 73 [x0, x1] (.ref u :: st) cu (K, I, R, L, sz, ex) Q = ((K u).1 = 111 ∧ X z 165 76 [x0, x1] (va_rf (R u 0) :: st) cu (K, I, R, L, sz, ex) Q) := by
  rw [x165_73]
  rfl
theorem v165_76 {z : P0} {st : List Value} {cu : Nat × Nat} {Q : Res → Mem → Prop} {σ : Mem} {x0 x1 : Option Value} : X z 165 76 [x0, x1] (st) cu σ Q = (X z 165 78 [x0, x1] (.int (nI 6) :: st) cu σ Q) := by
  rw [x165_76]
  rfl
theorem v165_78 {z : P0} {st : List Value} {cu : Nat × Nat} {Q : Res → Mem → Prop} {K : Nat → Nat × Nat} {I : Nat → Nat → Int32} {R : Nat → Nat → Option Nat} {L : Nat → Nat → Int64} {sz : Nat} {ex : Bool} {x0 x1 : Option Value} {u : Nat} {v : Int32} : X z 165 78 [x0, x1] (.int v :: .ref u :: st) cu (K, I, R, L, sz, ex) Q = (((K u).1 = 20 ∨ (K u).1 = 50) ∧ vp_in v (K u).2 ∧ X z 165 79 [x0, x1] (.int (I u v.toNatClampNeg) :: st) cu (K, I, R, L, sz, ex) Q) := by
  rw [x165_78]
  rfl
theorem v165_79 {z : P0} {cu : Nat × Nat} {Q : Res → Mem → Prop} {σ : Mem} {x0 x1 : Option Value} {v : Int32} : X z 165 79 [x0, x1] ([.int v]) cu σ Q = (Q (.inl (some (.int v))) σ) := by
  rw [x165_79]
  exact propext ⟨fun h => h.2, fun h => ⟨trivial, h⟩⟩
theorem v165_80 {z : P0} {st : List Value} {cu : Nat × Nat} {Q : Res → Mem → Prop} {σ : Mem} {x1 : Option Value} {u : Nat} : X z 165 80 [some (.ref u), x1] (st) cu σ Q = (X z 165 81 [some (.ref u), x1] (.ref u :: st) cu σ Q) := by
  rw [x165_80]
  rfl
theorem v165_81 {z : P0} {st : List Value} {cu : Nat × Nat} {Q : Res → Mem → Prop} {K : Nat → Nat × Nat} {I : Nat → Nat → Int32} {R : Nat → Nat → Option Nat} {L : Nat → Nat → Int64} {sz : Nat} {ex : Bool} {x0 x1 : Option Value} {u : Nat} : X z 165 81 [x0, x1] (.ref u :: st) cu (K, I, R, L, sz, ex) Q = ((K u).1 = 111 ∧ X z 165 84 [x0, x1] (va_rf (R u 0) :: st) cu (K, I, R, L, sz, ex) Q) := by
  rw [x165_81]
  rfl
theorem v165_84 {z : P0} {st : List Value} {cu : Nat × Nat} {Q : Res → Mem → Prop} {σ : Mem} {x0 x1 : Option Value} : X z 165 84 [x0, x1] (st) cu σ Q = (X z 165 86 [x0, x1] (.int (nI 7) :: st) cu σ Q) := by
  rw [x165_84]
  rfl
theorem v165_86 {z : P0} {st : List Value} {cu : Nat × Nat} {Q : Res → Mem → Prop} {K : Nat → Nat × Nat} {I : Nat → Nat → Int32} {R : Nat → Nat → Option Nat} {L : Nat → Nat → Int64} {sz : Nat} {ex : Bool} {x0 x1 : Option Value} {u : Nat} {v : Int32} : X z 165 86 [x0, x1] (.int v :: .ref u :: st) cu (K, I, R, L, sz, ex) Q = (((K u).1 = 20 ∨ (K u).1 = 50) ∧ vp_in v (K u).2 ∧ X z 165 87 [x0, x1] (.int (I u v.toNatClampNeg) :: st) cu (K, I, R, L, sz, ex) Q) := by
  rw [x165_86]
  rfl
theorem v165_87 {z : P0} {cu : Nat × Nat} {Q : Res → Mem → Prop} {σ : Mem} {x0 x1 : Option Value} {v : Int32} : X z 165 87 [x0, x1] ([.int v]) cu σ Q = (Q (.inl (some (.int v))) σ) := by
  rw [x165_87]
  exact propext ⟨fun h => h.2, fun h => ⟨trivial, h⟩⟩
theorem v165_88 {z : P0} {st : List Value} {cu : Nat × Nat} {Q : Res → Mem → Prop} {σ : Mem} {x1 : Option Value} {u : Nat} : X z 165 88 [some (.ref u), x1] (st) cu σ Q = (X z 165 89 [some (.ref u), x1] (.ref u :: st) cu σ Q) := by
  rw [x165_88]
  rfl
theorem u165_89 {z : P0} {ls : Lcs} {st : List Value} {K : Nat → Nat × Nat} {I : Nat → Nat → Int32} {R : Nat → Nat → Option Nat} {L : Nat → Nat → Int64} {sz : Nat} {ex : Bool} {Q : Res → Mem → Prop} {x : Nat} : X z 165 89 ls (.ref x :: st) (0, 0) (K, I, R, L, sz, ex) Q = ((K x).1 = 111 ∧ wsum st ≤ 8 ∧ X z 111 0 [some (.ref x), none, none] [] (0, 0) (K, I, R, L, sz, ex) (aftr (X z) mT 165 89 ls st (0, 0) Q)) := v165_89 (c := 0) (n := 0)
theorem v165_92 {z : P0} {cu : Nat × Nat} {Q : Res → Mem → Prop} {σ : Mem} {x0 x1 : Option Value} {v : Int32} : X z 165 92 [x0, x1] ([.int v]) cu σ Q = (Q (.inl (some (.int v))) σ) := by
  rw [x165_92]
  exact propext ⟨fun h => h.2, fun h => ⟨trivial, h⟩⟩
theorem v165_93 {z : P0} {st : List Value} {cu : Nat × Nat} {Q : Res → Mem → Prop} {σ : Mem} {x1 : Option Value} {u : Nat} : X z 165 93 [some (.ref u), x1] (st) cu σ Q = (X z 165 94 [some (.ref u), x1] (.ref u :: st) cu σ Q) := by
  rw [x165_93]
  rfl
theorem v165_94 {z : P0} {st : List Value} {cu : Nat × Nat} {Q : Res → Mem → Prop} {K : Nat → Nat × Nat} {I : Nat → Nat → Int32} {R : Nat → Nat → Option Nat} {L : Nat → Nat → Int64} {sz : Nat} {ex : Bool} {x0 x1 : Option Value} {u : Nat} : X z 165 94 [x0, x1] (.ref u :: st) cu (K, I, R, L, sz, ex) Q = ((K u).1 = 111 ∧ X z 165 97 [x0, x1] (va_rf (R u 0) :: st) cu (K, I, R, L, sz, ex) Q) := by
  rw [x165_94]
  rfl
theorem v165_97 {z : P0} {st : List Value} {cu : Nat × Nat} {Q : Res → Mem → Prop} {σ : Mem} {x0 x1 : Option Value} : X z 165 97 [x0, x1] (st) cu σ Q = (X z 165 99 [x0, x1] (.int (nI 8) :: st) cu σ Q) := by
  rw [x165_97]
  rfl
theorem v165_99 {z : P0} {st : List Value} {cu : Nat × Nat} {Q : Res → Mem → Prop} {K : Nat → Nat × Nat} {I : Nat → Nat → Int32} {R : Nat → Nat → Option Nat} {L : Nat → Nat → Int64} {sz : Nat} {ex : Bool} {x0 x1 : Option Value} {u : Nat} {v : Int32} : X z 165 99 [x0, x1] (.int v :: .ref u :: st) cu (K, I, R, L, sz, ex) Q = (((K u).1 = 20 ∨ (K u).1 = 50) ∧ vp_in v (K u).2 ∧ X z 165 100 [x0, x1] (.int (I u v.toNatClampNeg) :: st) cu (K, I, R, L, sz, ex) Q) := by
  rw [x165_99]
  rfl
theorem v165_100 {z : P0} {cu : Nat × Nat} {Q : Res → Mem → Prop} {σ : Mem} {x0 x1 : Option Value} {v : Int32} : X z 165 100 [x0, x1] ([.int v]) cu σ Q = (Q (.inl (some (.int v))) σ) := by
  rw [x165_100]
  exact propext ⟨fun h => h.2, fun h => ⟨trivial, h⟩⟩
theorem v165_101 {z : P0} {st : List Value} {cu : Nat × Nat} {Q : Res → Mem → Prop} {σ : Mem} {x1 : Option Value} {u : Nat} : X z 165 101 [some (.ref u), x1] (st) cu σ Q = (X z 165 102 [some (.ref u), x1] (.ref u :: st) cu σ Q) := by
  rw [x165_101]
  rfl
theorem v165_102 {z : P0} {st : List Value} {cu : Nat × Nat} {Q : Res → Mem → Prop} {K : Nat → Nat × Nat} {I : Nat → Nat → Int32} {R : Nat → Nat → Option Nat} {L : Nat → Nat → Int64} {sz : Nat} {ex : Bool} {x0 x1 : Option Value} {u : Nat} : X z 165 102 [x0, x1] (.ref u :: st) cu (K, I, R, L, sz, ex) Q = ((K u).1 = 111 ∧ X z 165 105 [x0, x1] (.int (I u 12) :: st) cu (K, I, R, L, sz, ex) Q) := by
  rw [x165_102]
  rfl
theorem v165_105 {z : P0} {cu : Nat × Nat} {Q : Res → Mem → Prop} {σ : Mem} {x0 x1 : Option Value} {v : Int32} : X z 165 105 [x0, x1] ([.int v]) cu σ Q = (Q (.inl (some (.int v))) σ) := by
  rw [x165_105]
  exact propext ⟨fun h => h.2, fun h => ⟨trivial, h⟩⟩
theorem v165_106 {z : P0} {st : List Value} {cu : Nat × Nat} {Q : Res → Mem → Prop} {σ : Mem} {x1 : Option Value} {u : Nat} : X z 165 106 [some (.ref u), x1] (st) cu σ Q = (X z 165 107 [some (.ref u), x1] (.ref u :: st) cu σ Q) := by
  rw [x165_106]
  rfl
theorem v165_107 {z : P0} {st : List Value} {cu : Nat × Nat} {Q : Res → Mem → Prop} {σ : Mem} {x0 : Option Value} {u : Int32} : X z 165 107 [x0, some (.int u)] (st) cu σ Q = (X z 165 108 [x0, some (.int u)] (.int u :: st) cu σ Q) := by
  rw [x165_107]
  rfl
theorem v165_108 {z : P0} {st : List Value} {cu : Nat × Nat} {Q : Res → Mem → Prop} {σ : Mem} {x0 x1 : Option Value} : X z 165 108 [x0, x1] (st) cu σ Q = (X z 165 109 [x0, x1] (.int (nI 5) :: st) cu σ Q) := by
  rw [x165_108]
  rfl
theorem v165_109 {z : P0} {st : List Value} {cu : Nat × Nat} {Q : Res → Mem → Prop} {σ : Mem} {x0 x1 : Option Value} {u v : Int32} : X z 165 109 [x0, x1] (.int v :: .int u :: st) cu σ Q = (X z 165 110 [x0, x1] (.int (u - v) :: st) cu σ Q) := by
  rw [x165_109]
  rfl
theorem u165_110 {z : P0} {ls : Lcs} {st : List Value} {K : Nat → Nat × Nat} {I : Nat → Nat → Int32} {R : Nat → Nat → Option Nat} {L : Nat → Nat → Int64} {sz : Nat} {ex : Bool} {Q : Res → Mem → Prop} {x : Nat} {a0 : Int32} : X z 165 110 ls (.int a0 :: .ref x :: st) (0, 0) (K, I, R, L, sz, ex) Q = ((K x).1 = 111 ∧ wsum st ≤ 8 ∧ X z 132 0 [some (.ref x), some (.int a0), none, none, none] [] (0, 0) (K, I, R, L, sz, ex) (aftr (X z) mT 165 110 ls st (0, 0) Q)) := v165_110 (c := 0) (n := 0)
theorem v165_113 {z : P0} {cu : Nat × Nat} {Q : Res → Mem → Prop} {σ : Mem} {x0 x1 : Option Value} {v : Int32} : X z 165 113 [x0, x1] ([.int v]) cu σ Q = (Q (.inl (some (.int v))) σ) := by
  rw [x165_113]
  exact propext ⟨fun h => h.2, fun h => ⟨trivial, h⟩⟩
theorem v165_114 {z : P0} {st : List Value} {cu : Nat × Nat} {Q : Res → Mem → Prop} {σ : Mem} {x1 : Option Value} {u : Nat} : X z 165 114 [some (.ref u), x1] (st) cu σ Q = (X z 165 115 [some (.ref u), x1] (.ref u :: st) cu σ Q) := by
  rw [x165_114]
  rfl
theorem v165_115 {z : P0} {st : List Value} {cu : Nat × Nat} {Q : Res → Mem → Prop} {K : Nat → Nat × Nat} {I : Nat → Nat → Int32} {R : Nat → Nat → Option Nat} {L : Nat → Nat → Int64} {sz : Nat} {ex : Bool} {x0 x1 : Option Value} {u : Nat} : X z 165 115 [x0, x1] (.ref u :: st) cu (K, I, R, L, sz, ex) Q = ((K u).1 = 111 ∧ X z 165 118 [x0, x1] (va_rf (R u 0) :: st) cu (K, I, R, L, sz, ex) Q) := by
  rw [x165_115]
  rfl
theorem v165_118 {z : P0} {st : List Value} {cu : Nat × Nat} {Q : Res → Mem → Prop} {σ : Mem} {x0 x1 : Option Value} : X z 165 118 [x0, x1] (st) cu σ Q = (X z 165 120 [x0, x1] (.int (nI 9) :: st) cu σ Q) := by
  rw [x165_118]
  rfl
theorem v165_120 {z : P0} {st : List Value} {cu : Nat × Nat} {Q : Res → Mem → Prop} {K : Nat → Nat × Nat} {I : Nat → Nat → Int32} {R : Nat → Nat → Option Nat} {L : Nat → Nat → Int64} {sz : Nat} {ex : Bool} {x0 x1 : Option Value} {u : Nat} {v : Int32} : X z 165 120 [x0, x1] (.int v :: .ref u :: st) cu (K, I, R, L, sz, ex) Q = (((K u).1 = 20 ∨ (K u).1 = 50) ∧ vp_in v (K u).2 ∧ X z 165 121 [x0, x1] (.int (I u v.toNatClampNeg) :: st) cu (K, I, R, L, sz, ex) Q) := by
  rw [x165_120]
  rfl
theorem v165_121 {z : P0} {cu : Nat × Nat} {Q : Res → Mem → Prop} {σ : Mem} {x0 x1 : Option Value} {v : Int32} : X z 165 121 [x0, x1] ([.int v]) cu σ Q = (Q (.inl (some (.int v))) σ) := by
  rw [x165_121]
  exact propext ⟨fun h => h.2, fun h => ⟨trivial, h⟩⟩
theorem v165_122 {z : P0} {st : List Value} {cu : Nat × Nat} {Q : Res → Mem → Prop} {σ : Mem} {x1 : Option Value} {u : Nat} : X z 165 122 [some (.ref u), x1] (st) cu σ Q = (X z 165 123 [some (.ref u), x1] (.ref u :: st) cu σ Q) := by
  rw [x165_122]
  rfl
theorem v165_123 {z : P0} {st : List Value} {cu : Nat × Nat} {Q : Res → Mem → Prop} {K : Nat → Nat × Nat} {I : Nat → Nat → Int32} {R : Nat → Nat → Option Nat} {L : Nat → Nat → Int64} {sz : Nat} {ex : Bool} {x0 x1 : Option Value} {u : Nat} : X z 165 123 [x0, x1] (.ref u :: st) cu (K, I, R, L, sz, ex) Q = ((K u).1 = 111 ∧ X z 165 126 [x0, x1] (va_rf (R u 0) :: st) cu (K, I, R, L, sz, ex) Q) := by
  rw [x165_123]
  rfl
theorem v165_126 {z : P0} {st : List Value} {cu : Nat × Nat} {Q : Res → Mem → Prop} {σ : Mem} {x0 x1 : Option Value} : X z 165 126 [x0, x1] (st) cu σ Q = (X z 165 128 [x0, x1] (.int (nI 10) :: st) cu σ Q) := by
  rw [x165_126]
  rfl
theorem v165_128 {z : P0} {st : List Value} {cu : Nat × Nat} {Q : Res → Mem → Prop} {K : Nat → Nat × Nat} {I : Nat → Nat → Int32} {R : Nat → Nat → Option Nat} {L : Nat → Nat → Int64} {sz : Nat} {ex : Bool} {x0 x1 : Option Value} {u : Nat} {v : Int32} : X z 165 128 [x0, x1] (.int v :: .ref u :: st) cu (K, I, R, L, sz, ex) Q = (((K u).1 = 20 ∨ (K u).1 = 50) ∧ vp_in v (K u).2 ∧ X z 165 129 [x0, x1] (.int (I u v.toNatClampNeg) :: st) cu (K, I, R, L, sz, ex) Q) := by
  rw [x165_128]
  rfl
theorem v165_129 {z : P0} {cu : Nat × Nat} {Q : Res → Mem → Prop} {σ : Mem} {x0 x1 : Option Value} {v : Int32} : X z 165 129 [x0, x1] ([.int v]) cu σ Q = (Q (.inl (some (.int v))) σ) := by
  rw [x165_129]
  exact propext ⟨fun h => h.2, fun h => ⟨trivial, h⟩⟩
theorem v165_130 {z : P0} {st : List Value} {cu : Nat × Nat} {Q : Res → Mem → Prop} {σ : Mem} {x1 : Option Value} {u : Nat} : X z 165 130 [some (.ref u), x1] (st) cu σ Q = (X z 165 131 [some (.ref u), x1] (.ref u :: st) cu σ Q) := by
  rw [x165_130]
  rfl
theorem v165_131 {z : P0} {st : List Value} {cu : Nat × Nat} {Q : Res → Mem → Prop} {K : Nat → Nat × Nat} {I : Nat → Nat → Int32} {R : Nat → Nat → Option Nat} {L : Nat → Nat → Int64} {sz : Nat} {ex : Bool} {x0 x1 : Option Value} {u : Nat} : X z 165 131 [x0, x1] (.ref u :: st) cu (K, I, R, L, sz, ex) Q = ((K u).1 = 111 ∧ X z 165 134 [x0, x1] (va_rf (R u 0) :: st) cu (K, I, R, L, sz, ex) Q) := by
  rw [x165_131]
  rfl
theorem v165_134 {z : P0} {st : List Value} {cu : Nat × Nat} {Q : Res → Mem → Prop} {σ : Mem} {x0 x1 : Option Value} : X z 165 134 [x0, x1] (st) cu σ Q = (X z 165 136 [x0, x1] (.int (nI 11) :: st) cu σ Q) := by
  rw [x165_134]
  rfl
theorem v165_136 {z : P0} {st : List Value} {cu : Nat × Nat} {Q : Res → Mem → Prop} {K : Nat → Nat × Nat} {I : Nat → Nat → Int32} {R : Nat → Nat → Option Nat} {L : Nat → Nat → Int64} {sz : Nat} {ex : Bool} {x0 x1 : Option Value} {u : Nat} {v : Int32} : X z 165 136 [x0, x1] (.int v :: .ref u :: st) cu (K, I, R, L, sz, ex) Q = (((K u).1 = 20 ∨ (K u).1 = 50) ∧ vp_in v (K u).2 ∧ X z 165 137 [x0, x1] (.int (I u v.toNatClampNeg) :: st) cu (K, I, R, L, sz, ex) Q) := by
  rw [x165_136]
  rfl
theorem v165_137 {z : P0} {cu : Nat × Nat} {Q : Res → Mem → Prop} {σ : Mem} {x0 x1 : Option Value} {v : Int32} : X z 165 137 [x0, x1] ([.int v]) cu σ Q = (Q (.inl (some (.int v))) σ) := by
  rw [x165_137]
  exact propext ⟨fun h => h.2, fun h => ⟨trivial, h⟩⟩
theorem v165_138 {z : P0} {st : List Value} {cu : Nat × Nat} {Q : Res → Mem → Prop} {σ : Mem} {x1 : Option Value} {u : Nat} : X z 165 138 [some (.ref u), x1] (st) cu σ Q = (X z 165 139 [some (.ref u), x1] (.ref u :: st) cu σ Q) := by
  rw [x165_138]
  rfl
theorem u165_139 {z : P0} {ls : Lcs} {st : List Value} {K : Nat → Nat × Nat} {I : Nat → Nat → Int32} {R : Nat → Nat → Option Nat} {L : Nat → Nat → Int64} {sz : Nat} {ex : Bool} {Q : Res → Mem → Prop} {x : Nat} : X z 165 139 ls (.ref x :: st) (0, 0) (K, I, R, L, sz, ex) Q = ((K x).1 = 111 ∧ wsum st ≤ 8 ∧ X z 138 0 [some (.ref x), none, none] [] (0, 0) (K, I, R, L, sz, ex) (aftr (X z) mT 165 139 ls st (0, 0) Q)) := v165_139 (c := 0) (n := 0)
theorem v165_142 {z : P0} {cu : Nat × Nat} {Q : Res → Mem → Prop} {σ : Mem} {x0 x1 : Option Value} {v : Int32} : X z 165 142 [x0, x1] ([.int v]) cu σ Q = (Q (.inl (some (.int v))) σ) := by
  rw [x165_142]
  exact propext ⟨fun h => h.2, fun h => ⟨trivial, h⟩⟩
theorem v165_143 {z : P0} {st : List Value} {cu : Nat × Nat} {Q : Res → Mem → Prop} {σ : Mem} {x1 : Option Value} {u : Nat} : X z 165 143 [some (.ref u), x1] (st) cu σ Q = (X z 165 144 [some (.ref u), x1] (.ref u :: st) cu σ Q) := by
  rw [x165_143]
  rfl
theorem v165_144 {z : P0} {st : List Value} {cu : Nat × Nat} {Q : Res → Mem → Prop} {K : Nat → Nat × Nat} {I : Nat → Nat → Int32} {R : Nat → Nat → Option Nat} {L : Nat → Nat → Int64} {sz : Nat} {ex : Bool} {x0 x1 : Option Value} {u : Nat} : X z 165 144 [x0, x1] (.ref u :: st) cu (K, I, R, L, sz, ex) Q = ((K u).1 = 111 ∧ X z 165 147 [x0, x1] (va_rf (R u 0) :: st) cu (K, I, R, L, sz, ex) Q) := by
  rw [x165_144]
  rfl
theorem v165_147 {z : P0} {st : List Value} {cu : Nat × Nat} {Q : Res → Mem → Prop} {σ : Mem} {x0 x1 : Option Value} : X z 165 147 [x0, x1] (st) cu σ Q = (X z 165 149 [x0, x1] (.int (nI 12) :: st) cu σ Q) := by
  rw [x165_147]
  rfl
theorem v165_149 {z : P0} {st : List Value} {cu : Nat × Nat} {Q : Res → Mem → Prop} {K : Nat → Nat × Nat} {I : Nat → Nat → Int32} {R : Nat → Nat → Option Nat} {L : Nat → Nat → Int64} {sz : Nat} {ex : Bool} {x0 x1 : Option Value} {u : Nat} {v : Int32} : X z 165 149 [x0, x1] (.int v :: .ref u :: st) cu (K, I, R, L, sz, ex) Q = (((K u).1 = 20 ∨ (K u).1 = 50) ∧ vp_in v (K u).2 ∧ X z 165 150 [x0, x1] (.int (I u v.toNatClampNeg) :: st) cu (K, I, R, L, sz, ex) Q) := by
  rw [x165_149]
  rfl
theorem v165_150 {z : P0} {st : List Value} {cu : Nat × Nat} {Q : Res → Mem → Prop} {σ : Mem} {x1 : Option Value} {u : Nat} : X z 165 150 [some (.ref u), x1] (st) cu σ Q = (X z 165 151 [some (.ref u), x1] (.ref u :: st) cu σ Q) := by
  rw [x165_150]
  rfl
theorem v165_151 {z : P0} {st : List Value} {cu : Nat × Nat} {Q : Res → Mem → Prop} {σ : Mem} {x0 x1 : Option Value} : X z 165 151 [x0, x1] (st) cu σ Q = (X z 165 153 [x0, x1] (.int (nI 125) :: st) cu σ Q) := by
  rw [x165_151]
  rfl
theorem u165_153 {z : P0} {ls : Lcs} {st : List Value} {K : Nat → Nat × Nat} {I : Nat → Nat → Int32} {R : Nat → Nat → Option Nat} {L : Nat → Nat → Int64} {sz : Nat} {ex : Bool} {Q : Res → Mem → Prop} {x : Nat} {a0 : Int32} : X z 165 153 ls (.int a0 :: .ref x :: st) (0, 0) (K, I, R, L, sz, ex) Q = ((K x).1 = 111 ∧ wsum st ≤ 8 ∧ X z 110 0 [some (.ref x), some (.int a0), none, none] [] (0, 0) (K, I, R, L, sz, ex) (aftr (X z) mT 165 153 ls st (0, 0) Q)) := v165_153 (c := 0) (n := 0)
theorem v165_156 {z : P0} {st : List Value} {cu : Nat × Nat} {Q : Res → Mem → Prop} {σ : Mem} {x0 x1 : Option Value} {u v : Int32} : X z 165 156 [x0, x1] (.int v :: .int u :: st) cu σ Q = (X z 165 157 [x0, x1] (.int (u - v) :: st) cu σ Q) := by
  rw [x165_156]
  rfl
theorem v165_157 {z : P0} {cu : Nat × Nat} {Q : Res → Mem → Prop} {σ : Mem} {x0 x1 : Option Value} {v : Int32} : X z 165 157 [x0, x1] ([.int v]) cu σ Q = (Q (.inl (some (.int v))) σ) := by
  rw [x165_157]
  exact propext ⟨fun h => h.2, fun h => ⟨trivial, h⟩⟩
theorem v165_158 {z : P0} {st : List Value} {cu : Nat × Nat} {Q : Res → Mem → Prop} {σ : Mem} {x1 : Option Value} {u : Nat} : X z 165 158 [some (.ref u), x1] (st) cu σ Q = (X z 165 159 [some (.ref u), x1] (.ref u :: st) cu σ Q) := by
  rw [x165_158]
  rfl
theorem v165_159 {z : P0} {st : List Value} {cu : Nat × Nat} {Q : Res → Mem → Prop} {K : Nat → Nat × Nat} {I : Nat → Nat → Int32} {R : Nat → Nat → Option Nat} {L : Nat → Nat → Int64} {sz : Nat} {ex : Bool} {x0 x1 : Option Value} {u : Nat} : X z 165 159 [x0, x1] (.ref u :: st) cu (K, I, R, L, sz, ex) Q = ((K u).1 = 111 ∧ X z 165 162 [x0, x1] (.int (I u 1) :: st) cu (K, I, R, L, sz, ex) Q) := by
  rw [x165_159]
  rfl
theorem v165_162 {z : P0} {cu : Nat × Nat} {Q : Res → Mem → Prop} {σ : Mem} {x0 x1 : Option Value} {v : Int32} : X z 165 162 [x0, x1] ([.int v]) cu σ Q = (Q (.inl (some (.int v))) σ) := by
  rw [x165_162]
  exact propext ⟨fun h => h.2, fun h => ⟨trivial, h⟩⟩
theorem v166_0 {z : P0} {st : List Value} {cu : Nat × Nat} {Q : Res → Mem → Prop} {σ : Mem} {x1 : Option Value} {u : Nat} : X z 166 0 [some (.ref u), x1] (st) cu σ Q = (X z 166 1 [some (.ref u), x1] (.ref u :: st) cu σ Q) := by
  rw [x166_0]
  rfl
theorem v166_1 {z : P0} {st : List Value} {cu : Nat × Nat} {Q : Res → Mem → Prop} {σ : Mem} {x0 : Option Value} {u : Int32} : X z 166 1 [x0, some (.int u)] (st) cu σ Q = (X z 166 2 [x0, some (.int u)] (.int u :: st) cu σ Q) := by
  rw [x166_1]
  rfl
theorem v166_2 {z : P0} {st : List Value} {cu : Nat × Nat} {Q : Res → Mem → Prop} {σ : Mem} {x0 x1 : Option Value} : X z 166 2 [x0, x1] (st) cu σ Q = (X z 166 3 [x0, x1] (.int (nI 0) :: st) cu σ Q) := by
  rw [x166_2]
  rfl
theorem v166_3 {z : P0} {st : List Value} {cu : Nat × Nat} {Q : Res → Mem → Prop} {σ : Mem} {x0 x1 : Option Value} : X z 166 3 [x0, x1] (st) cu σ Q = (X z 166 5 [x0, x1] (.int (nI 14) :: st) cu σ Q) := by
  rw [x166_3]
  rfl
theorem u166_5 {z : P0} {ls : Lcs} {st : List Value} {K : Nat → Nat × Nat} {I : Nat → Nat → Int32} {R : Nat → Nat → Option Nat} {L : Nat → Nat → Int64} {sz : Nat} {ex : Bool} {Q : Res → Mem → Prop} {a0 : Int32} {a1 : Int32} {a2 : Int32} : X z 166 5 ls (.int a2 :: .int a1 :: .int a0 :: st) (0, 0) (K, I, R, L, sz, ex) Q = (wsum st ≤ 8 ∧ X z 106 0 [some (.int a0), some (.int a1), some (.int a2)] [] (0, 0) (K, I, R, L, sz, ex) (aftr (X z) mT 166 5 ls st (0, 0) Q)) := v166_5 (c := 0) (n := 0)
theorem v166_8 {z : P0} {st : List Value} {cu : Nat × Nat} {Q : Res → Mem → Prop} {σ : Mem} {x0 x1 : Option Value} {u : Int32} : X z 166 8 [x0, x1] (.int u :: st) cu σ Q = (if u = nI 0 then X z 166 15 [x0, x1] (st) cu σ Q else X z 166 11 [x0, x1] (st) cu σ Q) := by
  rw [x166_8]
  rw [nI_0]
  obtain ⟨K, I, R, L, sz, ex⟩ := σ
  exact br_ite
theorem v166_11 {z : P0} {st : List Value} {cu : Nat × Nat} {Q : Res → Mem → Prop} {σ : Mem} {x0 x1 : Option Value} : X z 166 11 [x0, x1] (st) cu σ Q = (X z 166 12 [x0, x1] (.int (nI 0) :: st) cu σ Q) := by
  rw [x166_11]
  rfl
theorem v166_12 {z : P0} {st : List Value} {cu : Nat × Nat} {Q : Res → Mem → Prop} {σ : Mem} {x0 x1 : Option Value} : X z 166 12 [x0, x1] (st) cu σ Q = (X z 166 16 [x0, x1] (st) cu σ Q) := by
  rw [x166_12]
  rfl
theorem v166_15 {z : P0} {st : List Value} {cu : Nat × Nat} {Q : Res → Mem → Prop} {σ : Mem} {x0 x1 : Option Value} : X z 166 15 [x0, x1] (st) cu σ Q = (X z 166 16 [x0, x1] (.int (nI 1) :: st) cu σ Q) := by
  rw [x166_15]
  rfl
theorem v166_16 {z : P0} {st : List Value} {cu : Nat × Nat} {Q : Res → Mem → Prop} {K : Nat → Nat × Nat} {I : Nat → Nat → Int32} {R : Nat → Nat → Option Nat} {L : Nat → Nat → Int64} {sz : Nat} {ex : Bool} {x0 x1 : Option Value} {u : Nat} {v : Int32} : X z 166 16 [x0, x1] (.int v :: .ref u :: st) cu (K, I, R, L, sz, ex) Q = ((K u).1 = 111 ∧ X z 166 19 [x0, x1] (st) cu (K, up2 I u 5 v, R, L, sz, ex) Q) := by
  rw [x166_16]
  exact i_putI
theorem v166_19 {z : P0} {st : List Value} {cu : Nat × Nat} {Q : Res → Mem → Prop} {σ : Mem} {x1 : Option Value} {u : Nat} : X z 166 19 [some (.ref u), x1] (st) cu σ Q = (X z 166 20 [some (.ref u), x1] (.ref u :: st) cu σ Q) := by
  rw [x166_19]
  rfl
theorem v166_20 {z : P0} {st : List Value} {cu : Nat × Nat} {Q : Res → Mem → Prop} {K : Nat → Nat × Nat} {I : Nat → Nat → Int32} {R : Nat → Nat → Option Nat} {L : Nat → Nat → Int64} {sz : Nat} {ex : Bool} {x0 x1 : Option Value} {u : Nat} : X z 166 20 [x0, x1] (.ref u :: st) cu (K, I, R, L, sz, ex) Q = ((K u).1 = 111 ∧ X z 166 23 [x0, x1] (.int (I u 5) :: st) cu (K, I, R, L, sz, ex) Q) := by
  rw [x166_20]
  rfl
theorem v166_23 {z : P0} {st : List Value} {cu : Nat × Nat} {Q : Res → Mem → Prop} {σ : Mem} {x0 x1 : Option Value} {u : Int32} : X z 166 23 [x0, x1] (.int u :: st) cu σ Q = (if nI 0 < u then X z 166 26 [x0, x1] (st) cu σ Q else X z 166 28 [x0, x1] (st) cu σ Q) := by
  rw [x166_23]
  rw [nI_0]
  obtain ⟨K, I, R, L, sz, ex⟩ := σ
  exact br_ge
theorem v166_26 {z : P0} {st : List Value} {cu : Nat × Nat} {Q : Res → Mem → Prop} {σ : Mem} {x0 x1 : Option Value} : X z 166 26 [x0, x1] (st) cu σ Q = (X z 166 27 [x0, x1] (.int (nI 0) :: st) cu σ Q) := by
  rw [x166_26]
  rfl
theorem v166_27 {z : P0} {cu : Nat × Nat} {Q : Res → Mem → Prop} {σ : Mem} {x0 x1 : Option Value} {v : Int32} : X z 166 27 [x0, x1] ([.int v]) cu σ Q = (Q (.inl (some (.int v))) σ) := by
  rw [x166_27]
  exact propext ⟨fun h => h.2, fun h => ⟨trivial, h⟩⟩
theorem v166_28 {z : P0} {st : List Value} {cu : Nat × Nat} {Q : Res → Mem → Prop} {σ : Mem} {x1 : Option Value} {u : Nat} : X z 166 28 [some (.ref u), x1] (st) cu σ Q = (X z 166 29 [some (.ref u), x1] (.ref u :: st) cu σ Q) := by
  rw [x166_28]
  rfl
theorem u166_29 {z : P0} {ls : Lcs} {st : List Value} {K : Nat → Nat × Nat} {I : Nat → Nat → Int32} {R : Nat → Nat → Option Nat} {L : Nat → Nat → Int64} {sz : Nat} {ex : Bool} {Q : Res → Mem → Prop} {x : Nat} : X z 166 29 ls (.ref x :: st) (0, 0) (K, I, R, L, sz, ex) Q = ((K x).1 = 111 ∧ wsum st ≤ 8 ∧ X z 130 0 [some (.ref x), none] [] (0, 0) (K, I, R, L, sz, ex) (aftr (X z) mT 166 29 ls st (0, 0) Q)) := v166_29 (c := 0) (n := 0)
theorem v166_32 {z : P0} {st : List Value} {cu : Nat × Nat} {Q : Res → Mem → Prop} {σ : Mem} {x1 : Option Value} {u : Nat} : X z 166 32 [some (.ref u), x1] (st) cu σ Q = (X z 166 33 [some (.ref u), x1] (.ref u :: st) cu σ Q) := by
  rw [x166_32]
  rfl
theorem v166_33 {z : P0} {st : List Value} {cu : Nat × Nat} {Q : Res → Mem → Prop} {σ : Mem} {x0 : Option Value} {u : Int32} : X z 166 33 [x0, some (.int u)] (st) cu σ Q = (X z 166 34 [x0, some (.int u)] (.int u :: st) cu σ Q) := by
  rw [x166_33]
  rfl
theorem u166_34 {z : P0} {ls : Lcs} {st : List Value} {K : Nat → Nat × Nat} {I : Nat → Nat → Int32} {R : Nat → Nat → Option Nat} {L : Nat → Nat → Int64} {sz : Nat} {ex : Bool} {Q : Res → Mem → Prop} {x : Nat} {a0 : Int32} : X z 166 34 ls (.int a0 :: .ref x :: st) (0, 0) (K, I, R, L, sz, ex) Q = ((K x).1 = 111 ∧ wsum st ≤ 8 ∧ X z 165 0 [some (.ref x), some (.int a0)] [] (0, 0) (K, I, R, L, sz, ex) (aftr (X z) mT 166 34 ls st (0, 0) Q)) := v166_34 (c := 0) (n := 0)
theorem v166_37 {z : P0} {cu : Nat × Nat} {Q : Res → Mem → Prop} {σ : Mem} {x0 x1 : Option Value} {v : Int32} : X z 166 37 [x0, x1] ([.int v]) cu σ Q = (Q (.inl (some (.int v))) σ) := by
  rw [x166_37]
  exact propext ⟨fun h => h.2, fun h => ⟨trivial, h⟩⟩
theorem v167_0 {z : P0} {st : List Value} {cu : Nat × Nat} {Q : Res → Mem → Prop} {σ : Mem} {x1 : Option Value} {u : Nat} : X z 167 0 [some (.ref u), x1] (st) cu σ Q = (X z 167 1 [some (.ref u), x1] (.ref u :: st) cu σ Q) := by
  rw [x167_0]
  rfl
theorem v167_1 {z : P0} {st : List Value} {cu : Nat × Nat} {Q : Res → Mem → Prop} {σ : Mem} {x0 : Option Value} {u : Int32} : X z 167 1 [x0, some (.int u)] (st) cu σ Q = (X z 167 2 [x0, some (.int u)] (.int u :: st) cu σ Q) := by
  rw [x167_1]
  rfl
theorem u167_2 {z : P0} {ls : Lcs} {st : List Value} {K : Nat → Nat × Nat} {I : Nat → Nat → Int32} {R : Nat → Nat → Option Nat} {L : Nat → Nat → Int64} {sz : Nat} {ex : Bool} {Q : Res → Mem → Prop} {a0 : Int32} : X z 167 2 ls (.int a0 :: st) (0, 0) (K, I, R, L, sz, ex) Q = (wsum st ≤ 8 ∧ X z 140 0 [some (.int a0)] [] (0, 0) (K, I, R, L, sz, ex) (aftr (X z) mT 167 2 ls st (0, 0) Q)) := v167_2 (c := 0) (n := 0)
theorem v167_5 {z : P0} {st : List Value} {cu : Nat × Nat} {Q : Res → Mem → Prop} {σ : Mem} {x0 x1 : Option Value} {u : Int32} : X z 167 5 [x0, x1] (.int u :: st) cu σ Q = (if u = nI 0 then X z 167 12 [x0, x1] (st) cu σ Q else X z 167 8 [x0, x1] (st) cu σ Q) := by
  rw [x167_5]
  rw [nI_0]
  obtain ⟨K, I, R, L, sz, ex⟩ := σ
  exact br_ite
theorem v167_8 {z : P0} {st : List Value} {cu : Nat × Nat} {Q : Res → Mem → Prop} {σ : Mem} {x0 x1 : Option Value} : X z 167 8 [x0, x1] (st) cu σ Q = (X z 167 9 [x0, x1] (.int (nI 0) :: st) cu σ Q) := by
  rw [x167_8]
  rfl
theorem v167_9 {z : P0} {st : List Value} {cu : Nat × Nat} {Q : Res → Mem → Prop} {σ : Mem} {x0 x1 : Option Value} : X z 167 9 [x0, x1] (st) cu σ Q = (X z 167 13 [x0, x1] (st) cu σ Q) := by
  rw [x167_9]
  rfl
theorem v167_12 {z : P0} {st : List Value} {cu : Nat × Nat} {Q : Res → Mem → Prop} {σ : Mem} {x0 x1 : Option Value} : X z 167 12 [x0, x1] (st) cu σ Q = (X z 167 13 [x0, x1] (.int (nI 1) :: st) cu σ Q) := by
  rw [x167_12]
  rfl
theorem v167_13 {z : P0} {st : List Value} {cu : Nat × Nat} {Q : Res → Mem → Prop} {K : Nat → Nat × Nat} {I : Nat → Nat → Int32} {R : Nat → Nat → Option Nat} {L : Nat → Nat → Int64} {sz : Nat} {ex : Bool} {x0 x1 : Option Value} {u : Nat} {v : Int32} : X z 167 13 [x0, x1] (.int v :: .ref u :: st) cu (K, I, R, L, sz, ex) Q = ((K u).1 = 111 ∧ X z 167 16 [x0, x1] (st) cu (K, up2 I u 5 v, R, L, sz, ex) Q) := by
  rw [x167_13]
  exact i_putI
theorem v167_16 {z : P0} {st : List Value} {cu : Nat × Nat} {Q : Res → Mem → Prop} {σ : Mem} {x1 : Option Value} {u : Nat} : X z 167 16 [some (.ref u), x1] (st) cu σ Q = (X z 167 17 [some (.ref u), x1] (.ref u :: st) cu σ Q) := by
  rw [x167_16]
  rfl
theorem v167_17 {z : P0} {st : List Value} {cu : Nat × Nat} {Q : Res → Mem → Prop} {K : Nat → Nat × Nat} {I : Nat → Nat → Int32} {R : Nat → Nat → Option Nat} {L : Nat → Nat → Int64} {sz : Nat} {ex : Bool} {x0 x1 : Option Value} {u : Nat} : X z 167 17 [x0, x1] (.ref u :: st) cu (K, I, R, L, sz, ex) Q = ((K u).1 = 111 ∧ X z 167 20 [x0, x1] (.int (I u 5) :: st) cu (K, I, R, L, sz, ex) Q) := by
  rw [x167_17]
  rfl
theorem v167_20 {z : P0} {st : List Value} {cu : Nat × Nat} {Q : Res → Mem → Prop} {σ : Mem} {x0 x1 : Option Value} {u : Int32} : X z 167 20 [x0, x1] (.int u :: st) cu σ Q = (if nI 0 < u then X z 167 23 [x0, x1] (st) cu σ Q else X z 167 27 [x0, x1] (st) cu σ Q) := by
  rw [x167_20]
  rw [nI_0]
  obtain ⟨K, I, R, L, sz, ex⟩ := σ
  exact br_ge
theorem v167_23 {z : P0} {st : List Value} {cu : Nat × Nat} {Q : Res → Mem → Prop} {σ : Mem} {x0 x1 : Option Value} : X z 167 23 [x0, x1] (st) cu σ Q = (X z 167 24 [x0, x1] (.int (nI 0) :: st) cu σ Q) := by
  rw [x167_23]
  rfl
theorem v167_24 {z : P0} {st : List Value} {cu : Nat × Nat} {Q : Res → Mem → Prop} {σ : Mem} {x0 x1 : Option Value} : X z 167 24 [x0, x1] (st) cu σ Q = (X z 167 35 [x0, x1] (st) cu σ Q) := by
  rw [x167_24]
  rfl
theorem v167_27 {z : P0} {st : List Value} {cu : Nat × Nat} {Q : Res → Mem → Prop} {σ : Mem} {x1 : Option Value} {u : Nat} : X z 167 27 [some (.ref u), x1] (st) cu σ Q = (X z 167 28 [some (.ref u), x1] (.ref u :: st) cu σ Q) := by
  rw [x167_27]
  rfl
theorem v167_28 {z : P0} {st : List Value} {cu : Nat × Nat} {Q : Res → Mem → Prop} {K : Nat → Nat × Nat} {I : Nat → Nat → Int32} {R : Nat → Nat → Option Nat} {L : Nat → Nat → Int64} {sz : Nat} {ex : Bool} {x0 x1 : Option Value} {u : Nat} : X z 167 28 [x0, x1] (.ref u :: st) cu (K, I, R, L, sz, ex) Q = ((K u).1 = 111 ∧ X z 167 31 [x0, x1] (va_rf (R u 0) :: st) cu (K, I, R, L, sz, ex) Q) := by
  rw [x167_28]
  rfl
theorem v167_31 {z : P0} {st : List Value} {cu : Nat × Nat} {Q : Res → Mem → Prop} {σ : Mem} {x0 x1 : Option Value} : X z 167 31 [x0, x1] (st) cu σ Q = (X z 167 32 [x0, x1] (.int (nI 0) :: st) cu σ Q) := by
  rw [x167_31]
  rfl
theorem v167_32 {z : P0} {st : List Value} {cu : Nat × Nat} {Q : Res → Mem → Prop} {σ : Mem} {x0 : Option Value} {u : Int32} : X z 167 32 [x0, some (.int u)] (st) cu σ Q = (X z 167 33 [x0, some (.int u)] (.int u :: st) cu σ Q) := by
  rw [x167_32]
  rfl
theorem v167_33 {z : P0} {st : List Value} {cu : Nat × Nat} {Q : Res → Mem → Prop} {σ : Mem} {x0 x1 : Option Value} {u v : Int32} : X z 167 33 [x0, x1] (.int v :: .int u :: st) cu σ Q = (X z 167 34 [x0, x1] (.int (u + v) :: st) cu σ Q) := by
  rw [x167_33]
  rfl
theorem v167_34 {z : P0} {st : List Value} {cu : Nat × Nat} {Q : Res → Mem → Prop} {K : Nat → Nat × Nat} {I : Nat → Nat → Int32} {R : Nat → Nat → Option Nat} {L : Nat → Nat → Int64} {sz : Nat} {ex : Bool} {x0 x1 : Option Value} {u : Nat} {v : Int32} : X z 167 34 [x0, x1] (.int v :: .ref u :: st) cu (K, I, R, L, sz, ex) Q = (((K u).1 = 20 ∨ (K u).1 = 50) ∧ vp_in v (K u).2 ∧ X z 167 35 [x0, x1] (.int (I u v.toNatClampNeg) :: st) cu (K, I, R, L, sz, ex) Q) := by
  rw [x167_34]
  rfl
theorem v167_35 {z : P0} {cu : Nat × Nat} {Q : Res → Mem → Prop} {σ : Mem} {x0 x1 : Option Value} {v : Int32} : X z 167 35 [x0, x1] ([.int v]) cu σ Q = (Q (.inl (some (.int v))) σ) := by
  rw [x167_35]
  exact propext ⟨fun h => h.2, fun h => ⟨trivial, h⟩⟩
theorem v168_0 {z : P0} {st : List Value} {cu : Nat × Nat} {Q : Res → Mem → Prop} {σ : Mem} {x1 x2 x3 x4 x5 : Option Value} {u : Nat} : X z 168 0 [some (.ref u), x1, x2, x3, x4, x5] (st) cu σ Q = (X z 168 1 [some (.ref u), x1, x2, x3, x4, x5] (.ref u :: st) cu σ Q) := by
  rw [x168_0]
  rfl
theorem v168_1 {z : P0} {st : List Value} {cu : Nat × Nat} {Q : Res → Mem → Prop} {K : Nat → Nat × Nat} {I : Nat → Nat → Int32} {R : Nat → Nat → Option Nat} {L : Nat → Nat → Int64} {sz : Nat} {ex : Bool} {x0 x1 x2 x3 x4 x5 : Option Value} {u : Nat} : X z 168 1 [x0, x1, x2, x3, x4, x5] (.ref u :: st) cu (K, I, R, L, sz, ex) Q = ((K u).1 = 111 ∧ X z 168 4 [x0, x1, x2, x3, x4, x5] (va_rf (R u 0) :: st) cu (K, I, R, L, sz, ex) Q) := by
  rw [x168_1]
  rfl
theorem v168_4 {z : P0} {st : List Value} {cu : Nat × Nat} {Q : Res → Mem → Prop} {σ : Mem} {x0 x1 x2 x3 x4 x5 : Option Value} : X z 168 4 [x0, x1, x2, x3, x4, x5] (st) cu σ Q = (X z 168 5 [x0, x1, x2, x3, x4, x5] (.int (nI 0) :: st) cu σ Q) := by
  rw [x168_4]
  rfl
theorem v168_5 {z : P0} {st : List Value} {cu : Nat × Nat} {Q : Res → Mem → Prop} {σ : Mem} {x0 x2 x3 x4 x5 : Option Value} {u : Int32} : X z 168 5 [x0, some (.int u), x2, x3, x4, x5] (st) cu σ Q = (X z 168 6 [x0, some (.int u), x2, x3, x4, x5] (.int u :: st) cu σ Q) := by
  rw [x168_5]
  rfl
theorem v168_6 {z : P0} {st : List Value} {cu : Nat × Nat} {Q : Res → Mem → Prop} {σ : Mem} {x0 x1 x2 x3 x4 x5 : Option Value} {u v : Int32} : X z 168 6 [x0, x1, x2, x3, x4, x5] (.int v :: .int u :: st) cu σ Q = (X z 168 7 [x0, x1, x2, x3, x4, x5] (.int (u + v) :: st) cu σ Q) := by
  rw [x168_6]
  rfl
theorem v168_7 {z : P0} {st : List Value} {cu : Nat × Nat} {Q : Res → Mem → Prop} {K : Nat → Nat × Nat} {I : Nat → Nat → Int32} {R : Nat → Nat → Option Nat} {L : Nat → Nat → Int64} {sz : Nat} {ex : Bool} {x0 x1 x2 x3 x4 x5 : Option Value} {u : Nat} {v : Int32} : X z 168 7 [x0, x1, x2, x3, x4, x5] (.int v :: .ref u :: st) cu (K, I, R, L, sz, ex) Q = (((K u).1 = 20 ∨ (K u).1 = 50) ∧ vp_in v (K u).2 ∧ X z 168 8 [x0, x1, x2, x3, x4, x5] (.int (I u v.toNatClampNeg) :: st) cu (K, I, R, L, sz, ex) Q) := by
  rw [x168_7]
  rfl
theorem v168_8 {z : P0} {st : List Value} {cu : Nat × Nat} {Q : Res → Mem → Prop} {σ : Mem} {x0 x1 x2 x3 x4 x5 : Option Value} {u : Int32} : X z 168 8 [x0, x1, x2, x3, x4, x5] (.int u :: st) cu σ Q = (cat2 x3 = false ∧ X z 168 10 [x0, x1, x2, x3, some (.int u), x5] (st) cu σ Q) := by
  rw [x168_8]
  obtain ⟨K, I, R, L, sz, ex⟩ := σ
  exact i_istore.trans sl_4
theorem v168_10 {z : P0} {st : List Value} {cu : Nat × Nat} {Q : Res → Mem → Prop} {σ : Mem} {x1 x2 x3 x4 x5 : Option Value} {u : Nat} : X z 168 10 [some (.ref u), x1, x2, x3, x4, x5] (st) cu σ Q = (X z 168 11 [some (.ref u), x1, x2, x3, x4, x5] (.ref u :: st) cu σ Q) := by
  rw [x168_10]
  rfl
theorem v168_11 {z : P0} {st : List Value} {cu : Nat × Nat} {Q : Res → Mem → Prop} {K : Nat → Nat × Nat} {I : Nat → Nat → Int32} {R : Nat → Nat → Option Nat} {L : Nat → Nat → Int64} {sz : Nat} {ex : Bool} {x0 x1 x2 x3 x4 x5 : Option Value} {u : Nat} : X z 168 11 [x0, x1, x2, x3, x4, x5] (.ref u :: st) cu (K, I, R, L, sz, ex) Q = ((K u).1 = 111 ∧ X z 168 14 [x0, x1, x2, x3, x4, x5] (va_rf (R u 0) :: st) cu (K, I, R, L, sz, ex) Q) := by
  rw [x168_11]
  rfl
theorem v168_14 {z : P0} {st : List Value} {cu : Nat × Nat} {Q : Res → Mem → Prop} {σ : Mem} {x0 x1 x2 x3 x4 x5 : Option Value} : X z 168 14 [x0, x1, x2, x3, x4, x5] (st) cu σ Q = (X z 168 15 [x0, x1, x2, x3, x4, x5] (.int (nI 0) :: st) cu σ Q) := by
  rw [x168_14]
  rfl
theorem v168_15 {z : P0} {st : List Value} {cu : Nat × Nat} {Q : Res → Mem → Prop} {σ : Mem} {x0 x2 x3 x4 x5 : Option Value} {u : Int32} : X z 168 15 [x0, some (.int u), x2, x3, x4, x5] (st) cu σ Q = (X z 168 16 [x0, some (.int u), x2, x3, x4, x5] (.int u :: st) cu σ Q) := by
  rw [x168_15]
  rfl
theorem v168_16 {z : P0} {st : List Value} {cu : Nat × Nat} {Q : Res → Mem → Prop} {σ : Mem} {x0 x1 x2 x3 x4 x5 : Option Value} {u v : Int32} : X z 168 16 [x0, x1, x2, x3, x4, x5] (.int v :: .int u :: st) cu σ Q = (X z 168 17 [x0, x1, x2, x3, x4, x5] (.int (u + v) :: st) cu σ Q) := by
  rw [x168_16]
  rfl
theorem v168_17 {z : P0} {st : List Value} {cu : Nat × Nat} {Q : Res → Mem → Prop} {σ : Mem} {x0 x1 x3 x4 x5 : Option Value} {u : Int32} : X z 168 17 [x0, x1, some (.int u), x3, x4, x5] (st) cu σ Q = (X z 168 18 [x0, x1, some (.int u), x3, x4, x5] (.int u :: st) cu σ Q) := by
  rw [x168_17]
  rfl
theorem v168_18 {z : P0} {st : List Value} {cu : Nat × Nat} {Q : Res → Mem → Prop} {K : Nat → Nat × Nat} {I : Nat → Nat → Int32} {R : Nat → Nat → Option Nat} {L : Nat → Nat → Int64} {sz : Nat} {ex : Bool} {x0 x1 x2 x3 x4 x5 : Option Value} {u : Nat} {j v : Int32} : X z 168 18 [x0, x1, x2, x3, x4, x5] (.int v :: .int j :: .ref u :: st) cu (K, I, R, L, sz, ex) Q = ((K u).1 = 20 ∧ vp_in j (K u).2 ∧ X z 168 19 [x0, x1, x2, x3, x4, x5] (st) cu (K, up2 I u j.toNatClampNeg v, R, L, sz, ex) Q) := by
  rw [x168_18]
  rfl
theorem v168_19 {z : P0} {st : List Value} {cu : Nat × Nat} {Q : Res → Mem → Prop} {σ : Mem} {x1 x2 x3 x4 x5 : Option Value} {u : Nat} : X z 168 19 [some (.ref u), x1, x2, x3, x4, x5] (st) cu σ Q = (X z 168 20 [some (.ref u), x1, x2, x3, x4, x5] (.ref u :: st) cu σ Q) := by
  rw [x168_19]
  rfl
theorem u168_20 {z : P0} {ls : Lcs} {st : List Value} {K : Nat → Nat × Nat} {I : Nat → Nat → Int32} {R : Nat → Nat → Option Nat} {L : Nat → Nat → Int64} {sz : Nat} {ex : Bool} {Q : Res → Mem → Prop} {x : Nat} : X z 168 20 ls (.ref x :: st) (0, 0) (K, I, R, L, sz, ex) Q = ((K x).1 = 111 ∧ wsum st ≤ 8 ∧ X z 130 0 [some (.ref x), none] [] (0, 0) (K, I, R, L, sz, ex) (aftr (X z) mT 168 20 ls st (0, 0) Q)) := v168_20 (c := 0) (n := 0)
theorem v168_23 {z : P0} {st : List Value} {cu : Nat × Nat} {Q : Res → Mem → Prop} {σ : Mem} {x1 x2 x3 x4 x5 : Option Value} {u : Nat} : X z 168 23 [some (.ref u), x1, x2, x3, x4, x5] (st) cu σ Q = (X z 168 24 [some (.ref u), x1, x2, x3, x4, x5] (.ref u :: st) cu σ Q) := by
  rw [x168_23]
  rfl
theorem v168_24 {z : P0} {st : List Value} {cu : Nat × Nat} {Q : Res → Mem → Prop} {σ : Mem} {x0 x1 x2 x4 x5 : Option Value} {u : Int32} : X z 168 24 [x0, x1, x2, some (.int u), x4, x5] (st) cu σ Q = (X z 168 25 [x0, x1, x2, some (.int u), x4, x5] (.int u :: st) cu σ Q) := by
  rw [x168_24]
  rfl
theorem u168_25 {z : P0} {ls : Lcs} {st : List Value} {K : Nat → Nat × Nat} {I : Nat → Nat → Int32} {R : Nat → Nat → Option Nat} {L : Nat → Nat → Int64} {sz : Nat} {ex : Bool} {Q : Res → Mem → Prop} {x : Nat} {a0 : Int32} : X z 168 25 ls (.int a0 :: .ref x :: st) (0, 0) (K, I, R, L, sz, ex) Q = ((K x).1 = 111 ∧ wsum st ≤ 8 ∧ X z 132 0 [some (.ref x), some (.int a0), none, none, none] [] (0, 0) (K, I, R, L, sz, ex) (aftr (X z) mT 168 25 ls st (0, 0) Q)) := v168_25 (c := 0) (n := 0)
theorem v168_28 {z : P0} {st : List Value} {cu : Nat × Nat} {Q : Res → Mem → Prop} {σ : Mem} {x0 x1 x2 x3 x4 x5 : Option Value} {u : Int32} : X z 168 28 [x0, x1, x2, x3, x4, x5] (.int u :: st) cu σ Q = (cat2 x4 = false ∧ X z 168 30 [x0, x1, x2, x3, x4, some (.int u)] (st) cu σ Q) := by
  rw [x168_28]
  obtain ⟨K, I, R, L, sz, ex⟩ := σ
  exact i_istore.trans sl_5
theorem v168_30 {z : P0} {st : List Value} {cu : Nat × Nat} {Q : Res → Mem → Prop} {σ : Mem} {x1 x2 x3 x4 x5 : Option Value} {u : Nat} : X z 168 30 [some (.ref u), x1, x2, x3, x4, x5] (st) cu σ Q = (X z 168 31 [some (.ref u), x1, x2, x3, x4, x5] (.ref u :: st) cu σ Q) := by
  rw [x168_30]
  rfl
theorem v168_31 {z : P0} {st : List Value} {cu : Nat × Nat} {Q : Res → Mem → Prop} {K : Nat → Nat × Nat} {I : Nat → Nat → Int32} {R : Nat → Nat → Option Nat} {L : Nat → Nat → Int64} {sz : Nat} {ex : Bool} {x0 x1 x2 x3 x4 x5 : Option Value} {u : Nat} : X z 168 31 [x0, x1, x2, x3, x4, x5] (.ref u :: st) cu (K, I, R, L, sz, ex) Q = ((K u).1 = 111 ∧ X z 168 34 [x0, x1, x2, x3, x4, x5] (va_rf (R u 0) :: st) cu (K, I, R, L, sz, ex) Q) := by
  rw [x168_31]
  rfl
theorem v168_34 {z : P0} {st : List Value} {cu : Nat × Nat} {Q : Res → Mem → Prop} {σ : Mem} {x0 x1 x2 x3 x4 x5 : Option Value} : X z 168 34 [x0, x1, x2, x3, x4, x5] (st) cu σ Q = (X z 168 35 [x0, x1, x2, x3, x4, x5] (.int (nI 0) :: st) cu σ Q) := by
  rw [x168_34]
  rfl
theorem v168_35 {z : P0} {st : List Value} {cu : Nat × Nat} {Q : Res → Mem → Prop} {σ : Mem} {x0 x2 x3 x4 x5 : Option Value} {u : Int32} : X z 168 35 [x0, some (.int u), x2, x3, x4, x5] (st) cu σ Q = (X z 168 36 [x0, some (.int u), x2, x3, x4, x5] (.int u :: st) cu σ Q) := by
  rw [x168_35]
  rfl
theorem v168_36 {z : P0} {st : List Value} {cu : Nat × Nat} {Q : Res → Mem → Prop} {σ : Mem} {x0 x1 x2 x3 x4 x5 : Option Value} {u v : Int32} : X z 168 36 [x0, x1, x2, x3, x4, x5] (.int v :: .int u :: st) cu σ Q = (X z 168 37 [x0, x1, x2, x3, x4, x5] (.int (u + v) :: st) cu σ Q) := by
  rw [x168_36]
  rfl
theorem v168_37 {z : P0} {st : List Value} {cu : Nat × Nat} {Q : Res → Mem → Prop} {σ : Mem} {x0 x1 x2 x3 x5 : Option Value} {u : Int32} : X z 168 37 [x0, x1, x2, x3, some (.int u), x5] (st) cu σ Q = (X z 168 39 [x0, x1, x2, x3, some (.int u), x5] (.int u :: st) cu σ Q) := by
  rw [x168_37]
  rfl
theorem v168_39 {z : P0} {st : List Value} {cu : Nat × Nat} {Q : Res → Mem → Prop} {K : Nat → Nat × Nat} {I : Nat → Nat → Int32} {R : Nat → Nat → Option Nat} {L : Nat → Nat → Int64} {sz : Nat} {ex : Bool} {x0 x1 x2 x3 x4 x5 : Option Value} {u : Nat} {j v : Int32} : X z 168 39 [x0, x1, x2, x3, x4, x5] (.int v :: .int j :: .ref u :: st) cu (K, I, R, L, sz, ex) Q = ((K u).1 = 20 ∧ vp_in j (K u).2 ∧ X z 168 40 [x0, x1, x2, x3, x4, x5] (st) cu (K, up2 I u j.toNatClampNeg v, R, L, sz, ex) Q) := by
  rw [x168_39]
  rfl
theorem v168_40 {z : P0} {st : List Value} {cu : Nat × Nat} {Q : Res → Mem → Prop} {σ : Mem} {x0 x1 x2 x3 x4 : Option Value} {u : Int32} : X z 168 40 [x0, x1, x2, x3, x4, some (.int u)] (st) cu σ Q = (X z 168 42 [x0, x1, x2, x3, x4, some (.int u)] (.int u :: st) cu σ Q) := by
  rw [x168_40]
  rfl
theorem v168_42 {z : P0} {cu : Nat × Nat} {Q : Res → Mem → Prop} {σ : Mem} {x0 x1 x2 x3 x4 x5 : Option Value} {v : Int32} : X z 168 42 [x0, x1, x2, x3, x4, x5] ([.int v]) cu σ Q = (Q (.inl (some (.int v))) σ) := by
  rw [x168_42]
  exact propext ⟨fun h => h.2, fun h => ⟨trivial, h⟩⟩
theorem v169_0 {z : P0} {st : List Value} {cu : Nat × Nat} {Q : Res → Mem → Prop} {σ : Mem} {x1 x2 x3 : Option Value} {u : Nat} : X z 169 0 [some (.ref u), x1, x2, x3] (st) cu σ Q = (X z 169 1 [some (.ref u), x1, x2, x3] (.ref u :: st) cu σ Q) := by
  rw [x169_0]
  rfl
theorem v169_1 {z : P0} {st : List Value} {cu : Nat × Nat} {Q : Res → Mem → Prop} {σ : Mem} {x0 x2 x3 : Option Value} {u : Int32} : X z 169 1 [x0, some (.int u), x2, x3] (st) cu σ Q = (X z 169 2 [x0, some (.int u), x2, x3] (.int u :: st) cu σ Q) := by
  rw [x169_1]
  rfl
theorem u169_2 {z : P0} {ls : Lcs} {st : List Value} {K : Nat → Nat × Nat} {I : Nat → Nat → Int32} {R : Nat → Nat → Option Nat} {L : Nat → Nat → Int64} {sz : Nat} {ex : Bool} {Q : Res → Mem → Prop} {a0 : Int32} : X z 169 2 ls (.int a0 :: st) (0, 0) (K, I, R, L, sz, ex) Q = (wsum st ≤ 8 ∧ X z 140 0 [some (.int a0)] [] (0, 0) (K, I, R, L, sz, ex) (aftr (X z) mT 169 2 ls st (0, 0) Q)) := v169_2 (c := 0) (n := 0)
theorem v169_5 {z : P0} {st : List Value} {cu : Nat × Nat} {Q : Res → Mem → Prop} {σ : Mem} {x0 x1 x2 x3 : Option Value} {u : Int32} : X z 169 5 [x0, x1, x2, x3] (.int u :: st) cu σ Q = (if u = nI 0 then X z 169 8 [x0, x1, x2, x3] (st) cu σ Q else X z 169 12 [x0, x1, x2, x3] (st) cu σ Q) := by
  rw [x169_5]
  rw [nI_0]
  obtain ⟨K, I, R, L, sz, ex⟩ := σ
  exact br_ne
theorem v169_8 {z : P0} {st : List Value} {cu : Nat × Nat} {Q : Res → Mem → Prop} {σ : Mem} {x0 x1 x2 x3 : Option Value} : X z 169 8 [x0, x1, x2, x3] (st) cu σ Q = (X z 169 9 [x0, x1, x2, x3] (.int (nI 1) :: st) cu σ Q) := by
  rw [x169_8]
  rfl
theorem v169_9 {z : P0} {st : List Value} {cu : Nat × Nat} {Q : Res → Mem → Prop} {σ : Mem} {x0 x1 x2 x3 : Option Value} : X z 169 9 [x0, x1, x2, x3] (st) cu σ Q = (X z 169 34 [x0, x1, x2, x3] (st) cu σ Q) := by
  rw [x169_9]
  rfl
theorem v169_12 {z : P0} {st : List Value} {cu : Nat × Nat} {Q : Res → Mem → Prop} {σ : Mem} {x0 x2 x3 : Option Value} {u : Int32} : X z 169 12 [x0, some (.int u), x2, x3] (st) cu σ Q = (X z 169 13 [x0, some (.int u), x2, x3] (.int u :: st) cu σ Q) := by
  rw [x169_12]
  rfl
theorem v169_13 {z : P0} {st : List Value} {cu : Nat × Nat} {Q : Res → Mem → Prop} {σ : Mem} {x0 x1 x3 : Option Value} {u : Int32} : X z 169 13 [x0, x1, some (.int u), x3] (st) cu σ Q = (X z 169 14 [x0, x1, some (.int u), x3] (.int u :: st) cu σ Q) := by
  rw [x169_13]
  rfl
theorem u169_14 {z : P0} {ls : Lcs} {st : List Value} {K : Nat → Nat × Nat} {I : Nat → Nat → Int32} {R : Nat → Nat → Option Nat} {L : Nat → Nat → Int64} {sz : Nat} {ex : Bool} {Q : Res → Mem → Prop} {a0 : Int32} {a1 : Int32} : X z 169 14 ls (.int a1 :: .int a0 :: st) (0, 0) (K, I, R, L, sz, ex) Q = (wsum st ≤ 8 ∧ X z 141 0 [some (.int a0), some (.int a1)] [] (0, 0) (K, I, R, L, sz, ex) (aftr (X z) mT 169 14 ls st (0, 0) Q)) := v169_14 (c := 0) (n := 0)
theorem v169_17 {z : P0} {st : List Value} {cu : Nat × Nat} {Q : Res → Mem → Prop} {σ : Mem} {x0 x1 x2 x3 : Option Value} {u : Int32} : X z 169 17 [x0, x1, x2, x3] (.int u :: st) cu σ Q = (if u = nI 0 then X z 169 33 [x0, x1, x2, x3] (st) cu σ Q else X z 169 20 [x0, x1, x2, x3] (st) cu σ Q) := by
  rw [x169_17]
  rw [nI_0]
  obtain ⟨K, I, R, L, sz, ex⟩ := σ
  exact br_ite
theorem v169_20 {z : P0} {st : List Value} {cu : Nat × Nat} {Q : Res → Mem → Prop} {σ : Mem} {x0 x1 x2 : Option Value} {u : Int32} : X z 169 20 [x0, x1, x2, some (.int u)] (st) cu σ Q = (X z 169 21 [x0, x1, x2, some (.int u)] (.int u :: st) cu σ Q) := by
  rw [x169_20]
  rfl
theorem v169_21 {z : P0} {st : List Value} {cu : Nat × Nat} {Q : Res → Mem → Prop} {σ : Mem} {x0 x1 x2 x3 : Option Value} : X z 169 21 [x0, x1, x2, x3] (st) cu σ Q = (X z 169 22 [x0, x1, x2, x3] (.int (nI 0) :: st) cu σ Q) := by
  rw [x169_21]
  rfl
theorem v169_22 {z : P0} {st : List Value} {cu : Nat × Nat} {Q : Res → Mem → Prop} {σ : Mem} {x0 x1 x2 x3 : Option Value} : X z 169 22 [x0, x1, x2, x3] (st) cu σ Q = (X z 169 23 [x0, x1, x2, x3] (.int (nI 3) :: st) cu σ Q) := by
  rw [x169_22]
  rfl
theorem u169_23 {z : P0} {ls : Lcs} {st : List Value} {K : Nat → Nat × Nat} {I : Nat → Nat → Int32} {R : Nat → Nat → Option Nat} {L : Nat → Nat → Int64} {sz : Nat} {ex : Bool} {Q : Res → Mem → Prop} {a0 : Int32} {a1 : Int32} {a2 : Int32} : X z 169 23 ls (.int a2 :: .int a1 :: .int a0 :: st) (0, 0) (K, I, R, L, sz, ex) Q = (wsum st ≤ 8 ∧ X z 106 0 [some (.int a0), some (.int a1), some (.int a2)] [] (0, 0) (K, I, R, L, sz, ex) (aftr (X z) mT 169 23 ls st (0, 0) Q)) := v169_23 (c := 0) (n := 0)
theorem v169_26 {z : P0} {st : List Value} {cu : Nat × Nat} {Q : Res → Mem → Prop} {σ : Mem} {x0 x1 x2 x3 : Option Value} {u : Int32} : X z 169 26 [x0, x1, x2, x3] (.int u :: st) cu σ Q = (if u = nI 0 then X z 169 33 [x0, x1, x2, x3] (st) cu σ Q else X z 169 29 [x0, x1, x2, x3] (st) cu σ Q) := by
  rw [x169_26]
  rw [nI_0]
  obtain ⟨K, I, R, L, sz, ex⟩ := σ
  exact br_ite
theorem v169_29 {z : P0} {st : List Value} {cu : Nat × Nat} {Q : Res → Mem → Prop} {σ : Mem} {x0 x1 x2 x3 : Option Value} : X z 169 29 [x0, x1, x2, x3] (st) cu σ Q = (X z 169 30 [x0, x1, x2, x3] (.int (nI 0) :: st) cu σ Q) := by
  rw [x169_29]
  rfl
theorem v169_30 {z : P0} {st : List Value} {cu : Nat × Nat} {Q : Res → Mem → Prop} {σ : Mem} {x0 x1 x2 x3 : Option Value} : X z 169 30 [x0, x1, x2, x3] (st) cu σ Q = (X z 169 34 [x0, x1, x2, x3] (st) cu σ Q) := by
  rw [x169_30]
  rfl
theorem v169_33 {z : P0} {st : List Value} {cu : Nat × Nat} {Q : Res → Mem → Prop} {σ : Mem} {x0 x1 x2 x3 : Option Value} : X z 169 33 [x0, x1, x2, x3] (st) cu σ Q = (X z 169 34 [x0, x1, x2, x3] (.int (nI 2) :: st) cu σ Q) := by
  rw [x169_33]
  rfl
theorem v169_34 {z : P0} {st : List Value} {cu : Nat × Nat} {Q : Res → Mem → Prop} {K : Nat → Nat × Nat} {I : Nat → Nat → Int32} {R : Nat → Nat → Option Nat} {L : Nat → Nat → Int64} {sz : Nat} {ex : Bool} {x0 x1 x2 x3 : Option Value} {u : Nat} {v : Int32} : X z 169 34 [x0, x1, x2, x3] (.int v :: .ref u :: st) cu (K, I, R, L, sz, ex) Q = ((K u).1 = 111 ∧ X z 169 37 [x0, x1, x2, x3] (st) cu (K, up2 I u 5 v, R, L, sz, ex) Q) := by
  rw [x169_34]
  exact i_putI
theorem v169_37 {z : P0} {st : List Value} {cu : Nat × Nat} {Q : Res → Mem → Prop} {σ : Mem} {x1 x2 x3 : Option Value} {u : Nat} : X z 169 37 [some (.ref u), x1, x2, x3] (st) cu σ Q = (X z 169 38 [some (.ref u), x1, x2, x3] (.ref u :: st) cu σ Q) := by
  rw [x169_37]
  rfl
theorem v169_38 {z : P0} {st : List Value} {cu : Nat × Nat} {Q : Res → Mem → Prop} {K : Nat → Nat × Nat} {I : Nat → Nat → Int32} {R : Nat → Nat → Option Nat} {L : Nat → Nat → Int64} {sz : Nat} {ex : Bool} {x0 x1 x2 x3 : Option Value} {u : Nat} : X z 169 38 [x0, x1, x2, x3] (.ref u :: st) cu (K, I, R, L, sz, ex) Q = ((K u).1 = 111 ∧ X z 169 41 [x0, x1, x2, x3] (.int (I u 5) :: st) cu (K, I, R, L, sz, ex) Q) := by
  rw [x169_38]
  rfl
theorem v169_41 {z : P0} {st : List Value} {cu : Nat × Nat} {Q : Res → Mem → Prop} {σ : Mem} {x0 x1 x2 x3 : Option Value} {u : Int32} : X z 169 41 [x0, x1, x2, x3] (.int u :: st) cu σ Q = (if nI 0 < u then X z 169 44 [x0, x1, x2, x3] (st) cu σ Q else X z 169 48 [x0, x1, x2, x3] (st) cu σ Q) := by
  rw [x169_41]
  rw [nI_0]
  obtain ⟨K, I, R, L, sz, ex⟩ := σ
  exact br_ge
theorem v169_44 {z : P0} {st : List Value} {cu : Nat × Nat} {Q : Res → Mem → Prop} {σ : Mem} {x0 x1 x2 x3 : Option Value} : X z 169 44 [x0, x1, x2, x3] (st) cu σ Q = (X z 169 45 [x0, x1, x2, x3] (.int (nI 0) :: st) cu σ Q) := by
  rw [x169_44]
  rfl
theorem v169_45 {z : P0} {st : List Value} {cu : Nat × Nat} {Q : Res → Mem → Prop} {σ : Mem} {x0 x1 x2 x3 : Option Value} : X z 169 45 [x0, x1, x2, x3] (st) cu σ Q = (X z 169 55 [x0, x1, x2, x3] (st) cu σ Q) := by
  rw [x169_45]
  rfl
theorem v169_48 {z : P0} {st : List Value} {cu : Nat × Nat} {Q : Res → Mem → Prop} {σ : Mem} {x1 x2 x3 : Option Value} {u : Nat} : X z 169 48 [some (.ref u), x1, x2, x3] (st) cu σ Q = (X z 169 49 [some (.ref u), x1, x2, x3] (.ref u :: st) cu σ Q) := by
  rw [x169_48]
  rfl
theorem v169_49 {z : P0} {st : List Value} {cu : Nat × Nat} {Q : Res → Mem → Prop} {σ : Mem} {x0 x2 x3 : Option Value} {u : Int32} : X z 169 49 [x0, some (.int u), x2, x3] (st) cu σ Q = (X z 169 50 [x0, some (.int u), x2, x3] (.int u :: st) cu σ Q) := by
  rw [x169_49]
  rfl
theorem v169_50 {z : P0} {st : List Value} {cu : Nat × Nat} {Q : Res → Mem → Prop} {σ : Mem} {x0 x1 x3 : Option Value} {u : Int32} : X z 169 50 [x0, x1, some (.int u), x3] (st) cu σ Q = (X z 169 51 [x0, x1, some (.int u), x3] (.int u :: st) cu σ Q) := by
  rw [x169_50]
  rfl
theorem v169_51 {z : P0} {st : List Value} {cu : Nat × Nat} {Q : Res → Mem → Prop} {σ : Mem} {x0 x1 x2 : Option Value} {u : Int32} : X z 169 51 [x0, x1, x2, some (.int u)] (st) cu σ Q = (X z 169 52 [x0, x1, x2, some (.int u)] (.int u :: st) cu σ Q) := by
  rw [x169_51]
  rfl
theorem u169_52 {z : P0} {ls : Lcs} {st : List Value} {K : Nat → Nat × Nat} {I : Nat → Nat → Int32} {R : Nat → Nat → Option Nat} {L : Nat → Nat → Int64} {sz : Nat} {ex : Bool} {Q : Res → Mem → Prop} {x : Nat} {a0 : Int32} {a1 : Int32} {a2 : Int32} : X z 169 52 ls (.int a2 :: .int a1 :: .int a0 :: .ref x :: st) (0, 0) (K, I, R, L, sz, ex) Q = ((K x).1 = 111 ∧ wsum st ≤ 8 ∧ X z 168 0 [some (.ref x), some (.int a0), some (.int a1), some (.int a2), none, none] [] (0, 0) (K, I, R, L, sz, ex) (aftr (X z) mT 169 52 ls st (0, 0) Q)) := v169_52 (c := 0) (n := 0)
theorem v169_55 {z : P0} {cu : Nat × Nat} {Q : Res → Mem → Prop} {σ : Mem} {x0 x1 x2 x3 : Option Value} {v : Int32} : X z 169 55 [x0, x1, x2, x3] ([.int v]) cu σ Q = (Q (.inl (some (.int v))) σ) := by
  rw [x169_55]
  exact propext ⟨fun h => h.2, fun h => ⟨trivial, h⟩⟩
theorem v170_0 {z : P0} {st : List Value} {cu : Nat × Nat} {Q : Res → Mem → Prop} {σ : Mem} {x0 x1 x2 x3 x4 x5 x6 : Option Value} : X z 170 0 [x0, x1, x2, x3, x4, x5, x6] (st) cu σ Q = (X z 170 1 [x0, x1, x2, x3, x4, x5, x6] (.int (nI 0) :: st) cu σ Q) := by
  rw [x170_0]
  rfl
theorem v170_1 {z : P0} {st : List Value} {cu : Nat × Nat} {Q : Res → Mem → Prop} {σ : Mem} {x0 x1 x2 x3 x4 x5 x6 : Option Value} {u : Int32} : X z 170 1 [x0, x1, x2, x3, x4, x5, x6] (.int u :: st) cu σ Q = (cat2 x0 = false ∧ X z 170 2 [x0, some (.int u), x2, x3, x4, x5, x6] (st) cu σ Q) := by
  rw [x170_1]
  obtain ⟨K, I, R, L, sz, ex⟩ := σ
  exact i_istore_n.trans sl_1
theorem v170_2 {z : P0} {st : List Value} {cu : Nat × Nat} {Q : Res → Mem → Prop} {σ : Mem} {x0 x1 x2 x3 x4 x5 x6 : Option Value} : X z 170 2 [x0, x1, x2, x3, x4, x5, x6] (st) cu σ Q = (X z 170 3 [x0, x1, x2, x3, x4, x5, x6] (.int (nI 4294967295) :: st) cu σ Q) := by
  rw [x170_2]
  rw [neg1]
  rfl
theorem v170_3 {z : P0} {st : List Value} {cu : Nat × Nat} {Q : Res → Mem → Prop} {σ : Mem} {x0 x1 x2 x3 x4 x5 x6 : Option Value} {u : Int32} : X z 170 3 [x0, x1, x2, x3, x4, x5, x6] (.int u :: st) cu σ Q = (cat2 x1 = false ∧ X z 170 4 [x0, x1, some (.int u), x3, x4, x5, x6] (st) cu σ Q) := by
  rw [x170_3]
  obtain ⟨K, I, R, L, sz, ex⟩ := σ
  exact i_istore_n.trans sl_2
theorem v170_4 {z : P0} {st : List Value} {cu : Nat × Nat} {Q : Res → Mem → Prop} {σ : Mem} {x0 x1 x2 x3 x4 x5 x6 : Option Value} : X z 170 4 [x0, x1, x2, x3, x4, x5, x6] (st) cu σ Q = (X z 170 5 [x0, x1, x2, x3, x4, x5, x6] (.int (nI 0) :: st) cu σ Q) := by
  rw [x170_4]
  rfl
theorem v170_5 {z : P0} {st : List Value} {cu : Nat × Nat} {Q : Res → Mem → Prop} {σ : Mem} {x0 x1 x2 x3 x4 x5 x6 : Option Value} {u : Int32} : X z 170 5 [x0, x1, x2, x3, x4, x5, x6] (.int u :: st) cu σ Q = (cat2 x2 = false ∧ X z 170 6 [x0, x1, x2, some (.int u), x4, x5, x6] (st) cu σ Q) := by
  rw [x170_5]
  obtain ⟨K, I, R, L, sz, ex⟩ := σ
  exact i_istore_n.trans sl_3
theorem v170_6 {z : P0} {st : List Value} {cu : Nat × Nat} {Q : Res → Mem → Prop} {σ : Mem} {x0 x1 x2 x3 x4 x5 x6 : Option Value} : X z 170 6 [x0, x1, x2, x3, x4, x5, x6] (st) cu σ Q = (X z 170 7 [x0, x1, x2, x3, x4, x5, x6] (.int (nI 1) :: st) cu σ Q) := by
  rw [x170_6]
  rfl
theorem v170_7 {z : P0} {st : List Value} {cu : Nat × Nat} {Q : Res → Mem → Prop} {σ : Mem} {x0 x1 x2 x3 x4 x5 x6 : Option Value} {u : Int32} : X z 170 7 [x0, x1, x2, x3, x4, x5, x6] (.int u :: st) cu σ Q = (cat2 x3 = false ∧ X z 170 9 [x0, x1, x2, x3, some (.int u), x5, x6] (st) cu σ Q) := by
  rw [x170_7]
  obtain ⟨K, I, R, L, sz, ex⟩ := σ
  exact i_istore.trans sl_4
theorem v170_9 {z : P0} {st : List Value} {cu : Nat × Nat} {Q : Res → Mem → Prop} {σ : Mem} {x0 x1 x2 x3 x5 x6 : Option Value} {u : Int32} : X z 170 9 [x0, x1, x2, x3, some (.int u), x5, x6] (st) cu σ Q = (X z 170 11 [x0, x1, x2, x3, some (.int u), x5, x6] (.int u :: st) cu σ Q) := by
  rw [x170_9]
  rfl
theorem v170_11 {z : P0} {st : List Value} {cu : Nat × Nat} {Q : Res → Mem → Prop} {σ : Mem} {x0 x1 x2 x3 x4 x5 x6 : Option Value} : X z 170 11 [x0, x1, x2, x3, x4, x5, x6] (st) cu σ Q = (X z 170 13 [x0, x1, x2, x3, x4, x5, x6] (.int (nI 6) :: st) cu σ Q) := by
  rw [x170_11]
  rfl
theorem v170_13 {z : P0} {st : List Value} {cu : Nat × Nat} {Q : Res → Mem → Prop} {σ : Mem} {x0 x1 x2 x3 x4 x5 x6 : Option Value} {u v : Int32} : X z 170 13 [x0, x1, x2, x3, x4, x5, x6] (.int v :: .int u :: st) cu σ Q = (if v < u then X z 170 69 [x0, x1, x2, x3, x4, x5, x6] (st) cu σ Q else X z 170 16 [x0, x1, x2, x3, x4, x5, x6] (st) cu σ Q) := by
  rw [x170_13]
  obtain ⟨K, I, R, L, sz, ex⟩ := σ
  exact br_ite
theorem v170_16 {z : P0} {st : List Value} {cu : Nat × Nat} {Q : Res → Mem → Prop} {σ : Mem} {x1 x2 x3 x4 x5 x6 : Option Value} {u : Nat} : X z 170 16 [some (.ref u), x1, x2, x3, x4, x5, x6] (st) cu σ Q = (X z 170 17 [some (.ref u), x1, x2, x3, x4, x5, x6] (.ref u :: st) cu σ Q) := by
  rw [x170_16]
  rfl
theorem v170_17 {z : P0} {st : List Value} {cu : Nat × Nat} {Q : Res → Mem → Prop} {σ : Mem} {x0 x1 x2 x3 x4 x5 x6 : Option Value} : X z 170 17 [x0, x1, x2, x3, x4, x5, x6] (st) cu σ Q = (X z 170 18 [x0, x1, x2, x3, x4, x5, x6] (.int (nI 2) :: st) cu σ Q) := by
  rw [x170_17]
  rfl
theorem v170_18 {z : P0} {st : List Value} {cu : Nat × Nat} {Q : Res → Mem → Prop} {σ : Mem} {x0 x1 x2 x3 x5 x6 : Option Value} {u : Int32} : X z 170 18 [x0, x1, x2, x3, some (.int u), x5, x6] (st) cu σ Q = (X z 170 20 [x0, x1, x2, x3, some (.int u), x5, x6] (.int u :: st) cu σ Q) := by
  rw [x170_18]
  rfl
theorem v170_20 {z : P0} {st : List Value} {cu : Nat × Nat} {Q : Res → Mem → Prop} {σ : Mem} {x0 x1 x2 x3 x4 x5 x6 : Option Value} : X z 170 20 [x0, x1, x2, x3, x4, x5, x6] (st) cu σ Q = (X z 170 21 [x0, x1, x2, x3, x4, x5, x6] (.int (nI 1) :: st) cu σ Q) := by
  rw [x170_20]
  rfl
theorem u170_21 {z : P0} {ls : Lcs} {st : List Value} {K : Nat → Nat × Nat} {I : Nat → Nat → Int32} {R : Nat → Nat → Option Nat} {L : Nat → Nat → Int64} {sz : Nat} {ex : Bool} {Q : Res → Mem → Prop} {x : Nat} {a0 : Int32} {a1 : Int32} {a2 : Int32} : X z 170 21 ls (.int a2 :: .int a1 :: .int a0 :: .ref x :: st) (0, 0) (K, I, R, L, sz, ex) Q = ((K x).1 = 111 ∧ wsum st ≤ 8 ∧ X z 168 0 [some (.ref x), some (.int a0), some (.int a1), some (.int a2), none, none] [] (0, 0) (K, I, R, L, sz, ex) (aftr (X z) mT 170 21 ls st (0, 0) Q)) := v170_21 (c := 0) (n := 0)
theorem v170_24 {z : P0} {st : List Value} {cu : Nat × Nat} {Q : Res → Mem → Prop} {σ : Mem} {x0 x1 x2 x3 x4 x5 x6 : Option Value} {u : Int32} : X z 170 24 [x0, x1, x2, x3, x4, x5, x6] (.int u :: st) cu σ Q = (cat2 x4 = false ∧ X z 170 26 [x0, x1, x2, x3, x4, some (.int u), x6] (st) cu σ Q) := by
  rw [x170_24]
  obtain ⟨K, I, R, L, sz, ex⟩ := σ
  exact i_istore.trans sl_5
theorem v170_26 {z : P0} {st : List Value} {cu : Nat × Nat} {Q : Res → Mem → Prop} {σ : Mem} {x1 x2 x3 x4 x5 x6 : Option Value} {u : Nat} : X z 170 26 [some (.ref u), x1, x2, x3, x4, x5, x6] (st) cu σ Q = (X z 170 27 [some (.ref u), x1, x2, x3, x4, x5, x6] (.ref u :: st) cu σ Q) := by
  rw [x170_26]
  rfl
theorem v170_27 {z : P0} {st : List Value} {cu : Nat × Nat} {Q : Res → Mem → Prop} {σ : Mem} {x0 x1 x2 x3 x4 x5 x6 : Option Value} : X z 170 27 [x0, x1, x2, x3, x4, x5, x6] (st) cu σ Q = (X z 170 28 [x0, x1, x2, x3, x4, x5, x6] (.int (nI 2) :: st) cu σ Q) := by
  rw [x170_27]
  rfl
theorem v170_28 {z : P0} {st : List Value} {cu : Nat × Nat} {Q : Res → Mem → Prop} {σ : Mem} {x0 x1 x2 x3 x5 x6 : Option Value} {u : Int32} : X z 170 28 [x0, x1, x2, x3, some (.int u), x5, x6] (st) cu σ Q = (X z 170 30 [x0, x1, x2, x3, some (.int u), x5, x6] (.int u :: st) cu σ Q) := by
  rw [x170_28]
  rfl
theorem v170_30 {z : P0} {st : List Value} {cu : Nat × Nat} {Q : Res → Mem → Prop} {σ : Mem} {x0 x1 x2 x3 x4 x5 x6 : Option Value} : X z 170 30 [x0, x1, x2, x3, x4, x5, x6] (st) cu σ Q = (X z 170 31 [x0, x1, x2, x3, x4, x5, x6] (.int (nI 3) :: st) cu σ Q) := by
  rw [x170_30]
  rfl
theorem u170_31 {z : P0} {ls : Lcs} {st : List Value} {K : Nat → Nat × Nat} {I : Nat → Nat → Int32} {R : Nat → Nat → Option Nat} {L : Nat → Nat → Int64} {sz : Nat} {ex : Bool} {Q : Res → Mem → Prop} {x : Nat} {a0 : Int32} {a1 : Int32} {a2 : Int32} : X z 170 31 ls (.int a2 :: .int a1 :: .int a0 :: .ref x :: st) (0, 0) (K, I, R, L, sz, ex) Q = ((K x).1 = 111 ∧ wsum st ≤ 8 ∧ X z 168 0 [some (.ref x), some (.int a0), some (.int a1), some (.int a2), none, none] [] (0, 0) (K, I, R, L, sz, ex) (aftr (X z) mT 170 31 ls st (0, 0) Q)) := v170_31 (c := 0) (n := 0)
theorem v170_34 {z : P0} {st : List Value} {cu : Nat × Nat} {Q : Res → Mem → Prop} {σ : Mem} {x0 x1 x2 x3 x4 x5 x6 : Option Value} {u : Int32} : X z 170 34 [x0, x1, x2, x3, x4, x5, x6] (.int u :: st) cu σ Q = (cat2 x5 = false ∧ X z 170 36 [x0, x1, x2, x3, x4, x5, some (.int u)] (st) cu σ Q) := by
  rw [x170_34]
  obtain ⟨K, I, R, L, sz, ex⟩ := σ
  exact i_istore.trans sl_6
theorem v170_36 {z : P0} {st : List Value} {cu : Nat × Nat} {Q : Res → Mem → Prop} {σ : Mem} {x0 x1 x2 x3 x4 x6 : Option Value} {u : Int32} : X z 170 36 [x0, x1, x2, x3, x4, some (.int u), x6] (st) cu σ Q = (X z 170 38 [x0, x1, x2, x3, x4, some (.int u), x6] (.int u :: st) cu σ Q) := by
  rw [x170_36]
  rfl
theorem v170_38 {z : P0} {st : List Value} {cu : Nat × Nat} {Q : Res → Mem → Prop} {σ : Mem} {x0 x1 x3 x4 x5 x6 : Option Value} {u : Int32} : X z 170 38 [x0, x1, some (.int u), x3, x4, x5, x6] (st) cu σ Q = (X z 170 39 [x0, x1, some (.int u), x3, x4, x5, x6] (.int u :: st) cu σ Q) := by
  rw [x170_38]
  rfl
theorem v170_39 {z : P0} {st : List Value} {cu : Nat × Nat} {Q : Res → Mem → Prop} {σ : Mem} {x0 x1 x2 x3 x4 x5 x6 : Option Value} {u v : Int32} : X z 170 39 [x0, x1, x2, x3, x4, x5, x6] (.int v :: .int u :: st) cu σ Q = (if v < u then X z 170 54 [x0, x1, x2, x3, x4, x5, x6] (st) cu σ Q else X z 170 42 [x0, x1, x2, x3, x4, x5, x6] (st) cu σ Q) := by
  rw [x170_39]
  obtain ⟨K, I, R, L, sz, ex⟩ := σ
  exact br_ite
theorem v170_42 {z : P0} {st : List Value} {cu : Nat × Nat} {Q : Res → Mem → Prop} {σ : Mem} {x0 x1 x2 x3 x4 x6 : Option Value} {u : Int32} : X z 170 42 [x0, x1, x2, x3, x4, some (.int u), x6] (st) cu σ Q = (X z 170 44 [x0, x1, x2, x3, x4, some (.int u), x6] (.int u :: st) cu σ Q) := by
  rw [x170_42]
  rfl
theorem v170_44 {z : P0} {st : List Value} {cu : Nat × Nat} {Q : Res → Mem → Prop} {σ : Mem} {x0 x1 x3 x4 x5 x6 : Option Value} {u : Int32} : X z 170 44 [x0, x1, some (.int u), x3, x4, x5, x6] (st) cu σ Q = (X z 170 45 [x0, x1, some (.int u), x3, x4, x5, x6] (.int u :: st) cu σ Q) := by
  rw [x170_44]
  rfl
theorem v170_45 {z : P0} {st : List Value} {cu : Nat × Nat} {Q : Res → Mem → Prop} {σ : Mem} {x0 x1 x2 x3 x4 x5 x6 : Option Value} {u v : Int32} : X z 170 45 [x0, x1, x2, x3, x4, x5, x6] (.int v :: .int u :: st) cu σ Q = (if u = v then X z 170 48 [x0, x1, x2, x3, x4, x5, x6] (st) cu σ Q else X z 170 63 [x0, x1, x2, x3, x4, x5, x6] (st) cu σ Q) := by
  rw [x170_45]
  obtain ⟨K, I, R, L, sz, ex⟩ := σ
  exact br_ne
theorem v170_48 {z : P0} {st : List Value} {cu : Nat × Nat} {Q : Res → Mem → Prop} {σ : Mem} {x0 x1 x2 x3 x4 x5 : Option Value} {u : Int32} : X z 170 48 [x0, x1, x2, x3, x4, x5, some (.int u)] (st) cu σ Q = (X z 170 50 [x0, x1, x2, x3, x4, x5, some (.int u)] (.int u :: st) cu σ Q) := by
  rw [x170_48]
  rfl
theorem v170_50 {z : P0} {st : List Value} {cu : Nat × Nat} {Q : Res → Mem → Prop} {σ : Mem} {x0 x1 x2 x4 x5 x6 : Option Value} {u : Int32} : X z 170 50 [x0, x1, x2, some (.int u), x4, x5, x6] (st) cu σ Q = (X z 170 51 [x0, x1, x2, some (.int u), x4, x5, x6] (.int u :: st) cu σ Q) := by
  rw [x170_50]
  rfl
theorem v170_51 {z : P0} {st : List Value} {cu : Nat × Nat} {Q : Res → Mem → Prop} {σ : Mem} {x0 x1 x2 x3 x4 x5 x6 : Option Value} {u v : Int32} : X z 170 51 [x0, x1, x2, x3, x4, x5, x6] (.int v :: .int u :: st) cu σ Q = (if u < v then X z 170 54 [x0, x1, x2, x3, x4, x5, x6] (st) cu σ Q else X z 170 63 [x0, x1, x2, x3, x4, x5, x6] (st) cu σ Q) := by
  rw [x170_51]
  obtain ⟨K, I, R, L, sz, ex⟩ := σ
  exact br_ge
theorem v170_54 {z : P0} {st : List Value} {cu : Nat × Nat} {Q : Res → Mem → Prop} {σ : Mem} {x0 x1 x2 x3 x5 x6 : Option Value} {u : Int32} : X z 170 54 [x0, x1, x2, x3, some (.int u), x5, x6] (st) cu σ Q = (X z 170 56 [x0, x1, x2, x3, some (.int u), x5, x6] (.int u :: st) cu σ Q) := by
  rw [x170_54]
  rfl
theorem v170_56 {z : P0} {st : List Value} {cu : Nat × Nat} {Q : Res → Mem → Prop} {σ : Mem} {x0 x1 x2 x3 x4 x5 x6 : Option Value} {u : Int32} : X z 170 56 [x0, x1, x2, x3, x4, x5, x6] (.int u :: st) cu σ Q = (cat2 x0 = false ∧ X z 170 57 [x0, some (.int u), x2, x3, x4, x5, x6] (st) cu σ Q) := by
  rw [x170_56]
  obtain ⟨K, I, R, L, sz, ex⟩ := σ
  exact i_istore_n.trans sl_1
theorem v170_57 {z : P0} {st : List Value} {cu : Nat × Nat} {Q : Res → Mem → Prop} {σ : Mem} {x0 x1 x2 x3 x4 x6 : Option Value} {u : Int32} : X z 170 57 [x0, x1, x2, x3, x4, some (.int u), x6] (st) cu σ Q = (X z 170 59 [x0, x1, x2, x3, x4, some (.int u), x6] (.int u :: st) cu σ Q) := by
  rw [x170_57]
  rfl
theorem v170_59 {z : P0} {st : List Value} {cu : Nat × Nat} {Q : Res → Mem → Prop} {σ : Mem} {x0 x1 x2 x3 x4 x5 x6 : Option Value} {u : Int32} : X z 170 59 [x0, x1, x2, x3, x4, x5, x6] (.int u :: st) cu σ Q = (cat2 x1 = false ∧ X z 170 60 [x0, x1, some (.int u), x3, x4, x5, x6] (st) cu σ Q) := by
  rw [x170_59]
  obtain ⟨K, I, R, L, sz, ex⟩ := σ
  exact i_istore_n.trans sl_2
theorem v170_60 {z : P0} {st : List Value} {cu : Nat × Nat} {Q : Res → Mem → Prop} {σ : Mem} {x0 x1 x2 x3 x4 x5 : Option Value} {u : Int32} : X z 170 60 [x0, x1, x2, x3, x4, x5, some (.int u)] (st) cu σ Q = (X z 170 62 [x0, x1, x2, x3, x4, x5, some (.int u)] (.int u :: st) cu σ Q) := by
  rw [x170_60]
  rfl
theorem v170_62 {z : P0} {st : List Value} {cu : Nat × Nat} {Q : Res → Mem → Prop} {σ : Mem} {x0 x1 x2 x3 x4 x5 x6 : Option Value} {u : Int32} : X z 170 62 [x0, x1, x2, x3, x4, x5, x6] (.int u :: st) cu σ Q = (cat2 x2 = false ∧ X z 170 63 [x0, x1, x2, some (.int u), x4, x5, x6] (st) cu σ Q) := by
  rw [x170_62]
  obtain ⟨K, I, R, L, sz, ex⟩ := σ
  exact i_istore_n.trans sl_3
theorem v170_63 {z : P0} {st : List Value} {cu : Nat × Nat} {Q : Res → Mem → Prop} {σ : Mem} {x0 x1 x2 x3 x5 x6 : Option Value} {u : Int32} : X z 170 63 [x0, x1, x2, x3, some (.int u), x5, x6] (st) cu σ Q = (cat2 x3 = false ∧ X z 170 66 [x0, x1, x2, x3, some (.int (u + nI 1)), x5, x6] (st) cu σ Q) := by
  rw [x170_63]
  obtain ⟨K, I, R, L, sz, ex⟩ := σ
  exact i_iinc.trans (gl_4.trans (ldI_i.trans sl_4))
theorem v170_66 {z : P0} {st : List Value} {cu : Nat × Nat} {Q : Res → Mem → Prop} {σ : Mem} {x0 x1 x2 x3 x4 x5 x6 : Option Value} : X z 170 66 [x0, x1, x2, x3, x4, x5, x6] (st) cu σ Q = (X z 170 9 [x0, x1, x2, x3, x4, x5, x6] (st) cu σ Q) := by
  rw [x170_66]
  rfl
theorem v170_69 {z : P0} {st : List Value} {cu : Nat × Nat} {Q : Res → Mem → Prop} {σ : Mem} {x0 x2 x3 x4 x5 x6 : Option Value} {u : Int32} : X z 170 69 [x0, some (.int u), x2, x3, x4, x5, x6] (st) cu σ Q = (X z 170 70 [x0, some (.int u), x2, x3, x4, x5, x6] (.int u :: st) cu σ Q) := by
  rw [x170_69]
  rfl
theorem v170_70 {z : P0} {cu : Nat × Nat} {Q : Res → Mem → Prop} {σ : Mem} {x0 x1 x2 x3 x4 x5 x6 : Option Value} {v : Int32} : X z 170 70 [x0, x1, x2, x3, x4, x5, x6] ([.int v]) cu σ Q = (Q (.inl (some (.int v))) σ) := by
  rw [x170_70]
  exact propext ⟨fun h => h.2, fun h => ⟨trivial, h⟩⟩
theorem v171_0 {z : P0} {st : List Value} {cu : Nat × Nat} {Q : Res → Mem → Prop} {σ : Mem} {u : Nat} : X z 171 0 [some (.ref u)] (st) cu σ Q = (X z 171 1 [some (.ref u)] (.ref u :: st) cu σ Q) := by
  rw [x171_0]
  rfl
theorem v171_1 {z : P0} {st : List Value} {cu : Nat × Nat} {Q : Res → Mem → Prop} {σ : Mem} {x0 : Option Value} : X z 171 1 [x0] (st) cu σ Q = (X z 171 2 [x0] (.int (nI 0) :: st) cu σ Q) := by
  rw [x171_1]
  rfl
theorem v171_2 {z : P0} {st : List Value} {cu : Nat × Nat} {Q : Res → Mem → Prop} {K : Nat → Nat × Nat} {I : Nat → Nat → Int32} {R : Nat → Nat → Option Nat} {L : Nat → Nat → Int64} {sz : Nat} {ex : Bool} {x0 : Option Value} {u : Nat} {v : Int32} : X z 171 2 [x0] (.int v :: .ref u :: st) cu (K, I, R, L, sz, ex) Q = ((K u).1 = 111 ∧ X z 171 5 [x0] (st) cu (K, up2 I u 5 v, R, L, sz, ex) Q) := by
  rw [x171_2]
  exact i_putI
theorem v171_5 {z : P0} {st : List Value} {cu : Nat × Nat} {Q : Res → Mem → Prop} {σ : Mem} {u : Nat} : X z 171 5 [some (.ref u)] (st) cu σ Q = (X z 171 6 [some (.ref u)] (.ref u :: st) cu σ Q) := by
  rw [x171_5]
  rfl
theorem u171_6 {z : P0} {ls : Lcs} {st : List Value} {K : Nat → Nat × Nat} {I : Nat → Nat → Int32} {R : Nat → Nat → Option Nat} {L : Nat → Nat → Int64} {sz : Nat} {ex : Bool} {Q : Res → Mem → Prop} {x : Nat} : X z 171 6 ls (.ref x :: st) (0, 0) (K, I, R, L, sz, ex) Q = ((K x).1 = 111 ∧ wsum st ≤ 8 ∧ X z 170 0 [some (.ref x), none, none, none, none, none, none] [] (0, 0) (K, I, R, L, sz, ex) (aftr (X z) mT 171 6 ls st (0, 0) Q)) := v171_6 (c := 0) (n := 0)
theorem v171_9 {z : P0} {cu : Nat × Nat} {Q : Res → Mem → Prop} {σ : Mem} {x0 : Option Value} {v : Int32} : X z 171 9 [x0] ([.int v]) cu σ Q = (Q (.inl (some (.int v))) σ) := by
  rw [x171_9]
  exact propext ⟨fun h => h.2, fun h => ⟨trivial, h⟩⟩
theorem v172_0 {z : P0} {st : List Value} {cu : Nat × Nat} {Q : Res → Mem → Prop} {σ : Mem} {x1 x2 x3 : Option Value} {u : Nat} : X z 172 0 [some (.ref u), x1, x2, x3] (st) cu σ Q = (X z 172 1 [some (.ref u), x1, x2, x3] (.ref u :: st) cu σ Q) := by
  rw [x172_0]
  rfl
theorem v172_1 {z : P0} {st : List Value} {cu : Nat × Nat} {Q : Res → Mem → Prop} {σ : Mem} {x0 x1 x2 x3 : Option Value} : X z 172 1 [x0, x1, x2, x3] (st) cu σ Q = (X z 172 2 [x0, x1, x2, x3] (.int (nI 0) :: st) cu σ Q) := by
  rw [x172_1]
  rfl
theorem v172_2 {z : P0} {st : List Value} {cu : Nat × Nat} {Q : Res → Mem → Prop} {σ : Mem} {x0 x1 x2 x3 : Option Value} : X z 172 2 [x0, x1, x2, x3] (st) cu σ Q = (X z 172 4 [x0, x1, x2, x3] (.int (nI 40) :: st) cu σ Q) := by
  rw [x172_2]
  rfl
theorem v172_4 {z : P0} {st : List Value} {cu : Nat × Nat} {Q : Res → Mem → Prop} {σ : Mem} {x0 x1 x2 x3 : Option Value} : X z 172 4 [x0, x1, x2, x3] (st) cu σ Q = (X z 172 5 [x0, x1, x2, x3] (.int (nI 0) :: st) cu σ Q) := by
  rw [x172_4]
  rfl
theorem u172_5 {z : P0} {ls : Lcs} {st : List Value} {K : Nat → Nat × Nat} {I : Nat → Nat → Int32} {R : Nat → Nat → Option Nat} {L : Nat → Nat → Int64} {sz : Nat} {ex : Bool} {Q : Res → Mem → Prop} {x : Nat} {a0 : Int32} {a1 : Int32} {a2 : Int32} : X z 172 5 ls (.int a2 :: .int a1 :: .int a0 :: .ref x :: st) (0, 0) (K, I, R, L, sz, ex) Q = ((K x).1 = 111 ∧ wsum st ≤ 8 ∧ X z 168 0 [some (.ref x), some (.int a0), some (.int a1), some (.int a2), none, none] [] (0, 0) (K, I, R, L, sz, ex) (aftr (X z) mT 172 5 ls st (0, 0) Q)) := v172_5 (c := 0) (n := 0)
theorem v172_8 {z : P0} {st : List Value} {cu : Nat × Nat} {Q : Res → Mem → Prop} {σ : Mem} {x0 x1 x2 x3 : Option Value} {u : Int32} : X z 172 8 [x0, x1, x2, x3] (.int u :: st) cu σ Q = (cat2 x0 = false ∧ X z 172 9 [x0, some (.int u), x2, x3] (st) cu σ Q) := by
  rw [x172_8]
  obtain ⟨K, I, R, L, sz, ex⟩ := σ
  exact i_istore_n.trans sl_1
theorem v172_9 {z : P0} {st : List Value} {cu : Nat × Nat} {Q : Res → Mem → Prop} {σ : Mem} {x1 x2 x3 : Option Value} {u : Nat} : X z 172 9 [some (.ref u), x1, x2, x3] (st) cu σ Q = (X z 172 10 [some (.ref u), x1, x2, x3] (.ref u :: st) cu σ Q) := by
  rw [x172_9]
  rfl
theorem v172_10 {z : P0} {st : List Value} {cu : Nat × Nat} {Q : Res → Mem → Prop} {σ : Mem} {x0 x1 x2 x3 : Option Value} : X z 172 10 [x0, x1, x2, x3] (st) cu σ Q = (X z 172 11 [x0, x1, x2, x3] (.int (nI 0) :: st) cu σ Q) := by
  rw [x172_10]
  rfl
theorem v172_11 {z : P0} {st : List Value} {cu : Nat × Nat} {Q : Res → Mem → Prop} {σ : Mem} {x0 x1 x2 x3 : Option Value} : X z 172 11 [x0, x1, x2, x3] (st) cu σ Q = (X z 172 13 [x0, x1, x2, x3] (.int (nI 40) :: st) cu σ Q) := by
  rw [x172_11]
  rfl
theorem v172_13 {z : P0} {st : List Value} {cu : Nat × Nat} {Q : Res → Mem → Prop} {σ : Mem} {x0 x1 x2 x3 : Option Value} : X z 172 13 [x0, x1, x2, x3] (st) cu σ Q = (X z 172 14 [x0, x1, x2, x3] (.int (nI 2) :: st) cu σ Q) := by
  rw [x172_13]
  rfl
theorem u172_14 {z : P0} {ls : Lcs} {st : List Value} {K : Nat → Nat × Nat} {I : Nat → Nat → Int32} {R : Nat → Nat → Option Nat} {L : Nat → Nat → Int64} {sz : Nat} {ex : Bool} {Q : Res → Mem → Prop} {x : Nat} {a0 : Int32} {a1 : Int32} {a2 : Int32} : X z 172 14 ls (.int a2 :: .int a1 :: .int a0 :: .ref x :: st) (0, 0) (K, I, R, L, sz, ex) Q = ((K x).1 = 111 ∧ wsum st ≤ 8 ∧ X z 168 0 [some (.ref x), some (.int a0), some (.int a1), some (.int a2), none, none] [] (0, 0) (K, I, R, L, sz, ex) (aftr (X z) mT 172 14 ls st (0, 0) Q)) := v172_14 (c := 0) (n := 0)
theorem v172_17 {z : P0} {st : List Value} {cu : Nat × Nat} {Q : Res → Mem → Prop} {σ : Mem} {x0 x1 x2 x3 : Option Value} {u : Int32} : X z 172 17 [x0, x1, x2, x3] (.int u :: st) cu σ Q = (cat2 x1 = false ∧ X z 172 18 [x0, x1, some (.int u), x3] (st) cu σ Q) := by
  rw [x172_17]
  obtain ⟨K, I, R, L, sz, ex⟩ := σ
  exact i_istore_n.trans sl_2
theorem v172_18 {z : P0} {st : List Value} {cu : Nat × Nat} {Q : Res → Mem → Prop} {σ : Mem} {x0 x1 x2 x3 : Option Value} : X z 172 18 [x0, x1, x2, x3] (st) cu σ Q = (X z 172 19 [x0, x1, x2, x3] (.int (nI 5) :: st) cu σ Q) := by
  rw [x172_18]
  rfl
theorem v172_19 {z : P0} {st : List Value} {cu : Nat × Nat} {Q : Res → Mem → Prop} {σ : Mem} {x0 x1 x2 x3 : Option Value} {u : Int32} : X z 172 19 [x0, x1, x2, x3] (.int u :: st) cu σ Q = (cat2 x2 = false ∧ X z 172 20 [x0, x1, x2, some (.int u)] (st) cu σ Q) := by
  rw [x172_19]
  obtain ⟨K, I, R, L, sz, ex⟩ := σ
  exact i_istore_n.trans sl_3
theorem v172_20 {z : P0} {st : List Value} {cu : Nat × Nat} {Q : Res → Mem → Prop} {σ : Mem} {x1 x2 x3 : Option Value} {u : Nat} : X z 172 20 [some (.ref u), x1, x2, x3] (st) cu σ Q = (X z 172 21 [some (.ref u), x1, x2, x3] (.ref u :: st) cu σ Q) := by
  rw [x172_20]
  rfl
theorem v172_21 {z : P0} {st : List Value} {cu : Nat × Nat} {Q : Res → Mem → Prop} {σ : Mem} {x0 x1 x2 x3 : Option Value} : X z 172 21 [x0, x1, x2, x3] (st) cu σ Q = (X z 172 22 [x0, x1, x2, x3] (.int (nI 0) :: st) cu σ Q) := by
  rw [x172_21]
  rfl
theorem v172_22 {z : P0} {st : List Value} {cu : Nat × Nat} {Q : Res → Mem → Prop} {σ : Mem} {x0 x1 x2 : Option Value} {u : Int32} : X z 172 22 [x0, x1, x2, some (.int u)] (st) cu σ Q = (X z 172 23 [x0, x1, x2, some (.int u)] (.int u :: st) cu σ Q) := by
  rw [x172_22]
  rfl
theorem v172_23 {z : P0} {st : List Value} {cu : Nat × Nat} {Q : Res → Mem → Prop} {σ : Mem} {x0 x1 x2 x3 : Option Value} : X z 172 23 [x0, x1, x2, x3] (st) cu σ Q = (X z 172 24 [x0, x1, x2, x3] (.int (nI 0) :: st) cu σ Q) := by
  rw [x172_23]
  rfl
theorem u172_24 {z : P0} {ls : Lcs} {st : List Value} {K : Nat → Nat × Nat} {I : Nat → Nat → Int32} {R : Nat → Nat → Option Nat} {L : Nat → Nat → Int64} {sz : Nat} {ex : Bool} {Q : Res → Mem → Prop} {x : Nat} {a0 : Int32} {a1 : Int32} {a2 : Int32} : X z 172 24 ls (.int a2 :: .int a1 :: .int a0 :: .ref x :: st) (0, 0) (K, I, R, L, sz, ex) Q = ((K x).1 = 111 ∧ wsum st ≤ 8 ∧ X z 168 0 [some (.ref x), some (.int a0), some (.int a1), some (.int a2), none, none] [] (0, 0) (K, I, R, L, sz, ex) (aftr (X z) mT 172 24 ls st (0, 0) Q)) := v172_24 (c := 0) (n := 0)
theorem v172_27 {z : P0} {st : List Value} {cu : Nat × Nat} {Q : Res → Mem → Prop} {σ : Mem} {x0 x2 x3 : Option Value} {u : Int32} : X z 172 27 [x0, some (.int u), x2, x3] (st) cu σ Q = (X z 172 28 [x0, some (.int u), x2, x3] (.int u :: st) cu σ Q) := by
  rw [x172_27]
  rfl
theorem v172_28 {z : P0} {st : List Value} {cu : Nat × Nat} {Q : Res → Mem → Prop} {σ : Mem} {x0 x1 x2 x3 : Option Value} {u v : Int32} : X z 172 28 [x0, x1, x2, x3] (.int v :: .int u :: st) cu σ Q = (if u = v then X z 172 31 [x0, x1, x2, x3] (st) cu σ Q else X z 172 42 [x0, x1, x2, x3] (st) cu σ Q) := by
  rw [x172_28]
  obtain ⟨K, I, R, L, sz, ex⟩ := σ
  exact br_ne
theorem v172_31 {z : P0} {st : List Value} {cu : Nat × Nat} {Q : Res → Mem → Prop} {σ : Mem} {x1 x2 x3 : Option Value} {u : Nat} : X z 172 31 [some (.ref u), x1, x2, x3] (st) cu σ Q = (X z 172 32 [some (.ref u), x1, x2, x3] (.ref u :: st) cu σ Q) := by
  rw [x172_31]
  rfl
theorem v172_32 {z : P0} {st : List Value} {cu : Nat × Nat} {Q : Res → Mem → Prop} {σ : Mem} {x0 x1 x2 x3 : Option Value} : X z 172 32 [x0, x1, x2, x3] (st) cu σ Q = (X z 172 33 [x0, x1, x2, x3] (.int (nI 0) :: st) cu σ Q) := by
  rw [x172_32]
  rfl
theorem v172_33 {z : P0} {st : List Value} {cu : Nat × Nat} {Q : Res → Mem → Prop} {σ : Mem} {x0 x1 x2 : Option Value} {u : Int32} : X z 172 33 [x0, x1, x2, some (.int u)] (st) cu σ Q = (X z 172 34 [x0, x1, x2, some (.int u)] (.int u :: st) cu σ Q) := by
  rw [x172_33]
  rfl
theorem v172_34 {z : P0} {st : List Value} {cu : Nat × Nat} {Q : Res → Mem → Prop} {σ : Mem} {x0 x1 x2 x3 : Option Value} : X z 172 34 [x0, x1, x2, x3] (st) cu σ Q = (X z 172 35 [x0, x1, x2, x3] (.int (nI 2) :: st) cu σ Q) := by
  rw [x172_34]
  rfl
theorem u172_35 {z : P0} {ls : Lcs} {st : List Value} {K : Nat → Nat × Nat} {I : Nat → Nat → Int32} {R : Nat → Nat → Option Nat} {L : Nat → Nat → Int64} {sz : Nat} {ex : Bool} {Q : Res → Mem → Prop} {x : Nat} {a0 : Int32} {a1 : Int32} {a2 : Int32} : X z 172 35 ls (.int a2 :: .int a1 :: .int a0 :: .ref x :: st) (0, 0) (K, I, R, L, sz, ex) Q = ((K x).1 = 111 ∧ wsum st ≤ 8 ∧ X z 168 0 [some (.ref x), some (.int a0), some (.int a1), some (.int a2), none, none] [] (0, 0) (K, I, R, L, sz, ex) (aftr (X z) mT 172 35 ls st (0, 0) Q)) := v172_35 (c := 0) (n := 0)
theorem v172_38 {z : P0} {st : List Value} {cu : Nat × Nat} {Q : Res → Mem → Prop} {σ : Mem} {x0 x1 x3 : Option Value} {u : Int32} : X z 172 38 [x0, x1, some (.int u), x3] (st) cu σ Q = (X z 172 39 [x0, x1, some (.int u), x3] (.int u :: st) cu σ Q) := by
  rw [x172_38]
  rfl
theorem v172_39 {z : P0} {st : List Value} {cu : Nat × Nat} {Q : Res → Mem → Prop} {σ : Mem} {x0 x1 x2 x3 : Option Value} {u v : Int32} : X z 172 39 [x0, x1, x2, x3] (.int v :: .int u :: st) cu σ Q = (if u = v then X z 172 48 [x0, x1, x2, x3] (st) cu σ Q else X z 172 42 [x0, x1, x2, x3] (st) cu σ Q) := by
  rw [x172_39]
  obtain ⟨K, I, R, L, sz, ex⟩ := σ
  exact br_ite
theorem v172_42 {z : P0} {st : List Value} {cu : Nat × Nat} {Q : Res → Mem → Prop} {σ : Mem} {x0 x1 x2 : Option Value} {u : Int32} : X z 172 42 [x0, x1, x2, some (.int u)] (st) cu σ Q = (cat2 x2 = false ∧ X z 172 45 [x0, x1, x2, some (.int (u + nI 1))] (st) cu σ Q) := by
  rw [x172_42]
  obtain ⟨K, I, R, L, sz, ex⟩ := σ
  exact i_iinc.trans (gl_3.trans (ldI_i.trans sl_3))
theorem v172_45 {z : P0} {st : List Value} {cu : Nat × Nat} {Q : Res → Mem → Prop} {σ : Mem} {x0 x1 x2 x3 : Option Value} : X z 172 45 [x0, x1, x2, x3] (st) cu σ Q = (X z 172 20 [x0, x1, x2, x3] (st) cu σ Q) := by
  rw [x172_45]
  rfl
theorem v172_48 {z : P0} {st : List Value} {cu : Nat × Nat} {Q : Res → Mem → Prop} {σ : Mem} {x0 x1 x2 : Option Value} {u : Int32} : X z 172 48 [x0, x1, x2, some (.int u)] (st) cu σ Q = (X z 172 49 [x0, x1, x2, some (.int u)] (.int u :: st) cu σ Q) := by
  rw [x172_48]
  rfl
theorem v172_49 {z : P0} {cu : Nat × Nat} {Q : Res → Mem → Prop} {σ : Mem} {x0 x1 x2 x3 : Option Value} {v : Int32} : X z 172 49 [x0, x1, x2, x3] ([.int v]) cu σ Q = (Q (.inl (some (.int v))) σ) := by
  rw [x172_49]
  exact propext ⟨fun h => h.2, fun h => ⟨trivial, h⟩⟩
theorem v173_0 {z : P0} {st : List Value} {cu : Nat × Nat} {Q : Res → Mem → Prop} {σ : Mem} {u : Nat} : X z 173 0 [some (.ref u)] (st) cu σ Q = (X z 173 1 [some (.ref u)] (.ref u :: st) cu σ Q) := by
  rw [x173_0]
  rfl
theorem v173_1 {z : P0} {st : List Value} {cu : Nat × Nat} {Q : Res → Mem → Prop} {σ : Mem} {x0 : Option Value} : X z 173 1 [x0] (st) cu σ Q = (X z 173 2 [x0] (.int (nI 0) :: st) cu σ Q) := by
  rw [x173_1]
  rfl
theorem v173_2 {z : P0} {st : List Value} {cu : Nat × Nat} {Q : Res → Mem → Prop} {K : Nat → Nat × Nat} {I : Nat → Nat → Int32} {R : Nat → Nat → Option Nat} {L : Nat → Nat → Int64} {sz : Nat} {ex : Bool} {x0 : Option Value} {u : Nat} {v : Int32} : X z 173 2 [x0] (.int v :: .ref u :: st) cu (K, I, R, L, sz, ex) Q = ((K u).1 = 111 ∧ X z 173 5 [x0] (st) cu (K, up2 I u 5 v, R, L, sz, ex) Q) := by
  rw [x173_2]
  exact i_putI
theorem v173_5 {z : P0} {st : List Value} {cu : Nat × Nat} {Q : Res → Mem → Prop} {σ : Mem} {u : Nat} : X z 173 5 [some (.ref u)] (st) cu σ Q = (X z 173 6 [some (.ref u)] (.ref u :: st) cu σ Q) := by
  rw [x173_5]
  rfl
theorem u173_6 {z : P0} {ls : Lcs} {st : List Value} {K : Nat → Nat × Nat} {I : Nat → Nat → Int32} {R : Nat → Nat → Option Nat} {L : Nat → Nat → Int64} {sz : Nat} {ex : Bool} {Q : Res → Mem → Prop} {x : Nat} : X z 173 6 ls (.ref x :: st) (0, 0) (K, I, R, L, sz, ex) Q = ((K x).1 = 111 ∧ wsum st ≤ 8 ∧ X z 172 0 [some (.ref x), none, none, none] [] (0, 0) (K, I, R, L, sz, ex) (aftr (X z) mT 173 6 ls st (0, 0) Q)) := v173_6 (c := 0) (n := 0)
theorem v173_9 {z : P0} {cu : Nat × Nat} {Q : Res → Mem → Prop} {σ : Mem} {x0 : Option Value} {v : Int32} : X z 173 9 [x0] ([.int v]) cu σ Q = (Q (.inl (some (.int v))) σ) := by
  rw [x173_9]
  exact propext ⟨fun h => h.2, fun h => ⟨trivial, h⟩⟩
theorem v174_0 {z : P0} {st : List Value} {cu : Nat × Nat} {Q : Res → Mem → Prop} {σ : Mem} {x0 x1 x2 : Option Value} : X z 174 0 [x0, x1, x2] (st) cu σ Q = (X z 174 1 [x0, x1, x2] (.int (nI 0) :: st) cu σ Q) := by
  rw [x174_0]
  rfl
theorem v174_1 {z : P0} {st : List Value} {cu : Nat × Nat} {Q : Res → Mem → Prop} {σ : Mem} {x0 x1 x2 : Option Value} {u : Int32} : X z 174 1 [x0, x1, x2] (.int u :: st) cu σ Q = (cat2 x1 = false ∧ X z 174 2 [x0, x1, some (.int u)] (st) cu σ Q) := by
  rw [x174_1]
  obtain ⟨K, I, R, L, sz, ex⟩ := σ
  exact i_istore_n.trans sl_2
theorem v174_2 {z : P0} {st : List Value} {cu : Nat × Nat} {Q : Res → Mem → Prop} {σ : Mem} {x0 x1 : Option Value} {u : Int32} : X z 174 2 [x0, x1, some (.int u)] (st) cu σ Q = (X z 174 3 [x0, x1, some (.int u)] (.int u :: st) cu σ Q) := by
  rw [x174_2]
  rfl
theorem v174_3 {z : P0} {st : List Value} {cu : Nat × Nat} {Q : Res → Mem → Prop} {σ : Mem} {x0 x1 x2 : Option Value} : X z 174 3 [x0, x1, x2] (st) cu σ Q = (X z 174 5 [x0, x1, x2] (.int (nI 40) :: st) cu σ Q) := by
  rw [x174_3]
  rfl
theorem v174_5 {z : P0} {st : List Value} {cu : Nat × Nat} {Q : Res → Mem → Prop} {σ : Mem} {x0 x1 x2 : Option Value} {u v : Int32} : X z 174 5 [x0, x1, x2] (.int v :: .int u :: st) cu σ Q = (if v < u then X z 174 33 [x0, x1, x2] (st) cu σ Q else X z 174 8 [x0, x1, x2] (st) cu σ Q) := by
  rw [x174_5]
  obtain ⟨K, I, R, L, sz, ex⟩ := σ
  exact br_ite
theorem v174_8 {z : P0} {st : List Value} {cu : Nat × Nat} {Q : Res → Mem → Prop} {σ : Mem} {x1 x2 : Option Value} {u : Nat} : X z 174 8 [some (.ref u), x1, x2] (st) cu σ Q = (X z 174 9 [some (.ref u), x1, x2] (.ref u :: st) cu σ Q) := by
  rw [x174_8]
  rfl
theorem v174_9 {z : P0} {st : List Value} {cu : Nat × Nat} {Q : Res → Mem → Prop} {σ : Mem} {x0 x2 : Option Value} {u : Int32} : X z 174 9 [x0, some (.int u), x2] (st) cu σ Q = (X z 174 10 [x0, some (.int u), x2] (.int u :: st) cu σ Q) := by
  rw [x174_9]
  rfl
theorem v174_10 {z : P0} {st : List Value} {cu : Nat × Nat} {Q : Res → Mem → Prop} {σ : Mem} {x1 x2 : Option Value} {u : Nat} : X z 174 10 [some (.ref u), x1, x2] (st) cu σ Q = (X z 174 11 [some (.ref u), x1, x2] (.ref u :: st) cu σ Q) := by
  rw [x174_10]
  rfl
theorem v174_11 {z : P0} {st : List Value} {cu : Nat × Nat} {Q : Res → Mem → Prop} {K : Nat → Nat × Nat} {I : Nat → Nat → Int32} {R : Nat → Nat → Option Nat} {L : Nat → Nat → Int64} {sz : Nat} {ex : Bool} {x0 x1 x2 : Option Value} {u : Nat} : X z 174 11 [x0, x1, x2] (.ref u :: st) cu (K, I, R, L, sz, ex) Q = ((K u).1 = 111 ∧ X z 174 14 [x0, x1, x2] (va_rf (R u 0) :: st) cu (K, I, R, L, sz, ex) Q) := by
  rw [x174_11]
  rfl
theorem v174_14 {z : P0} {st : List Value} {cu : Nat × Nat} {Q : Res → Mem → Prop} {σ : Mem} {x0 x1 x2 : Option Value} : X z 174 14 [x0, x1, x2] (st) cu σ Q = (X z 174 16 [x0, x1, x2] (.int (nI 8) :: st) cu σ Q) := by
  rw [x174_14]
  rfl
theorem v174_16 {z : P0} {st : List Value} {cu : Nat × Nat} {Q : Res → Mem → Prop} {K : Nat → Nat × Nat} {I : Nat → Nat → Int32} {R : Nat → Nat → Option Nat} {L : Nat → Nat → Int64} {sz : Nat} {ex : Bool} {x0 x1 x2 : Option Value} {u : Nat} {v : Int32} : X z 174 16 [x0, x1, x2] (.int v :: .ref u :: st) cu (K, I, R, L, sz, ex) Q = (((K u).1 = 20 ∨ (K u).1 = 50) ∧ vp_in v (K u).2 ∧ X z 174 17 [x0, x1, x2] (.int (I u v.toNatClampNeg) :: st) cu (K, I, R, L, sz, ex) Q) := by
  rw [x174_16]
  rfl
theorem v174_17 {z : P0} {st : List Value} {cu : Nat × Nat} {Q : Res → Mem → Prop} {σ : Mem} {x0 x1 : Option Value} {u : Int32} : X z 174 17 [x0, x1, some (.int u)] (st) cu σ Q = (X z 174 18 [x0, x1, some (.int u)] (.int u :: st) cu σ Q) := by
  rw [x174_17]
  rfl
theorem v174_18 {z : P0} {st : List Value} {cu : Nat × Nat} {Q : Res → Mem → Prop} {σ : Mem} {x0 x1 x2 : Option Value} {u v : Int32} : X z 174 18 [x0, x1, x2] (.int v :: .int u :: st) cu σ Q = (X z 174 19 [x0, x1, x2] (.int (u + v) :: st) cu σ Q) := by
  rw [x174_18]
  rfl
theorem u174_19 {z : P0} {ls : Lcs} {st : List Value} {K : Nat → Nat × Nat} {I : Nat → Nat → Int32} {R : Nat → Nat → Option Nat} {L : Nat → Nat → Int64} {sz : Nat} {ex : Bool} {Q : Res → Mem → Prop} {x : Nat} {a0 : Int32} {a1 : Int32} : X z 174 19 ls (.int a1 :: .int a0 :: .ref x :: st) (0, 0) (K, I, R, L, sz, ex) Q = ((K x).1 = 111 ∧ wsum st ≤ 8 ∧ X z 112 0 [some (.ref x), some (.int a0), some (.int a1)] [] (0, 0) (K, I, R, L, sz, ex) (aftr (X z) mT 174 19 ls st (0, 0) Q)) := v174_19 (c := 0) (n := 0)
theorem v174_22 {z : P0} {st : List Value} {cu : Nat × Nat} {Q : Res → Mem → Prop} {σ : Mem} {x0 x1 x2 : Option Value} {u : Int32} : X z 174 22 [x0, x1, x2] (.int u :: st) cu σ Q = (if u = nI 0 then X z 174 25 [x0, x1, x2] (st) cu σ Q else X z 174 27 [x0, x1, x2] (st) cu σ Q) := by
  rw [x174_22]
  rw [nI_0]
  obtain ⟨K, I, R, L, sz, ex⟩ := σ
  exact br_ne
theorem v174_25 {z : P0} {st : List Value} {cu : Nat × Nat} {Q : Res → Mem → Prop} {σ : Mem} {x0 x1 : Option Value} {u : Int32} : X z 174 25 [x0, x1, some (.int u)] (st) cu σ Q = (X z 174 26 [x0, x1, some (.int u)] (.int u :: st) cu σ Q) := by
  rw [x174_25]
  rfl
theorem v174_26 {z : P0} {cu : Nat × Nat} {Q : Res → Mem → Prop} {σ : Mem} {x0 x1 x2 : Option Value} {v : Int32} : X z 174 26 [x0, x1, x2] ([.int v]) cu σ Q = (Q (.inl (some (.int v))) σ) := by
  rw [x174_26]
  exact propext ⟨fun h => h.2, fun h => ⟨trivial, h⟩⟩
theorem v174_27 {z : P0} {st : List Value} {cu : Nat × Nat} {Q : Res → Mem → Prop} {σ : Mem} {x0 x1 : Option Value} {u : Int32} : X z 174 27 [x0, x1, some (.int u)] (st) cu σ Q = (cat2 x1 = false ∧ X z 174 30 [x0, x1, some (.int (u + nI 1))] (st) cu σ Q) := by
  rw [x174_27]
  obtain ⟨K, I, R, L, sz, ex⟩ := σ
  exact i_iinc.trans (gl_2.trans (ldI_i.trans sl_2))
theorem v174_30 {z : P0} {st : List Value} {cu : Nat × Nat} {Q : Res → Mem → Prop} {σ : Mem} {x0 x1 x2 : Option Value} : X z 174 30 [x0, x1, x2] (st) cu σ Q = (X z 174 2 [x0, x1, x2] (st) cu σ Q) := by
  rw [x174_30]
  rfl
theorem v174_33 {z : P0} {st : List Value} {cu : Nat × Nat} {Q : Res → Mem → Prop} {σ : Mem} {x0 x1 x2 : Option Value} : X z 174 33 [x0, x1, x2] (st) cu σ Q = (X z 174 34 [x0, x1, x2] (.int (nI 4294967295) :: st) cu σ Q) := by
  rw [x174_33]
  rw [neg1]
  rfl
theorem v174_34 {z : P0} {cu : Nat × Nat} {Q : Res → Mem → Prop} {σ : Mem} {x0 x1 x2 : Option Value} {v : Int32} : X z 174 34 [x0, x1, x2] ([.int v]) cu σ Q = (Q (.inl (some (.int v))) σ) := by
  rw [x174_34]
  exact propext ⟨fun h => h.2, fun h => ⟨trivial, h⟩⟩
theorem v175_0 {z : P0} {st : List Value} {cu : Nat × Nat} {Q : Res → Mem → Prop} {σ : Mem} {x1 : Option Value} {u : Nat} : X z 175 0 [some (.ref u), x1] (st) cu σ Q = (X z 175 1 [some (.ref u), x1] (.ref u :: st) cu σ Q) := by
  rw [x175_0]
  rfl
theorem v175_1 {z : P0} {st : List Value} {cu : Nat × Nat} {Q : Res → Mem → Prop} {σ : Mem} {x1 : Option Value} {u : Nat} : X z 175 1 [some (.ref u), x1] (st) cu σ Q = (X z 175 2 [some (.ref u), x1] (.ref u :: st) cu σ Q) := by
  rw [x175_1]
  rfl
theorem v175_2 {z : P0} {st : List Value} {cu : Nat × Nat} {Q : Res → Mem → Prop} {σ : Mem} {x0 : Option Value} {u : Int32} : X z 175 2 [x0, some (.int u)] (st) cu σ Q = (X z 175 3 [x0, some (.int u)] (.int u :: st) cu σ Q) := by
  rw [x175_2]
  rfl
theorem u175_3 {z : P0} {ls : Lcs} {st : List Value} {K : Nat → Nat × Nat} {I : Nat → Nat → Int32} {R : Nat → Nat → Option Nat} {L : Nat → Nat → Int64} {sz : Nat} {ex : Bool} {Q : Res → Mem → Prop} {x : Nat} {a0 : Int32} : X z 175 3 ls (.int a0 :: .ref x :: st) (0, 0) (K, I, R, L, sz, ex) Q = ((K x).1 = 111 ∧ wsum st ≤ 8 ∧ X z 108 0 [some (.ref x), some (.int a0)] [] (0, 0) (K, I, R, L, sz, ex) (aftr (X z) mT 175 3 ls st (0, 0) Q)) := v175_3 (c := 0) (n := 0)
theorem v175_6 {z : P0} {st : List Value} {cu : Nat × Nat} {Q : Res → Mem → Prop} {σ : Mem} {x0 x1 : Option Value} {u : Int32} : X z 175 6 [x0, x1] (.int u :: st) cu σ Q = (if u = nI 0 then X z 175 13 [x0, x1] (st) cu σ Q else X z 175 9 [x0, x1] (st) cu σ Q) := by
  rw [x175_6]
  rw [nI_0]
  obtain ⟨K, I, R, L, sz, ex⟩ := σ
  exact br_ite
theorem v175_9 {z : P0} {st : List Value} {cu : Nat × Nat} {Q : Res → Mem → Prop} {σ : Mem} {x0 x1 : Option Value} : X z 175 9 [x0, x1] (st) cu σ Q = (X z 175 10 [x0, x1] (.int (nI 0) :: st) cu σ Q) := by
  rw [x175_9]
  rfl
theorem v175_10 {z : P0} {st : List Value} {cu : Nat × Nat} {Q : Res → Mem → Prop} {σ : Mem} {x0 x1 : Option Value} : X z 175 10 [x0, x1] (st) cu σ Q = (X z 175 14 [x0, x1] (st) cu σ Q) := by
  rw [x175_10]
  rfl
theorem v175_13 {z : P0} {st : List Value} {cu : Nat × Nat} {Q : Res → Mem → Prop} {σ : Mem} {x0 x1 : Option Value} : X z 175 13 [x0, x1] (st) cu σ Q = (X z 175 14 [x0, x1] (.int (nI 1) :: st) cu σ Q) := by
  rw [x175_13]
  rfl
theorem v175_14 {z : P0} {st : List Value} {cu : Nat × Nat} {Q : Res → Mem → Prop} {K : Nat → Nat × Nat} {I : Nat → Nat → Int32} {R : Nat → Nat → Option Nat} {L : Nat → Nat → Int64} {sz : Nat} {ex : Bool} {x0 x1 : Option Value} {u : Nat} {v : Int32} : X z 175 14 [x0, x1] (.int v :: .ref u :: st) cu (K, I, R, L, sz, ex) Q = ((K u).1 = 111 ∧ X z 175 17 [x0, x1] (st) cu (K, up2 I u 5 v, R, L, sz, ex) Q) := by
  rw [x175_14]
  exact i_putI
theorem v175_17 {z : P0} {st : List Value} {cu : Nat × Nat} {Q : Res → Mem → Prop} {σ : Mem} {x1 : Option Value} {u : Nat} : X z 175 17 [some (.ref u), x1] (st) cu σ Q = (X z 175 18 [some (.ref u), x1] (.ref u :: st) cu σ Q) := by
  rw [x175_17]
  rfl
theorem v175_18 {z : P0} {st : List Value} {cu : Nat × Nat} {Q : Res → Mem → Prop} {K : Nat → Nat × Nat} {I : Nat → Nat → Int32} {R : Nat → Nat → Option Nat} {L : Nat → Nat → Int64} {sz : Nat} {ex : Bool} {x0 x1 : Option Value} {u : Nat} : X z 175 18 [x0, x1] (.ref u :: st) cu (K, I, R, L, sz, ex) Q = ((K u).1 = 111 ∧ X z 175 21 [x0, x1] (.int (I u 5) :: st) cu (K, I, R, L, sz, ex) Q) := by
  rw [x175_18]
  rfl
theorem v175_21 {z : P0} {st : List Value} {cu : Nat × Nat} {Q : Res → Mem → Prop} {σ : Mem} {x0 x1 : Option Value} {u : Int32} : X z 175 21 [x0, x1] (.int u :: st) cu σ Q = (if nI 0 < u then X z 175 24 [x0, x1] (st) cu σ Q else X z 175 28 [x0, x1] (st) cu σ Q) := by
  rw [x175_21]
  rw [nI_0]
  obtain ⟨K, I, R, L, sz, ex⟩ := σ
  exact br_ge
theorem v175_24 {z : P0} {st : List Value} {cu : Nat × Nat} {Q : Res → Mem → Prop} {σ : Mem} {x0 x1 : Option Value} : X z 175 24 [x0, x1] (st) cu σ Q = (X z 175 25 [x0, x1] (.int (nI 0) :: st) cu σ Q) := by
  rw [x175_24]
  rfl
theorem v175_25 {z : P0} {st : List Value} {cu : Nat × Nat} {Q : Res → Mem → Prop} {σ : Mem} {x0 x1 : Option Value} : X z 175 25 [x0, x1] (st) cu σ Q = (X z 175 33 [x0, x1] (st) cu σ Q) := by
  rw [x175_25]
  rfl
theorem v175_28 {z : P0} {st : List Value} {cu : Nat × Nat} {Q : Res → Mem → Prop} {σ : Mem} {x1 : Option Value} {u : Nat} : X z 175 28 [some (.ref u), x1] (st) cu σ Q = (X z 175 29 [some (.ref u), x1] (.ref u :: st) cu σ Q) := by
  rw [x175_28]
  rfl
theorem v175_29 {z : P0} {st : List Value} {cu : Nat × Nat} {Q : Res → Mem → Prop} {σ : Mem} {x0 : Option Value} {u : Int32} : X z 175 29 [x0, some (.int u)] (st) cu σ Q = (X z 175 30 [x0, some (.int u)] (.int u :: st) cu σ Q) := by
  rw [x175_29]
  rfl
theorem u175_30 {z : P0} {ls : Lcs} {st : List Value} {K : Nat → Nat × Nat} {I : Nat → Nat → Int32} {R : Nat → Nat → Option Nat} {L : Nat → Nat → Int64} {sz : Nat} {ex : Bool} {Q : Res → Mem → Prop} {x : Nat} {a0 : Int32} : X z 175 30 ls (.int a0 :: .ref x :: st) (0, 0) (K, I, R, L, sz, ex) Q = ((K x).1 = 111 ∧ wsum st ≤ 8 ∧ X z 174 0 [some (.ref x), some (.int a0), none] [] (0, 0) (K, I, R, L, sz, ex) (aftr (X z) mT 175 30 ls st (0, 0) Q)) := v175_30 (c := 0) (n := 0)
theorem v175_33 {z : P0} {cu : Nat × Nat} {Q : Res → Mem → Prop} {σ : Mem} {x0 x1 : Option Value} {v : Int32} : X z 175 33 [x0, x1] ([.int v]) cu σ Q = (Q (.inl (some (.int v))) σ) := by
  rw [x175_33]
  exact propext ⟨fun h => h.2, fun h => ⟨trivial, h⟩⟩
theorem v176_0 {z : P0} {st : List Value} {cu : Nat × Nat} {Q : Res → Mem → Prop} {σ : Mem} {u : Nat} : X z 176 0 [some (.ref u)] (st) cu σ Q = (X z 176 1 [some (.ref u)] (.ref u :: st) cu σ Q) := by
  rw [x176_0]
  rfl
theorem v176_1 {z : P0} {st : List Value} {cu : Nat × Nat} {Q : Res → Mem → Prop} {K : Nat → Nat × Nat} {I : Nat → Nat → Int32} {R : Nat → Nat → Option Nat} {L : Nat → Nat → Int64} {sz : Nat} {ex : Bool} {x0 : Option Value} {u : Nat} : X z 176 1 [x0] (.ref u :: st) cu (K, I, R, L, sz, ex) Q = ((K u).1 = 111 ∧ X z 176 4 [x0] (va_rf (R u 0) :: st) cu (K, I, R, L, sz, ex) Q) := by
  rw [x176_1]
  rfl
theorem v176_4 {z : P0} {st : List Value} {cu : Nat × Nat} {Q : Res → Mem → Prop} {σ : Mem} {x0 : Option Value} : X z 176 4 [x0] (st) cu σ Q = (X z 176 6 [x0] (.int (nI 6) :: st) cu σ Q) := by
  rw [x176_4]
  rfl
theorem v176_6 {z : P0} {st : List Value} {cu : Nat × Nat} {Q : Res → Mem → Prop} {K : Nat → Nat × Nat} {I : Nat → Nat → Int32} {R : Nat → Nat → Option Nat} {L : Nat → Nat → Int64} {sz : Nat} {ex : Bool} {x0 : Option Value} {u : Nat} {v : Int32} : X z 176 6 [x0] (.int v :: .ref u :: st) cu (K, I, R, L, sz, ex) Q = (((K u).1 = 20 ∨ (K u).1 = 50) ∧ vp_in v (K u).2 ∧ X z 176 7 [x0] (.int (I u v.toNatClampNeg) :: st) cu (K, I, R, L, sz, ex) Q) := by
  rw [x176_6]
  rfl
theorem v176_7 {z : P0} {st : List Value} {cu : Nat × Nat} {Q : Res → Mem → Prop} {σ : Mem} {x0 : Option Value} {u : Int32} : X z 176 7 [x0] (.int u :: st) cu σ Q = (if u = nI 0 then X z 176 10 [x0] (st) cu σ Q else X z 176 14 [x0] (st) cu σ Q) := by
  rw [x176_7]
  rw [nI_0]
  obtain ⟨K, I, R, L, sz, ex⟩ := σ
  exact br_ne
theorem v176_10 {z : P0} {st : List Value} {cu : Nat × Nat} {Q : Res → Mem → Prop} {σ : Mem} {x0 : Option Value} : X z 176 10 [x0] (st) cu σ Q = (X z 176 11 [x0] (.double (UInt64.ofNat 0) :: st) cu σ Q) := by
  rw [x176_10]
  rfl
theorem v176_11 {z : P0} {st : List Value} {cu : Nat × Nat} {Q : Res → Mem → Prop} {σ : Mem} {x0 : Option Value} : X z 176 11 [x0] (st) cu σ Q = (X z 176 29 [x0] (st) cu σ Q) := by
  rw [x176_11]
  rfl
theorem v176_14 {z : P0} {st : List Value} {cu : Nat × Nat} {Q : Res → Mem → Prop} {σ : Mem} {u : Nat} : X z 176 14 [some (.ref u)] (st) cu σ Q = (X z 176 15 [some (.ref u)] (.ref u :: st) cu σ Q) := by
  rw [x176_14]
  rfl
theorem v176_15 {z : P0} {st : List Value} {cu : Nat × Nat} {Q : Res → Mem → Prop} {σ : Mem} {x0 : Option Value} : X z 176 15 [x0] (st) cu σ Q = (X z 176 16 [x0] (.int (nI 1) :: st) cu σ Q) := by
  rw [x176_15]
  rfl
theorem u176_16 {z : P0} {ls : Lcs} {st : List Value} {K : Nat → Nat × Nat} {I : Nat → Nat → Int32} {R : Nat → Nat → Option Nat} {L : Nat → Nat → Int64} {sz : Nat} {ex : Bool} {Q : Res → Mem → Prop} {x : Nat} {a0 : Int32} : X z 176 16 ls (.int a0 :: .ref x :: st) (0, 0) (K, I, R, L, sz, ex) Q = ((K x).1 = 111 ∧ wsum st ≤ 8 ∧ X z 132 0 [some (.ref x), some (.int a0), none, none, none] [] (0, 0) (K, I, R, L, sz, ex) (aftr (X z) mT 176 16 ls st (0, 0) Q)) := v176_16 (c := 0) (n := 0)
theorem v176_19 {z : P0} {st : List Value} {cu : Nat × Nat} {Q : Res → Mem → Prop} {σ : Mem} {x0 : Option Value} {u : Int32} : X z 176 19 [x0] (.int u :: st) cu σ Q = (X z 176 20 [x0] (.double (FP.i2d u) :: st) cu σ Q) := by
  rw [x176_19]
  rfl
theorem v176_20 {z : P0} {st : List Value} {cu : Nat × Nat} {Q : Res → Mem → Prop} {σ : Mem} {u : Nat} : X z 176 20 [some (.ref u)] (st) cu σ Q = (X z 176 21 [some (.ref u)] (.ref u :: st) cu σ Q) := by
  rw [x176_20]
  rfl
theorem v176_21 {z : P0} {st : List Value} {cu : Nat × Nat} {Q : Res → Mem → Prop} {K : Nat → Nat × Nat} {I : Nat → Nat → Int32} {R : Nat → Nat → Option Nat} {L : Nat → Nat → Int64} {sz : Nat} {ex : Bool} {x0 : Option Value} {u : Nat} : X z 176 21 [x0] (.ref u :: st) cu (K, I, R, L, sz, ex) Q = ((K u).1 = 111 ∧ X z 176 24 [x0] (va_rf (R u 0) :: st) cu (K, I, R, L, sz, ex) Q) := by
  rw [x176_21]
  rfl
theorem v176_24 {z : P0} {st : List Value} {cu : Nat × Nat} {Q : Res → Mem → Prop} {σ : Mem} {x0 : Option Value} : X z 176 24 [x0] (st) cu σ Q = (X z 176 26 [x0] (.int (nI 6) :: st) cu σ Q) := by
  rw [x176_24]
  rfl
theorem v176_26 {z : P0} {st : List Value} {cu : Nat × Nat} {Q : Res → Mem → Prop} {K : Nat → Nat × Nat} {I : Nat → Nat → Int32} {R : Nat → Nat → Option Nat} {L : Nat → Nat → Int64} {sz : Nat} {ex : Bool} {x0 : Option Value} {u : Nat} {v : Int32} : X z 176 26 [x0] (.int v :: .ref u :: st) cu (K, I, R, L, sz, ex) Q = (((K u).1 = 20 ∨ (K u).1 = 50) ∧ vp_in v (K u).2 ∧ X z 176 27 [x0] (.int (I u v.toNatClampNeg) :: st) cu (K, I, R, L, sz, ex) Q) := by
  rw [x176_26]
  rfl
theorem v176_27 {z : P0} {st : List Value} {cu : Nat × Nat} {Q : Res → Mem → Prop} {σ : Mem} {x0 : Option Value} {u : Int32} : X z 176 27 [x0] (.int u :: st) cu σ Q = (X z 176 28 [x0] (.double (FP.i2d u) :: st) cu σ Q) := by
  rw [x176_27]
  rfl
theorem v176_28 {z : P0} {st : List Value} {cu : Nat × Nat} {Q : Res → Mem → Prop} {σ : Mem} {x0 : Option Value} {u v : UInt64} : X z 176 28 [x0] (.double v :: .double u :: st) cu σ Q = (vf_n64 (FP.ddiv u v) ∧ X z 176 29 [x0] (.double (FP.ddiv u v) :: st) cu σ Q) := by
  rw [x176_28]
  rfl
theorem v176_29 {z : P0} {cu : Nat × Nat} {Q : Res → Mem → Prop} {σ : Mem} {x0 : Option Value} {v : UInt64} : X z 176 29 [x0] ([.double v]) cu σ Q = (Q (.inl (some (.double v))) σ) := by
  rw [x176_29]
  rfl
theorem v177_0 {z : P0} {st : List Value} {cu : Nat × Nat} {Q : Res → Mem → Prop} {σ : Mem} {u : Nat} : X z 177 0 [some (.ref u)] (st) cu σ Q = (X z 177 1 [some (.ref u)] (.ref u :: st) cu σ Q) := by
  rw [x177_0]
  rfl
theorem v177_1 {z : P0} {st : List Value} {cu : Nat × Nat} {Q : Res → Mem → Prop} {σ : Mem} {x0 : Option Value} : X z 177 1 [x0] (st) cu σ Q = (X z 177 2 [x0] (.int (nI 0) :: st) cu σ Q) := by
  rw [x177_1]
  rfl
theorem v177_2 {z : P0} {st : List Value} {cu : Nat × Nat} {Q : Res → Mem → Prop} {K : Nat → Nat × Nat} {I : Nat → Nat → Int32} {R : Nat → Nat → Option Nat} {L : Nat → Nat → Int64} {sz : Nat} {ex : Bool} {x0 : Option Value} {u : Nat} {v : Int32} : X z 177 2 [x0] (.int v :: .ref u :: st) cu (K, I, R, L, sz, ex) Q = ((K u).1 = 111 ∧ X z 177 5 [x0] (st) cu (K, up2 I u 5 v, R, L, sz, ex) Q) := by
  rw [x177_2]
  exact i_putI
theorem v177_5 {z : P0} {st : List Value} {cu : Nat × Nat} {Q : Res → Mem → Prop} {σ : Mem} {u : Nat} : X z 177 5 [some (.ref u)] (st) cu σ Q = (X z 177 6 [some (.ref u)] (.ref u :: st) cu σ Q) := by
  rw [x177_5]
  rfl
theorem u177_6 {z : P0} {ls : Lcs} {st : List Value} {K : Nat → Nat × Nat} {I : Nat → Nat → Int32} {R : Nat → Nat → Option Nat} {L : Nat → Nat → Int64} {sz : Nat} {ex : Bool} {Q : Res → Mem → Prop} {x : Nat} : X z 177 6 ls (.ref x :: st) (0, 0) (K, I, R, L, sz, ex) Q = ((K x).1 = 111 ∧ wsum st ≤ 8 ∧ X z 130 0 [some (.ref x), none] [] (0, 0) (K, I, R, L, sz, ex) (aftr (X z) mT 177 6 ls st (0, 0) Q)) := v177_6 (c := 0) (n := 0)
theorem v177_9 {z : P0} {st : List Value} {cu : Nat × Nat} {Q : Res → Mem → Prop} {σ : Mem} {u : Nat} : X z 177 9 [some (.ref u)] (st) cu σ Q = (X z 177 10 [some (.ref u)] (.ref u :: st) cu σ Q) := by
  rw [x177_9]
  rfl
theorem u177_10 {z : P0} {ls : Lcs} {st : List Value} {K : Nat → Nat × Nat} {I : Nat → Nat → Int32} {R : Nat → Nat → Option Nat} {L : Nat → Nat → Int64} {sz : Nat} {ex : Bool} {Q : Res → Mem → Prop} {x : Nat} : X z 177 10 ls (.ref x :: st) (0, 0) (K, I, R, L, sz, ex) Q = ((K x).1 = 111 ∧ wsum st ≤ 8 ∧ X z 176 0 [some (.ref x)] [] (0, 0) (K, I, R, L, sz, ex) (aftr (X z) mT 177 10 ls st (0, 0) Q)) := v177_10 (c := 0) (n := 0)
theorem v177_13 {z : P0} {cu : Nat × Nat} {Q : Res → Mem → Prop} {σ : Mem} {x0 : Option Value} {v : UInt64} : X z 177 13 [x0] ([.double v]) cu σ Q = (Q (.inl (some (.double v))) σ) := by
  rw [x177_13]
  rfl
theorem v178_0 {z : P0} {st : List Value} {cu : Nat × Nat} {Q : Res → Mem → Prop} {σ : Mem} {x1 x2 : Option Value} {u : Nat} : X z 178 0 [some (.ref u), x1, x2] (st) cu σ Q = (X z 178 1 [some (.ref u), x1, x2] (.ref u :: st) cu σ Q) := by
  rw [x178_0]
  rfl
theorem v178_1 {z : P0} {st : List Value} {cu : Nat × Nat} {Q : Res → Mem → Prop} {σ : Mem} {x0 x1 x2 : Option Value} : X z 178 1 [x0, x1, x2] (st) cu σ Q = (X z 178 4 [x0, x1, x2] (.long (lN 31) :: st) cu σ Q) := by
  rw [x178_1]
  rfl
theorem v178_4 {z : P0} {st : List Value} {cu : Nat × Nat} {Q : Res → Mem → Prop} {σ : Mem} {x1 x2 : Option Value} {u : Nat} : X z 178 4 [some (.ref u), x1, x2] (st) cu σ Q = (X z 178 5 [some (.ref u), x1, x2] (.ref u :: st) cu σ Q) := by
  rw [x178_4]
  rfl
theorem v178_5 {z : P0} {st : List Value} {cu : Nat × Nat} {Q : Res → Mem → Prop} {K : Nat → Nat × Nat} {I : Nat → Nat → Int32} {R : Nat → Nat → Option Nat} {L : Nat → Nat → Int64} {sz : Nat} {ex : Bool} {x0 x1 x2 : Option Value} {u : Nat} : X z 178 5 [x0, x1, x2] (.ref u :: st) cu (K, I, R, L, sz, ex) Q = ((K u).1 = 111 ∧ X z 178 8 [x0, x1, x2] (.long (L u 22) :: st) cu (K, I, R, L, sz, ex) Q) := by
  rw [x178_5]
  rfl
theorem v178_8 {z : P0} {st : List Value} {cu : Nat × Nat} {Q : Res → Mem → Prop} {σ : Mem} {x0 x1 x2 : Option Value} {u v : Int64} : X z 178 8 [x0, x1, x2] (.long v :: .long u :: st) cu σ Q = (X z 178 9 [x0, x1, x2] (.long (u * v) :: st) cu σ Q) := by
  rw [x178_8]
  rfl
theorem v178_9 {z : P0} {st : List Value} {cu : Nat × Nat} {Q : Res → Mem → Prop} {σ : Mem} {x0 x2 : Option Value} {u : Int64} : X z 178 9 [x0, some (.long u), x2] (st) cu σ Q = (X z 178 10 [x0, some (.long u), x2] (.long u :: st) cu σ Q) := by
  rw [x178_9]
  rfl
theorem v178_10 {z : P0} {st : List Value} {cu : Nat × Nat} {Q : Res → Mem → Prop} {σ : Mem} {x0 x1 x2 : Option Value} {u v : Int64} : X z 178 10 [x0, x1, x2] (.long v :: .long u :: st) cu σ Q = (X z 178 11 [x0, x1, x2] (.long (u + v) :: st) cu σ Q) := by
  rw [x178_10]
  rfl
theorem v178_11 {z : P0} {st : List Value} {cu : Nat × Nat} {Q : Res → Mem → Prop} {K : Nat → Nat × Nat} {I : Nat → Nat → Int32} {R : Nat → Nat → Option Nat} {L : Nat → Nat → Int64} {sz : Nat} {ex : Bool} {x0 x1 x2 : Option Value} {u : Nat} {v : Int64} : X z 178 11 [x0, x1, x2] (.long v :: .ref u :: st) cu (K, I, R, L, sz, ex) Q = ((K u).1 = 111 ∧ X z 178 14 [x0, x1, x2] (st) cu (K, I, R, up2 L u 22 v, sz, ex) Q) := by
  rw [x178_11]
  exact i_putJ
theorem v178_14 {z : P0} {cu : Nat × Nat} {Q : Res → Mem → Prop} {σ : Mem} {x0 x1 x2 : Option Value} : X z 178 14 [x0, x1, x2] ([]) cu σ Q = (Q (.inl none) σ) := by
  rw [x178_14]
  rfl
theorem v179_0 {z : P0} {st : List Value} {cu : Nat × Nat} {Q : Res → Mem → Prop} {σ : Mem} {x0 x1 x2 : Option Value} : X z 179 0 [x0, x1, x2] (st) cu σ Q = (X z 179 1 [x0, x1, x2] (.int (nI 0) :: st) cu σ Q) := by
  rw [x179_0]
  rfl
theorem v179_1 {z : P0} {st : List Value} {cu : Nat × Nat} {Q : Res → Mem → Prop} {σ : Mem} {x0 x1 x2 : Option Value} {u : Int32} : X z 179 1 [x0, x1, x2] (.int u :: st) cu σ Q = (cat2 x0 = false ∧ X z 179 2 [x0, some (.int u), x2] (st) cu σ Q) := by
  rw [x179_1]
  obtain ⟨K, I, R, L, sz, ex⟩ := σ
  exact i_istore_n.trans sl_1
theorem v179_2 {z : P0} {st : List Value} {cu : Nat × Nat} {Q : Res → Mem → Prop} {σ : Mem} {x0 x2 : Option Value} {u : Int32} : X z 179 2 [x0, some (.int u), x2] (st) cu σ Q = (X z 179 3 [x0, some (.int u), x2] (.int u :: st) cu σ Q) := by
  rw [x179_2]
  rfl
theorem v179_3 {z : P0} {st : List Value} {cu : Nat × Nat} {Q : Res → Mem → Prop} {σ : Mem} {x1 x2 : Option Value} {u : Nat} : X z 179 3 [some (.ref u), x1, x2] (st) cu σ Q = (X z 179 4 [some (.ref u), x1, x2] (.ref u :: st) cu σ Q) := by
  rw [x179_3]
  rfl
theorem v179_4 {z : P0} {st : List Value} {cu : Nat × Nat} {Q : Res → Mem → Prop} {K : Nat → Nat × Nat} {I : Nat → Nat → Int32} {R : Nat → Nat → Option Nat} {L : Nat → Nat → Int64} {sz : Nat} {ex : Bool} {x0 x1 x2 : Option Value} {u : Nat} : X z 179 4 [x0, x1, x2] (.ref u :: st) cu (K, I, R, L, sz, ex) Q = ((K u).1 = 111 ∧ X z 179 7 [x0, x1, x2] (va_rf (R u 0) :: st) cu (K, I, R, L, sz, ex) Q) := by
  rw [x179_4]
  rfl
theorem v179_7 {z : P0} {st : List Value} {cu : Nat × Nat} {Q : Res → Mem → Prop} {σ : Mem} {x0 x1 x2 : Option Value} : X z 179 7 [x0, x1, x2] (st) cu σ Q = (X z 179 9 [x0, x1, x2] (.int (nI 6) :: st) cu σ Q) := by
  rw [x179_7]
  rfl
theorem v179_9 {z : P0} {st : List Value} {cu : Nat × Nat} {Q : Res → Mem → Prop} {K : Nat → Nat × Nat} {I : Nat → Nat → Int32} {R : Nat → Nat → Option Nat} {L : Nat → Nat → Int64} {sz : Nat} {ex : Bool} {x0 x1 x2 : Option Value} {u : Nat} {v : Int32} : X z 179 9 [x0, x1, x2] (.int v :: .ref u :: st) cu (K, I, R, L, sz, ex) Q = (((K u).1 = 20 ∨ (K u).1 = 50) ∧ vp_in v (K u).2 ∧ X z 179 10 [x0, x1, x2] (.int (I u v.toNatClampNeg) :: st) cu (K, I, R, L, sz, ex) Q) := by
  rw [x179_9]
  rfl
theorem v179_10 {z : P0} {st : List Value} {cu : Nat × Nat} {Q : Res → Mem → Prop} {σ : Mem} {x0 x1 x2 : Option Value} {u v : Int32} : X z 179 10 [x0, x1, x2] (.int v :: .int u :: st) cu σ Q = (if u < v then X z 179 13 [x0, x1, x2] (st) cu σ Q else X z 179 96 [x0, x1, x2] (st) cu σ Q) := by
  rw [x179_10]
  obtain ⟨K, I, R, L, sz, ex⟩ := σ
  exact br_ge
theorem v179_13 {z : P0} {st : List Value} {cu : Nat × Nat} {Q : Res → Mem → Prop} {σ : Mem} {x0 x1 x2 : Option Value} : X z 179 13 [x0, x1, x2] (st) cu σ Q = (X z 179 14 [x0, x1, x2] (.int (nI 0) :: st) cu σ Q) := by
  rw [x179_13]
  rfl
theorem v179_14 {z : P0} {st : List Value} {cu : Nat × Nat} {Q : Res → Mem → Prop} {σ : Mem} {x0 x1 x2 : Option Value} {u : Int32} : X z 179 14 [x0, x1, x2] (.int u :: st) cu σ Q = (cat2 x1 = false ∧ X z 179 15 [x0, x1, some (.int u)] (st) cu σ Q) := by
  rw [x179_14]
  obtain ⟨K, I, R, L, sz, ex⟩ := σ
  exact i_istore_n.trans sl_2
theorem v179_15 {z : P0} {st : List Value} {cu : Nat × Nat} {Q : Res → Mem → Prop} {σ : Mem} {x0 x1 : Option Value} {u : Int32} : X z 179 15 [x0, x1, some (.int u)] (st) cu σ Q = (X z 179 16 [x0, x1, some (.int u)] (.int u :: st) cu σ Q) := by
  rw [x179_15]
  rfl
theorem v179_16 {z : P0} {st : List Value} {cu : Nat × Nat} {Q : Res → Mem → Prop} {σ : Mem} {x0 x1 x2 : Option Value} : X z 179 16 [x0, x1, x2] (st) cu σ Q = (X z 179 18 [x0, x1, x2] (.int (nI 9) :: st) cu σ Q) := by
  rw [x179_16]
  rfl
theorem v179_18 {z : P0} {st : List Value} {cu : Nat × Nat} {Q : Res → Mem → Prop} {σ : Mem} {x0 x1 x2 : Option Value} {u v : Int32} : X z 179 18 [x0, x1, x2] (.int v :: .int u :: st) cu σ Q = (if u < v then X z 179 21 [x0, x1, x2] (st) cu σ Q else X z 179 38 [x0, x1, x2] (st) cu σ Q) := by
  rw [x179_18]
  obtain ⟨K, I, R, L, sz, ex⟩ := σ
  exact br_ge
theorem v179_21 {z : P0} {st : List Value} {cu : Nat × Nat} {Q : Res → Mem → Prop} {σ : Mem} {x1 x2 : Option Value} {u : Nat} : X z 179 21 [some (.ref u), x1, x2] (st) cu σ Q = (X z 179 22 [some (.ref u), x1, x2] (.ref u :: st) cu σ Q) := by
  rw [x179_21]
  rfl
theorem v179_22 {z : P0} {st : List Value} {cu : Nat × Nat} {Q : Res → Mem → Prop} {σ : Mem} {x1 x2 : Option Value} {u : Nat} : X z 179 22 [some (.ref u), x1, x2] (st) cu σ Q = (X z 179 23 [some (.ref u), x1, x2] (.ref u :: st) cu σ Q) := by
  rw [x179_22]
  rfl
theorem v179_23 {z : P0} {st : List Value} {cu : Nat × Nat} {Q : Res → Mem → Prop} {σ : Mem} {x0 x2 : Option Value} {u : Int32} : X z 179 23 [x0, some (.int u), x2] (st) cu σ Q = (X z 179 24 [x0, some (.int u), x2] (.int u :: st) cu σ Q) := by
  rw [x179_23]
  rfl
theorem v179_24 {z : P0} {st : List Value} {cu : Nat × Nat} {Q : Res → Mem → Prop} {σ : Mem} {x0 x1 : Option Value} {u : Int32} : X z 179 24 [x0, x1, some (.int u)] (st) cu σ Q = (X z 179 25 [x0, x1, some (.int u)] (.int u :: st) cu σ Q) := by
  rw [x179_24]
  rfl
theorem u179_25 {z : P0} {ls : Lcs} {st : List Value} {K : Nat → Nat × Nat} {I : Nat → Nat → Int32} {R : Nat → Nat → Option Nat} {L : Nat → Nat → Int64} {sz : Nat} {ex : Bool} {Q : Res → Mem → Prop} {x : Nat} {a0 : Int32} {a1 : Int32} : X z 179 25 ls (.int a1 :: .int a0 :: .ref x :: st) (0, 0) (K, I, R, L, sz, ex) Q = ((K x).1 = 111 ∧ wsum st ≤ 8 ∧ X z 155 0 [some (.ref x), some (.int a0), some (.int a1)] [] (0, 0) (K, I, R, L, sz, ex) (aftr (X z) mT 179 25 ls st (0, 0) Q)) := v179_25 (c := 0) (n := 0)
theorem v179_28 {z : P0} {st : List Value} {cu : Nat × Nat} {Q : Res → Mem → Prop} {σ : Mem} {x0 x1 x2 : Option Value} {u : Int32} : X z 179 28 [x0, x1, x2] (.int u :: st) cu σ Q = (X z 179 29 [x0, x1, x2] (.long u.toInt64 :: st) cu σ Q) := by
  rw [x179_28]
  rfl
theorem u179_29 {z : P0} {ls : Lcs} {st : List Value} {K : Nat → Nat × Nat} {I : Nat → Nat → Int32} {R : Nat → Nat → Option Nat} {L : Nat → Nat → Int64} {sz : Nat} {ex : Bool} {Q : Res → Mem → Prop} {x : Nat} {a0 : Int64} : X z 179 29 ls (.long a0 :: .ref x :: st) (0, 0) (K, I, R, L, sz, ex) Q = ((K x).1 = 111 ∧ wsum st ≤ 8 ∧ X z 178 0 [some (.ref x), some (.long a0), none] [] (0, 0) (K, I, R, L, sz, ex) (aftr (X z) mT 179 29 ls st (0, 0) Q)) := v179_29 (c := 0) (n := 0)
theorem v179_32 {z : P0} {st : List Value} {cu : Nat × Nat} {Q : Res → Mem → Prop} {σ : Mem} {x0 x1 : Option Value} {u : Int32} : X z 179 32 [x0, x1, some (.int u)] (st) cu σ Q = (cat2 x1 = false ∧ X z 179 35 [x0, x1, some (.int (u + nI 1))] (st) cu σ Q) := by
  rw [x179_32]
  obtain ⟨K, I, R, L, sz, ex⟩ := σ
  exact i_iinc.trans (gl_2.trans (ldI_i.trans sl_2))
theorem v179_35 {z : P0} {st : List Value} {cu : Nat × Nat} {Q : Res → Mem → Prop} {σ : Mem} {x0 x1 x2 : Option Value} : X z 179 35 [x0, x1, x2] (st) cu σ Q = (X z 179 15 [x0, x1, x2] (st) cu σ Q) := by
  rw [x179_35]
  rfl
theorem v179_38 {z : P0} {st : List Value} {cu : Nat × Nat} {Q : Res → Mem → Prop} {σ : Mem} {x0 x1 x2 : Option Value} : X z 179 38 [x0, x1, x2] (st) cu σ Q = (X z 179 39 [x0, x1, x2] (.int (nI 0) :: st) cu σ Q) := by
  rw [x179_38]
  rfl
theorem v179_39 {z : P0} {st : List Value} {cu : Nat × Nat} {Q : Res → Mem → Prop} {σ : Mem} {x0 x1 x2 : Option Value} {u : Int32} : X z 179 39 [x0, x1, x2] (.int u :: st) cu σ Q = (cat2 x1 = false ∧ X z 179 40 [x0, x1, some (.int u)] (st) cu σ Q) := by
  rw [x179_39]
  obtain ⟨K, I, R, L, sz, ex⟩ := σ
  exact i_istore_n.trans sl_2
theorem v179_40 {z : P0} {st : List Value} {cu : Nat × Nat} {Q : Res → Mem → Prop} {σ : Mem} {x0 x1 : Option Value} {u : Int32} : X z 179 40 [x0, x1, some (.int u)] (st) cu σ Q = (X z 179 41 [x0, x1, some (.int u)] (.int u :: st) cu σ Q) := by
  rw [x179_40]
  rfl
theorem v179_41 {z : P0} {st : List Value} {cu : Nat × Nat} {Q : Res → Mem → Prop} {σ : Mem} {x1 x2 : Option Value} {u : Nat} : X z 179 41 [some (.ref u), x1, x2] (st) cu σ Q = (X z 179 42 [some (.ref u), x1, x2] (.ref u :: st) cu σ Q) := by
  rw [x179_41]
  rfl
theorem v179_42 {z : P0} {st : List Value} {cu : Nat × Nat} {Q : Res → Mem → Prop} {K : Nat → Nat × Nat} {I : Nat → Nat → Int32} {R : Nat → Nat → Option Nat} {L : Nat → Nat → Int64} {sz : Nat} {ex : Bool} {x0 x1 x2 : Option Value} {u : Nat} : X z 179 42 [x0, x1, x2] (.ref u :: st) cu (K, I, R, L, sz, ex) Q = ((K u).1 = 111 ∧ X z 179 45 [x0, x1, x2] (va_rf (R u 0) :: st) cu (K, I, R, L, sz, ex) Q) := by
  rw [x179_42]
  rfl
theorem v179_45 {z : P0} {st : List Value} {cu : Nat × Nat} {Q : Res → Mem → Prop} {σ : Mem} {x0 x1 x2 : Option Value} : X z 179 45 [x0, x1, x2] (st) cu σ Q = (X z 179 48 [x0, x1, x2] (.int (nI 133) :: st) cu σ Q) := by
  rw [x179_45]
  rfl
theorem v179_48 {z : P0} {st : List Value} {cu : Nat × Nat} {Q : Res → Mem → Prop} {σ : Mem} {x0 x2 : Option Value} {u : Int32} : X z 179 48 [x0, some (.int u), x2] (st) cu σ Q = (X z 179 49 [x0, some (.int u), x2] (.int u :: st) cu σ Q) := by
  rw [x179_48]
  rfl
theorem v179_49 {z : P0} {st : List Value} {cu : Nat × Nat} {Q : Res → Mem → Prop} {σ : Mem} {x0 x1 x2 : Option Value} {u v : Int32} : X z 179 49 [x0, x1, x2] (.int v :: .int u :: st) cu σ Q = (X z 179 50 [x0, x1, x2] (.int (u + v) :: st) cu σ Q) := by
  rw [x179_49]
  rfl
theorem v179_50 {z : P0} {st : List Value} {cu : Nat × Nat} {Q : Res → Mem → Prop} {K : Nat → Nat × Nat} {I : Nat → Nat → Int32} {R : Nat → Nat → Option Nat} {L : Nat → Nat → Int64} {sz : Nat} {ex : Bool} {x0 x1 x2 : Option Value} {u : Nat} {v : Int32} : X z 179 50 [x0, x1, x2] (.int v :: .ref u :: st) cu (K, I, R, L, sz, ex) Q = (((K u).1 = 20 ∨ (K u).1 = 50) ∧ vp_in v (K u).2 ∧ X z 179 51 [x0, x1, x2] (.int (I u v.toNatClampNeg) :: st) cu (K, I, R, L, sz, ex) Q) := by
  rw [x179_50]
  rfl
theorem v179_51 {z : P0} {st : List Value} {cu : Nat × Nat} {Q : Res → Mem → Prop} {σ : Mem} {x0 x1 x2 : Option Value} {u v : Int32} : X z 179 51 [x0, x1, x2] (.int v :: .int u :: st) cu σ Q = (if u < v then X z 179 54 [x0, x1, x2] (st) cu σ Q else X z 179 80 [x0, x1, x2] (st) cu σ Q) := by
  rw [x179_51]
  obtain ⟨K, I, R, L, sz, ex⟩ := σ
  exact br_ge
theorem v179_54 {z : P0} {st : List Value} {cu : Nat × Nat} {Q : Res → Mem → Prop} {σ : Mem} {x1 x2 : Option Value} {u : Nat} : X z 179 54 [some (.ref u), x1, x2] (st) cu σ Q = (X z 179 55 [some (.ref u), x1, x2] (.ref u :: st) cu σ Q) := by
  rw [x179_54]
  rfl
theorem v179_55 {z : P0} {st : List Value} {cu : Nat × Nat} {Q : Res → Mem → Prop} {σ : Mem} {x1 x2 : Option Value} {u : Nat} : X z 179 55 [some (.ref u), x1, x2] (st) cu σ Q = (X z 179 56 [some (.ref u), x1, x2] (.ref u :: st) cu σ Q) := by
  rw [x179_55]
  rfl
theorem v179_56 {z : P0} {st : List Value} {cu : Nat × Nat} {Q : Res → Mem → Prop} {K : Nat → Nat × Nat} {I : Nat → Nat → Int32} {R : Nat → Nat → Option Nat} {L : Nat → Nat → Int64} {sz : Nat} {ex : Bool} {x0 x1 x2 : Option Value} {u : Nat} : X z 179 56 [x0, x1, x2] (.ref u :: st) cu (K, I, R, L, sz, ex) Q = ((K u).1 = 111 ∧ X z 179 59 [x0, x1, x2] (va_rf (R u 0) :: st) cu (K, I, R, L, sz, ex) Q) := by
  rw [x179_56]
  rfl
theorem v179_59 {z : P0} {st : List Value} {cu : Nat × Nat} {Q : Res → Mem → Prop} {σ : Mem} {x0 x1 x2 : Option Value} : X z 179 59 [x0, x1, x2] (st) cu σ Q = (X z 179 62 [x0, x1, x2] (.int (nI 153) :: st) cu σ Q) := by
  rw [x179_59]
  rfl
theorem v179_62 {z : P0} {st : List Value} {cu : Nat × Nat} {Q : Res → Mem → Prop} {σ : Mem} {x0 x1 x2 : Option Value} : X z 179 62 [x0, x1, x2] (st) cu σ Q = (X z 179 64 [x0, x1, x2] (.int (nI 8) :: st) cu σ Q) := by
  rw [x179_62]
  rfl
theorem v179_64 {z : P0} {st : List Value} {cu : Nat × Nat} {Q : Res → Mem → Prop} {σ : Mem} {x0 x2 : Option Value} {u : Int32} : X z 179 64 [x0, some (.int u), x2] (st) cu σ Q = (X z 179 65 [x0, some (.int u), x2] (.int u :: st) cu σ Q) := by
  rw [x179_64]
  rfl
theorem v179_65 {z : P0} {st : List Value} {cu : Nat × Nat} {Q : Res → Mem → Prop} {σ : Mem} {x0 x1 x2 : Option Value} {u v : Int32} : X z 179 65 [x0, x1, x2] (.int v :: .int u :: st) cu σ Q = (X z 179 66 [x0, x1, x2] (.int (u * v) :: st) cu σ Q) := by
  rw [x179_65]
  rfl
theorem v179_66 {z : P0} {st : List Value} {cu : Nat × Nat} {Q : Res → Mem → Prop} {σ : Mem} {x0 x1 x2 : Option Value} {u v : Int32} : X z 179 66 [x0, x1, x2] (.int v :: .int u :: st) cu σ Q = (X z 179 67 [x0, x1, x2] (.int (u + v) :: st) cu σ Q) := by
  rw [x179_66]
  rfl
theorem v179_67 {z : P0} {st : List Value} {cu : Nat × Nat} {Q : Res → Mem → Prop} {σ : Mem} {x0 x1 : Option Value} {u : Int32} : X z 179 67 [x0, x1, some (.int u)] (st) cu σ Q = (X z 179 68 [x0, x1, some (.int u)] (.int u :: st) cu σ Q) := by
  rw [x179_67]
  rfl
theorem v179_68 {z : P0} {st : List Value} {cu : Nat × Nat} {Q : Res → Mem → Prop} {σ : Mem} {x0 x1 x2 : Option Value} {u v : Int32} : X z 179 68 [x0, x1, x2] (.int v :: .int u :: st) cu σ Q = (X z 179 69 [x0, x1, x2] (.int (u + v) :: st) cu σ Q) := by
  rw [x179_68]
  rfl
theorem v179_69 {z : P0} {st : List Value} {cu : Nat × Nat} {Q : Res → Mem → Prop} {K : Nat → Nat × Nat} {I : Nat → Nat → Int32} {R : Nat → Nat → Option Nat} {L : Nat → Nat → Int64} {sz : Nat} {ex : Bool} {x0 x1 x2 : Option Value} {u : Nat} {v : Int32} : X z 179 69 [x0, x1, x2] (.int v :: .ref u :: st) cu (K, I, R, L, sz, ex) Q = (((K u).1 = 20 ∨ (K u).1 = 50) ∧ vp_in v (K u).2 ∧ X z 179 70 [x0, x1, x2] (.int (I u v.toNatClampNeg) :: st) cu (K, I, R, L, sz, ex) Q) := by
  rw [x179_69]
  rfl
theorem v179_70 {z : P0} {st : List Value} {cu : Nat × Nat} {Q : Res → Mem → Prop} {σ : Mem} {x0 x1 x2 : Option Value} {u : Int32} : X z 179 70 [x0, x1, x2] (.int u :: st) cu σ Q = (X z 179 71 [x0, x1, x2] (.long u.toInt64 :: st) cu σ Q) := by
  rw [x179_70]
  rfl
theorem u179_71 {z : P0} {ls : Lcs} {st : List Value} {K : Nat → Nat × Nat} {I : Nat → Nat → Int32} {R : Nat → Nat → Option Nat} {L : Nat → Nat → Int64} {sz : Nat} {ex : Bool} {Q : Res → Mem → Prop} {x : Nat} {a0 : Int64} : X z 179 71 ls (.long a0 :: .ref x :: st) (0, 0) (K, I, R, L, sz, ex) Q = ((K x).1 = 111 ∧ wsum st ≤ 8 ∧ X z 178 0 [some (.ref x), some (.long a0), none] [] (0, 0) (K, I, R, L, sz, ex) (aftr (X z) mT 179 71 ls st (0, 0) Q)) := v179_71 (c := 0) (n := 0)
theorem v179_74 {z : P0} {st : List Value} {cu : Nat × Nat} {Q : Res → Mem → Prop} {σ : Mem} {x0 x1 : Option Value} {u : Int32} : X z 179 74 [x0, x1, some (.int u)] (st) cu σ Q = (cat2 x1 = false ∧ X z 179 77 [x0, x1, some (.int (u + nI 1))] (st) cu σ Q) := by
  rw [x179_74]
  obtain ⟨K, I, R, L, sz, ex⟩ := σ
  exact i_iinc.trans (gl_2.trans (ldI_i.trans sl_2))
theorem v179_77 {z : P0} {st : List Value} {cu : Nat × Nat} {Q : Res → Mem → Prop} {σ : Mem} {x0 x1 x2 : Option Value} : X z 179 77 [x0, x1, x2] (st) cu σ Q = (X z 179 40 [x0, x1, x2] (st) cu σ Q) := by
  rw [x179_77]
  rfl
theorem v179_80 {z : P0} {st : List Value} {cu : Nat × Nat} {Q : Res → Mem → Prop} {σ : Mem} {x1 x2 : Option Value} {u : Nat} : X z 179 80 [some (.ref u), x1, x2] (st) cu σ Q = (X z 179 81 [some (.ref u), x1, x2] (.ref u :: st) cu σ Q) := by
  rw [x179_80]
  rfl
theorem v179_81 {z : P0} {st : List Value} {cu : Nat × Nat} {Q : Res → Mem → Prop} {σ : Mem} {x1 x2 : Option Value} {u : Nat} : X z 179 81 [some (.ref u), x1, x2] (st) cu σ Q = (X z 179 82 [some (.ref u), x1, x2] (.ref u :: st) cu σ Q) := by
  rw [x179_81]
  rfl
theorem v179_82 {z : P0} {st : List Value} {cu : Nat × Nat} {Q : Res → Mem → Prop} {σ : Mem} {x0 x2 : Option Value} {u : Int32} : X z 179 82 [x0, some (.int u), x2] (st) cu σ Q = (X z 179 83 [x0, some (.int u), x2] (.int u :: st) cu σ Q) := by
  rw [x179_82]
  rfl
theorem u179_83 {z : P0} {ls : Lcs} {st : List Value} {K : Nat → Nat × Nat} {I : Nat → Nat → Int32} {R : Nat → Nat → Option Nat} {L : Nat → Nat → Int64} {sz : Nat} {ex : Bool} {Q : Res → Mem → Prop} {x : Nat} {a0 : Int32} : X z 179 83 ls (.int a0 :: .ref x :: st) (0, 0) (K, I, R, L, sz, ex) Q = ((K x).1 = 111 ∧ wsum st ≤ 8 ∧ X z 174 0 [some (.ref x), some (.int a0), none] [] (0, 0) (K, I, R, L, sz, ex) (aftr (X z) mT 179 83 ls st (0, 0) Q)) := v179_83 (c := 0) (n := 0)
theorem v179_86 {z : P0} {st : List Value} {cu : Nat × Nat} {Q : Res → Mem → Prop} {σ : Mem} {x0 x1 x2 : Option Value} {u : Int32} : X z 179 86 [x0, x1, x2] (.int u :: st) cu σ Q = (X z 179 87 [x0, x1, x2] (.long u.toInt64 :: st) cu σ Q) := by
  rw [x179_86]
  rfl
theorem u179_87 {z : P0} {ls : Lcs} {st : List Value} {K : Nat → Nat × Nat} {I : Nat → Nat → Int32} {R : Nat → Nat → Option Nat} {L : Nat → Nat → Int64} {sz : Nat} {ex : Bool} {Q : Res → Mem → Prop} {x : Nat} {a0 : Int64} : X z 179 87 ls (.long a0 :: .ref x :: st) (0, 0) (K, I, R, L, sz, ex) Q = ((K x).1 = 111 ∧ wsum st ≤ 8 ∧ X z 178 0 [some (.ref x), some (.long a0), none] [] (0, 0) (K, I, R, L, sz, ex) (aftr (X z) mT 179 87 ls st (0, 0) Q)) := v179_87 (c := 0) (n := 0)
theorem v179_90 {z : P0} {st : List Value} {cu : Nat × Nat} {Q : Res → Mem → Prop} {σ : Mem} {x0 x2 : Option Value} {u : Int32} : X z 179 90 [x0, some (.int u), x2] (st) cu σ Q = (cat2 x0 = false ∧ X z 179 93 [x0, some (.int (u + nI 1)), x2] (st) cu σ Q) := by
  rw [x179_90]
  obtain ⟨K, I, R, L, sz, ex⟩ := σ
  exact i_iinc.trans (gl_1.trans (ldI_i.trans sl_1))
theorem v179_93 {z : P0} {st : List Value} {cu : Nat × Nat} {Q : Res → Mem → Prop} {σ : Mem} {x0 x1 x2 : Option Value} : X z 179 93 [x0, x1, x2] (st) cu σ Q = (X z 179 2 [x0, x1, x2] (st) cu σ Q) := by
  rw [x179_93]
  rfl
theorem v179_96 {z : P0} {st : List Value} {cu : Nat × Nat} {Q : Res → Mem → Prop} {σ : Mem} {x0 x1 x2 : Option Value} : X z 179 96 [x0, x1, x2] (st) cu σ Q = (X z 179 97 [x0, x1, x2] (.int (nI 0) :: st) cu σ Q) := by
  rw [x179_96]
  rfl
theorem v179_97 {z : P0} {st : List Value} {cu : Nat × Nat} {Q : Res → Mem → Prop} {σ : Mem} {x0 x1 x2 : Option Value} {u : Int32} : X z 179 97 [x0, x1, x2] (.int u :: st) cu σ Q = (cat2 x0 = false ∧ X z 179 98 [x0, some (.int u), x2] (st) cu σ Q) := by
  rw [x179_97]
  obtain ⟨K, I, R, L, sz, ex⟩ := σ
  exact i_istore_n.trans sl_1
theorem v179_98 {z : P0} {st : List Value} {cu : Nat × Nat} {Q : Res → Mem → Prop} {σ : Mem} {x0 x2 : Option Value} {u : Int32} : X z 179 98 [x0, some (.int u), x2] (st) cu σ Q = (X z 179 99 [x0, some (.int u), x2] (.int u :: st) cu σ Q) := by
  rw [x179_98]
  rfl
theorem v179_99 {z : P0} {st : List Value} {cu : Nat × Nat} {Q : Res → Mem → Prop} {σ : Mem} {x1 x2 : Option Value} {u : Nat} : X z 179 99 [some (.ref u), x1, x2] (st) cu σ Q = (X z 179 100 [some (.ref u), x1, x2] (.ref u :: st) cu σ Q) := by
  rw [x179_99]
  rfl
theorem v179_100 {z : P0} {st : List Value} {cu : Nat × Nat} {Q : Res → Mem → Prop} {K : Nat → Nat × Nat} {I : Nat → Nat → Int32} {R : Nat → Nat → Option Nat} {L : Nat → Nat → Int64} {sz : Nat} {ex : Bool} {x0 x1 x2 : Option Value} {u : Nat} : X z 179 100 [x0, x1, x2] (.ref u :: st) cu (K, I, R, L, sz, ex) Q = ((K u).1 = 111 ∧ X z 179 103 [x0, x1, x2] (va_rf (R u 0) :: st) cu (K, I, R, L, sz, ex) Q) := by
  rw [x179_100]
  rfl
theorem v179_103 {z : P0} {st : List Value} {cu : Nat × Nat} {Q : Res → Mem → Prop} {σ : Mem} {x0 x1 x2 : Option Value} : X z 179 103 [x0, x1, x2] (st) cu σ Q = (X z 179 105 [x0, x1, x2] (.int (nI 7) :: st) cu σ Q) := by
  rw [x179_103]
  rfl
theorem v179_105 {z : P0} {st : List Value} {cu : Nat × Nat} {Q : Res → Mem → Prop} {K : Nat → Nat × Nat} {I : Nat → Nat → Int32} {R : Nat → Nat → Option Nat} {L : Nat → Nat → Int64} {sz : Nat} {ex : Bool} {x0 x1 x2 : Option Value} {u : Nat} {v : Int32} : X z 179 105 [x0, x1, x2] (.int v :: .ref u :: st) cu (K, I, R, L, sz, ex) Q = (((K u).1 = 20 ∨ (K u).1 = 50) ∧ vp_in v (K u).2 ∧ X z 179 106 [x0, x1, x2] (.int (I u v.toNatClampNeg) :: st) cu (K, I, R, L, sz, ex) Q) := by
  rw [x179_105]
  rfl
theorem v179_106 {z : P0} {st : List Value} {cu : Nat × Nat} {Q : Res → Mem → Prop} {σ : Mem} {x0 x1 x2 : Option Value} {u v : Int32} : X z 179 106 [x0, x1, x2] (.int v :: .int u :: st) cu σ Q = (if u < v then X z 179 109 [x0, x1, x2] (st) cu σ Q else X z 179 152 [x0, x1, x2] (st) cu σ Q) := by
  rw [x179_106]
  obtain ⟨K, I, R, L, sz, ex⟩ := σ
  exact br_ge
theorem v179_109 {z : P0} {st : List Value} {cu : Nat × Nat} {Q : Res → Mem → Prop} {σ : Mem} {x0 x1 x2 : Option Value} : X z 179 109 [x0, x1, x2] (st) cu σ Q = (X z 179 110 [x0, x1, x2] (.int (nI 0) :: st) cu σ Q) := by
  rw [x179_109]
  rfl
theorem v179_110 {z : P0} {st : List Value} {cu : Nat × Nat} {Q : Res → Mem → Prop} {σ : Mem} {x0 x1 x2 : Option Value} {u : Int32} : X z 179 110 [x0, x1, x2] (.int u :: st) cu σ Q = (cat2 x1 = false ∧ X z 179 111 [x0, x1, some (.int u)] (st) cu σ Q) := by
  rw [x179_110]
  obtain ⟨K, I, R, L, sz, ex⟩ := σ
  exact i_istore_n.trans sl_2
theorem v179_111 {z : P0} {st : List Value} {cu : Nat × Nat} {Q : Res → Mem → Prop} {σ : Mem} {x0 x1 : Option Value} {u : Int32} : X z 179 111 [x0, x1, some (.int u)] (st) cu σ Q = (X z 179 112 [x0, x1, some (.int u)] (.int u :: st) cu σ Q) := by
  rw [x179_111]
  rfl
theorem v179_112 {z : P0} {st : List Value} {cu : Nat × Nat} {Q : Res → Mem → Prop} {σ : Mem} {x0 x1 x2 : Option Value} : X z 179 112 [x0, x1, x2] (st) cu σ Q = (X z 179 114 [x0, x1, x2] (.int (nI 12) :: st) cu σ Q) := by
  rw [x179_112]
  rfl
theorem v179_114 {z : P0} {st : List Value} {cu : Nat × Nat} {Q : Res → Mem → Prop} {σ : Mem} {x0 x1 x2 : Option Value} {u v : Int32} : X z 179 114 [x0, x1, x2] (.int v :: .int u :: st) cu σ Q = (if u < v then X z 179 117 [x0, x1, x2] (st) cu σ Q else X z 179 146 [x0, x1, x2] (st) cu σ Q) := by
  rw [x179_114]
  obtain ⟨K, I, R, L, sz, ex⟩ := σ
  exact br_ge
theorem v179_117 {z : P0} {st : List Value} {cu : Nat × Nat} {Q : Res → Mem → Prop} {σ : Mem} {x1 x2 : Option Value} {u : Nat} : X z 179 117 [some (.ref u), x1, x2] (st) cu σ Q = (X z 179 118 [some (.ref u), x1, x2] (.ref u :: st) cu σ Q) := by
  rw [x179_117]
  rfl
theorem v179_118 {z : P0} {st : List Value} {cu : Nat × Nat} {Q : Res → Mem → Prop} {σ : Mem} {x1 x2 : Option Value} {u : Nat} : X z 179 118 [some (.ref u), x1, x2] (st) cu σ Q = (X z 179 119 [some (.ref u), x1, x2] (.ref u :: st) cu σ Q) := by
  rw [x179_118]
  rfl
theorem v179_119 {z : P0} {st : List Value} {cu : Nat × Nat} {Q : Res → Mem → Prop} {σ : Mem} {x0 x2 : Option Value} {u : Int32} : X z 179 119 [x0, some (.int u), x2] (st) cu σ Q = (X z 179 120 [x0, some (.int u), x2] (.int u :: st) cu σ Q) := by
  rw [x179_119]
  rfl
theorem v179_120 {z : P0} {st : List Value} {cu : Nat × Nat} {Q : Res → Mem → Prop} {σ : Mem} {x0 x1 : Option Value} {u : Int32} : X z 179 120 [x0, x1, some (.int u)] (st) cu σ Q = (X z 179 121 [x0, x1, some (.int u)] (.int u :: st) cu σ Q) := by
  rw [x179_120]
  rfl
theorem v179_121 {z : P0} {st : List Value} {cu : Nat × Nat} {Q : Res → Mem → Prop} {σ : Mem} {x0 x1 x2 : Option Value} : X z 179 121 [x0, x1, x2] (st) cu σ Q = (X z 179 122 [x0, x1, x2] (.int (nI 4) :: st) cu σ Q) := by
  rw [x179_121]
  rfl
theorem v179_122 {z : P0} {st : List Value} {cu : Nat × Nat} {Q : Res → Mem → Prop} {σ : Mem} {x0 x1 x2 : Option Value} {u v : Int32} : X z 179 122 [x0, x1, x2] (.int v :: .int u :: st) cu σ Q = (if u < v then X z 179 125 [x0, x1, x2] (st) cu σ Q else X z 179 129 [x0, x1, x2] (st) cu σ Q) := by
  rw [x179_122]
  obtain ⟨K, I, R, L, sz, ex⟩ := σ
  exact br_ge
theorem v179_125 {z : P0} {st : List Value} {cu : Nat × Nat} {Q : Res → Mem → Prop} {σ : Mem} {x0 x1 : Option Value} {u : Int32} : X z 179 125 [x0, x1, some (.int u)] (st) cu σ Q = (X z 179 126 [x0, x1, some (.int u)] (.int u :: st) cu σ Q) := by
  rw [x179_125]
  rfl
theorem v179_126 {z : P0} {st : List Value} {cu : Nat × Nat} {Q : Res → Mem → Prop} {σ : Mem} {x0 x1 x2 : Option Value} : X z 179 126 [x0, x1, x2] (st) cu σ Q = (X z 179 133 [x0, x1, x2] (st) cu σ Q) := by
  rw [x179_126]
  rfl
theorem v179_129 {z : P0} {st : List Value} {cu : Nat × Nat} {Q : Res → Mem → Prop} {σ : Mem} {x0 x1 x2 : Option Value} : X z 179 129 [x0, x1, x2] (st) cu σ Q = (X z 179 131 [x0, x1, x2] (.int (nI 6) :: st) cu σ Q) := by
  rw [x179_129]
  rfl
theorem v179_131 {z : P0} {st : List Value} {cu : Nat × Nat} {Q : Res → Mem → Prop} {σ : Mem} {x0 x1 : Option Value} {u : Int32} : X z 179 131 [x0, x1, some (.int u)] (st) cu σ Q = (X z 179 132 [x0, x1, some (.int u)] (.int u :: st) cu σ Q) := by
  rw [x179_131]
  rfl
theorem v179_132 {z : P0} {st : List Value} {cu : Nat × Nat} {Q : Res → Mem → Prop} {σ : Mem} {x0 x1 x2 : Option Value} {u v : Int32} : X z 179 132 [x0, x1, x2] (.int v :: .int u :: st) cu σ Q = (X z 179 133 [x0, x1, x2] (.int (u + v) :: st) cu σ Q) := by
  rw [x179_132]
  rfl
theorem u179_133 {z : P0} {ls : Lcs} {st : List Value} {K : Nat → Nat × Nat} {I : Nat → Nat → Int32} {R : Nat → Nat → Option Nat} {L : Nat → Nat → Int64} {sz : Nat} {ex : Bool} {Q : Res → Mem → Prop} {x : Nat} {a0 : Int32} {a1 : Int32} : X z 179 133 ls (.int a1 :: .int a0 :: .ref x :: st) (0, 0) (K, I, R, L, sz, ex) Q = ((K x).1 = 111 ∧ wsum st ≤ 8 ∧ X z 159 0 [some (.ref x), some (.int a0), some (.int a1)] [] (0, 0) (K, I, R, L, sz, ex) (aftr (X z) mT 179 133 ls st (0, 0) Q)) := v179_133 (c := 0) (n := 0)
theorem v179_136 {z : P0} {st : List Value} {cu : Nat × Nat} {Q : Res → Mem → Prop} {σ : Mem} {x0 x1 x2 : Option Value} {u : Int32} : X z 179 136 [x0, x1, x2] (.int u :: st) cu σ Q = (X z 179 137 [x0, x1, x2] (.long u.toInt64 :: st) cu σ Q) := by
  rw [x179_136]
  rfl
theorem u179_137 {z : P0} {ls : Lcs} {st : List Value} {K : Nat → Nat × Nat} {I : Nat → Nat → Int32} {R : Nat → Nat → Option Nat} {L : Nat → Nat → Int64} {sz : Nat} {ex : Bool} {Q : Res → Mem → Prop} {x : Nat} {a0 : Int64} : X z 179 137 ls (.long a0 :: .ref x :: st) (0, 0) (K, I, R, L, sz, ex) Q = ((K x).1 = 111 ∧ wsum st ≤ 8 ∧ X z 178 0 [some (.ref x), some (.long a0), none] [] (0, 0) (K, I, R, L, sz, ex) (aftr (X z) mT 179 137 ls st (0, 0) Q)) := v179_137 (c := 0) (n := 0)
theorem v179_140 {z : P0} {st : List Value} {cu : Nat × Nat} {Q : Res → Mem → Prop} {σ : Mem} {x0 x1 : Option Value} {u : Int32} : X z 179 140 [x0, x1, some (.int u)] (st) cu σ Q = (cat2 x1 = false ∧ X z 179 143 [x0, x1, some (.int (u + nI 1))] (st) cu σ Q) := by
  rw [x179_140]
  obtain ⟨K, I, R, L, sz, ex⟩ := σ
  exact i_iinc.trans (gl_2.trans (ldI_i.trans sl_2))
theorem v179_143 {z : P0} {st : List Value} {cu : Nat × Nat} {Q : Res → Mem → Prop} {σ : Mem} {x0 x1 x2 : Option Value} : X z 179 143 [x0, x1, x2] (st) cu σ Q = (X z 179 111 [x0, x1, x2] (st) cu σ Q) := by
  rw [x179_143]
  rfl
theorem v179_146 {z : P0} {st : List Value} {cu : Nat × Nat} {Q : Res → Mem → Prop} {σ : Mem} {x0 x2 : Option Value} {u : Int32} : X z 179 146 [x0, some (.int u), x2] (st) cu σ Q = (cat2 x0 = false ∧ X z 179 149 [x0, some (.int (u + nI 1)), x2] (st) cu σ Q) := by
  rw [x179_146]
  obtain ⟨K, I, R, L, sz, ex⟩ := σ
  exact i_iinc.trans (gl_1.trans (ldI_i.trans sl_1))
theorem v179_149 {z : P0} {st : List Value} {cu : Nat × Nat} {Q : Res → Mem → Prop} {σ : Mem} {x0 x1 x2 : Option Value} : X z 179 149 [x0, x1, x2] (st) cu σ Q = (X z 179 98 [x0, x1, x2] (st) cu σ Q) := by
  rw [x179_149]
  rfl
theorem v179_152 {z : P0} {cu : Nat × Nat} {Q : Res → Mem → Prop} {σ : Mem} {x0 x1 x2 : Option Value} : X z 179 152 [x0, x1, x2] ([]) cu σ Q = (Q (.inl none) σ) := by
  rw [x179_152]
  rfl
theorem v180_0 {z : P0} {st : List Value} {cu : Nat × Nat} {Q : Res → Mem → Prop} {σ : Mem} {x0 x1 x2 : Option Value} : X z 180 0 [x0, x1, x2] (st) cu σ Q = (X z 180 1 [x0, x1, x2] (.int (nI 0) :: st) cu σ Q) := by
  rw [x180_0]
  rfl
theorem v180_1 {z : P0} {st : List Value} {cu : Nat × Nat} {Q : Res → Mem → Prop} {σ : Mem} {x0 x1 x2 : Option Value} {u : Int32} : X z 180 1 [x0, x1, x2] (.int u :: st) cu σ Q = (cat2 x0 = false ∧ X z 180 2 [x0, some (.int u), x2] (st) cu σ Q) := by
  rw [x180_1]
  obtain ⟨K, I, R, L, sz, ex⟩ := σ
  exact i_istore_n.trans sl_1
theorem v180_2 {z : P0} {st : List Value} {cu : Nat × Nat} {Q : Res → Mem → Prop} {σ : Mem} {x0 x2 : Option Value} {u : Int32} : X z 180 2 [x0, some (.int u), x2] (st) cu σ Q = (X z 180 3 [x0, some (.int u), x2] (.int u :: st) cu σ Q) := by
  rw [x180_2]
  rfl
theorem v180_3 {z : P0} {st : List Value} {cu : Nat × Nat} {Q : Res → Mem → Prop} {σ : Mem} {x1 x2 : Option Value} {u : Nat} : X z 180 3 [some (.ref u), x1, x2] (st) cu σ Q = (X z 180 4 [some (.ref u), x1, x2] (.ref u :: st) cu σ Q) := by
  rw [x180_3]
  rfl
theorem v180_4 {z : P0} {st : List Value} {cu : Nat × Nat} {Q : Res → Mem → Prop} {K : Nat → Nat × Nat} {I : Nat → Nat → Int32} {R : Nat → Nat → Option Nat} {L : Nat → Nat → Int64} {sz : Nat} {ex : Bool} {x0 x1 x2 : Option Value} {u : Nat} : X z 180 4 [x0, x1, x2] (.ref u :: st) cu (K, I, R, L, sz, ex) Q = ((K u).1 = 111 ∧ X z 180 7 [x0, x1, x2] (.int (I u 12) :: st) cu (K, I, R, L, sz, ex) Q) := by
  rw [x180_4]
  rfl
theorem v180_7 {z : P0} {st : List Value} {cu : Nat × Nat} {Q : Res → Mem → Prop} {σ : Mem} {x0 x1 x2 : Option Value} {u v : Int32} : X z 180 7 [x0, x1, x2] (.int v :: .int u :: st) cu σ Q = (if u < v then X z 180 10 [x0, x1, x2] (st) cu σ Q else X z 180 84 [x0, x1, x2] (st) cu σ Q) := by
  rw [x180_7]
  obtain ⟨K, I, R, L, sz, ex⟩ := σ
  exact br_ge
theorem v180_10 {z : P0} {st : List Value} {cu : Nat × Nat} {Q : Res → Mem → Prop} {σ : Mem} {x0 x1 x2 : Option Value} : X z 180 10 [x0, x1, x2] (st) cu σ Q = (X z 180 11 [x0, x1, x2] (.int (nI 0) :: st) cu σ Q) := by
  rw [x180_10]
  rfl
theorem v180_11 {z : P0} {st : List Value} {cu : Nat × Nat} {Q : Res → Mem → Prop} {σ : Mem} {x0 x1 x2 : Option Value} {u : Int32} : X z 180 11 [x0, x1, x2] (.int u :: st) cu σ Q = (cat2 x1 = false ∧ X z 180 12 [x0, x1, some (.int u)] (st) cu σ Q) := by
  rw [x180_11]
  obtain ⟨K, I, R, L, sz, ex⟩ := σ
  exact i_istore_n.trans sl_2
theorem v180_12 {z : P0} {st : List Value} {cu : Nat × Nat} {Q : Res → Mem → Prop} {σ : Mem} {x0 x1 : Option Value} {u : Int32} : X z 180 12 [x0, x1, some (.int u)] (st) cu σ Q = (X z 180 13 [x0, x1, some (.int u)] (.int u :: st) cu σ Q) := by
  rw [x180_12]
  rfl
theorem v180_13 {z : P0} {st : List Value} {cu : Nat × Nat} {Q : Res → Mem → Prop} {σ : Mem} {x0 x1 x2 : Option Value} : X z 180 13 [x0, x1, x2] (st) cu σ Q = (X z 180 15 [x0, x1, x2] (.int (nI 8) :: st) cu σ Q) := by
  rw [x180_13]
  rfl
theorem v180_15 {z : P0} {st : List Value} {cu : Nat × Nat} {Q : Res → Mem → Prop} {σ : Mem} {x0 x1 x2 : Option Value} {u v : Int32} : X z 180 15 [x0, x1, x2] (.int v :: .int u :: st) cu σ Q = (if u < v then X z 180 18 [x0, x1, x2] (st) cu σ Q else X z 180 35 [x0, x1, x2] (st) cu σ Q) := by
  rw [x180_15]
  obtain ⟨K, I, R, L, sz, ex⟩ := σ
  exact br_ge
theorem v180_18 {z : P0} {st : List Value} {cu : Nat × Nat} {Q : Res → Mem → Prop} {σ : Mem} {x1 x2 : Option Value} {u : Nat} : X z 180 18 [some (.ref u), x1, x2] (st) cu σ Q = (X z 180 19 [some (.ref u), x1, x2] (.ref u :: st) cu σ Q) := by
  rw [x180_18]
  rfl
theorem v180_19 {z : P0} {st : List Value} {cu : Nat × Nat} {Q : Res → Mem → Prop} {σ : Mem} {x1 x2 : Option Value} {u : Nat} : X z 180 19 [some (.ref u), x1, x2] (st) cu σ Q = (X z 180 20 [some (.ref u), x1, x2] (.ref u :: st) cu σ Q) := by
  rw [x180_19]
  rfl
theorem v180_20 {z : P0} {st : List Value} {cu : Nat × Nat} {Q : Res → Mem → Prop} {σ : Mem} {x0 x2 : Option Value} {u : Int32} : X z 180 20 [x0, some (.int u), x2] (st) cu σ Q = (X z 180 21 [x0, some (.int u), x2] (.int u :: st) cu σ Q) := by
  rw [x180_20]
  rfl
theorem v180_21 {z : P0} {st : List Value} {cu : Nat × Nat} {Q : Res → Mem → Prop} {σ : Mem} {x0 x1 : Option Value} {u : Int32} : X z 180 21 [x0, x1, some (.int u)] (st) cu σ Q = (X z 180 22 [x0, x1, some (.int u)] (.int u :: st) cu σ Q) := by
  rw [x180_21]
  rfl
theorem u180_22 {z : P0} {ls : Lcs} {st : List Value} {K : Nat → Nat × Nat} {I : Nat → Nat → Int32} {R : Nat → Nat → Option Nat} {L : Nat → Nat → Int64} {sz : Nat} {ex : Bool} {Q : Res → Mem → Prop} {x : Nat} {a0 : Int32} {a1 : Int32} : X z 180 22 ls (.int a1 :: .int a0 :: .ref x :: st) (0, 0) (K, I, R, L, sz, ex) Q = ((K x).1 = 111 ∧ wsum st ≤ 8 ∧ X z 161 0 [some (.ref x), some (.int a0), some (.int a1)] [] (0, 0) (K, I, R, L, sz, ex) (aftr (X z) mT 180 22 ls st (0, 0) Q)) := v180_22 (c := 0) (n := 0)
theorem v180_25 {z : P0} {st : List Value} {cu : Nat × Nat} {Q : Res → Mem → Prop} {σ : Mem} {x0 x1 x2 : Option Value} {u : Int32} : X z 180 25 [x0, x1, x2] (.int u :: st) cu σ Q = (X z 180 26 [x0, x1, x2] (.long u.toInt64 :: st) cu σ Q) := by
  rw [x180_25]
  rfl
theorem u180_26 {z : P0} {ls : Lcs} {st : List Value} {K : Nat → Nat × Nat} {I : Nat → Nat → Int32} {R : Nat → Nat → Option Nat} {L : Nat → Nat → Int64} {sz : Nat} {ex : Bool} {Q : Res → Mem → Prop} {x : Nat} {a0 : Int64} : X z 180 26 ls (.long a0 :: .ref x :: st) (0, 0) (K, I, R, L, sz, ex) Q = ((K x).1 = 111 ∧ wsum st ≤ 8 ∧ X z 178 0 [some (.ref x), some (.long a0), none] [] (0, 0) (K, I, R, L, sz, ex) (aftr (X z) mT 180 26 ls st (0, 0) Q)) := v180_26 (c := 0) (n := 0)
theorem v180_29 {z : P0} {st : List Value} {cu : Nat × Nat} {Q : Res → Mem → Prop} {σ : Mem} {x0 x1 : Option Value} {u : Int32} : X z 180 29 [x0, x1, some (.int u)] (st) cu σ Q = (cat2 x1 = false ∧ X z 180 32 [x0, x1, some (.int (u + nI 1))] (st) cu σ Q) := by
  rw [x180_29]
  obtain ⟨K, I, R, L, sz, ex⟩ := σ
  exact i_iinc.trans (gl_2.trans (ldI_i.trans sl_2))
theorem v180_32 {z : P0} {st : List Value} {cu : Nat × Nat} {Q : Res → Mem → Prop} {σ : Mem} {x0 x1 x2 : Option Value} : X z 180 32 [x0, x1, x2] (st) cu σ Q = (X z 180 12 [x0, x1, x2] (st) cu σ Q) := by
  rw [x180_32]
  rfl
theorem v180_35 {z : P0} {st : List Value} {cu : Nat × Nat} {Q : Res → Mem → Prop} {σ : Mem} {x1 x2 : Option Value} {u : Nat} : X z 180 35 [some (.ref u), x1, x2] (st) cu σ Q = (X z 180 36 [some (.ref u), x1, x2] (.ref u :: st) cu σ Q) := by
  rw [x180_35]
  rfl
theorem v180_36 {z : P0} {st : List Value} {cu : Nat × Nat} {Q : Res → Mem → Prop} {σ : Mem} {x1 x2 : Option Value} {u : Nat} : X z 180 36 [some (.ref u), x1, x2] (st) cu σ Q = (X z 180 37 [some (.ref u), x1, x2] (.ref u :: st) cu σ Q) := by
  rw [x180_36]
  rfl
theorem v180_37 {z : P0} {st : List Value} {cu : Nat × Nat} {Q : Res → Mem → Prop} {K : Nat → Nat × Nat} {I : Nat → Nat → Int32} {R : Nat → Nat → Option Nat} {L : Nat → Nat → Int64} {sz : Nat} {ex : Bool} {x0 x1 x2 : Option Value} {u : Nat} : X z 180 37 [x0, x1, x2] (.ref u :: st) cu (K, I, R, L, sz, ex) Q = ((K u).1 = 111 ∧ X z 180 40 [x0, x1, x2] (va_rf (R u 6) :: st) cu (K, I, R, L, sz, ex) Q) := by
  rw [x180_37]
  rfl
theorem v180_40 {z : P0} {st : List Value} {cu : Nat × Nat} {Q : Res → Mem → Prop} {σ : Mem} {x0 x2 : Option Value} {u : Int32} : X z 180 40 [x0, some (.int u), x2] (st) cu σ Q = (X z 180 41 [x0, some (.int u), x2] (.int u :: st) cu σ Q) := by
  rw [x180_40]
  rfl
theorem v180_41 {z : P0} {st : List Value} {cu : Nat × Nat} {Q : Res → Mem → Prop} {K : Nat → Nat × Nat} {I : Nat → Nat → Int32} {R : Nat → Nat → Option Nat} {L : Nat → Nat → Int64} {sz : Nat} {ex : Bool} {x0 x1 x2 : Option Value} {u : Nat} {v : Int32} : X z 180 41 [x0, x1, x2] (.int v :: .ref u :: st) cu (K, I, R, L, sz, ex) Q = (((K u).1 = 20 ∨ (K u).1 = 50) ∧ vp_in v (K u).2 ∧ X z 180 42 [x0, x1, x2] (.int (I u v.toNatClampNeg) :: st) cu (K, I, R, L, sz, ex) Q) := by
  rw [x180_41]
  rfl
theorem v180_42 {z : P0} {st : List Value} {cu : Nat × Nat} {Q : Res → Mem → Prop} {σ : Mem} {x0 x1 x2 : Option Value} {u : Int32} : X z 180 42 [x0, x1, x2] (.int u :: st) cu σ Q = (X z 180 43 [x0, x1, x2] (.long u.toInt64 :: st) cu σ Q) := by
  rw [x180_42]
  rfl
theorem u180_43 {z : P0} {ls : Lcs} {st : List Value} {K : Nat → Nat × Nat} {I : Nat → Nat → Int32} {R : Nat → Nat → Option Nat} {L : Nat → Nat → Int64} {sz : Nat} {ex : Bool} {Q : Res → Mem → Prop} {x : Nat} {a0 : Int64} : X z 180 43 ls (.long a0 :: .ref x :: st) (0, 0) (K, I, R, L, sz, ex) Q = ((K x).1 = 111 ∧ wsum st ≤ 8 ∧ X z 178 0 [some (.ref x), some (.long a0), none] [] (0, 0) (K, I, R, L, sz, ex) (aftr (X z) mT 180 43 ls st (0, 0) Q)) := v180_43 (c := 0) (n := 0)
theorem v180_46 {z : P0} {st : List Value} {cu : Nat × Nat} {Q : Res → Mem → Prop} {σ : Mem} {x1 x2 : Option Value} {u : Nat} : X z 180 46 [some (.ref u), x1, x2] (st) cu σ Q = (X z 180 47 [some (.ref u), x1, x2] (.ref u :: st) cu σ Q) := by
  rw [x180_46]
  rfl
theorem v180_47 {z : P0} {st : List Value} {cu : Nat × Nat} {Q : Res → Mem → Prop} {σ : Mem} {x0 x2 : Option Value} {u : Int32} : X z 180 47 [x0, some (.int u), x2] (st) cu σ Q = (X z 180 48 [x0, some (.int u), x2] (.int u :: st) cu σ Q) := by
  rw [x180_47]
  rfl
theorem u180_48 {z : P0} {ls : Lcs} {st : List Value} {K : Nat → Nat × Nat} {I : Nat → Nat → Int32} {R : Nat → Nat → Option Nat} {L : Nat → Nat → Int64} {sz : Nat} {ex : Bool} {Q : Res → Mem → Prop} {x : Nat} {a0 : Int32} : X z 180 48 ls (.int a0 :: .ref x :: st) (0, 0) (K, I, R, L, sz, ex) Q = ((K x).1 = 111 ∧ wsum st ≤ 8 ∧ X z 124 0 [some (.ref x), some (.int a0), none, none, none] [] (0, 0) (K, I, R, L, sz, ex) (aftr (X z) mT 180 48 ls st (0, 0) Q)) := v180_48 (c := 0) (n := 0)
theorem v180_51 {z : P0} {st : List Value} {cu : Nat × Nat} {Q : Res → Mem → Prop} {σ : Mem} {x0 x1 x2 : Option Value} : X z 180 51 [x0, x1, x2] (st) cu σ Q = (X z 180 52 [x0, x1, x2] (.int (nI 0) :: st) cu σ Q) := by
  rw [x180_51]
  rfl
theorem v180_52 {z : P0} {st : List Value} {cu : Nat × Nat} {Q : Res → Mem → Prop} {σ : Mem} {x0 x1 x2 : Option Value} {u : Int32} : X z 180 52 [x0, x1, x2] (.int u :: st) cu σ Q = (cat2 x1 = false ∧ X z 180 53 [x0, x1, some (.int u)] (st) cu σ Q) := by
  rw [x180_52]
  obtain ⟨K, I, R, L, sz, ex⟩ := σ
  exact i_istore_n.trans sl_2
theorem v180_53 {z : P0} {st : List Value} {cu : Nat × Nat} {Q : Res → Mem → Prop} {σ : Mem} {x0 x1 : Option Value} {u : Int32} : X z 180 53 [x0, x1, some (.int u)] (st) cu σ Q = (X z 180 54 [x0, x1, some (.int u)] (.int u :: st) cu σ Q) := by
  rw [x180_53]
  rfl
theorem v180_54 {z : P0} {st : List Value} {cu : Nat × Nat} {Q : Res → Mem → Prop} {σ : Mem} {x1 x2 : Option Value} {u : Nat} : X z 180 54 [some (.ref u), x1, x2] (st) cu σ Q = (X z 180 55 [some (.ref u), x1, x2] (.ref u :: st) cu σ Q) := by
  rw [x180_54]
  rfl
theorem v180_55 {z : P0} {st : List Value} {cu : Nat × Nat} {Q : Res → Mem → Prop} {K : Nat → Nat × Nat} {I : Nat → Nat → Int32} {R : Nat → Nat → Option Nat} {L : Nat → Nat → Int64} {sz : Nat} {ex : Bool} {x0 x1 x2 : Option Value} {u : Nat} : X z 180 55 [x0, x1, x2] (.ref u :: st) cu (K, I, R, L, sz, ex) Q = ((K u).1 = 111 ∧ X z 180 58 [x0, x1, x2] (.int (I u 14) :: st) cu (K, I, R, L, sz, ex) Q) := by
  rw [x180_55]
  rfl
theorem v180_58 {z : P0} {st : List Value} {cu : Nat × Nat} {Q : Res → Mem → Prop} {σ : Mem} {x0 x1 x2 : Option Value} {u v : Int32} : X z 180 58 [x0, x1, x2] (.int v :: .int u :: st) cu σ Q = (if u < v then X z 180 61 [x0, x1, x2] (st) cu σ Q else X z 180 78 [x0, x1, x2] (st) cu σ Q) := by
  rw [x180_58]
  obtain ⟨K, I, R, L, sz, ex⟩ := σ
  exact br_ge
theorem v180_61 {z : P0} {st : List Value} {cu : Nat × Nat} {Q : Res → Mem → Prop} {σ : Mem} {x1 x2 : Option Value} {u : Nat} : X z 180 61 [some (.ref u), x1, x2] (st) cu σ Q = (X z 180 62 [some (.ref u), x1, x2] (.ref u :: st) cu σ Q) := by
  rw [x180_61]
  rfl
theorem v180_62 {z : P0} {st : List Value} {cu : Nat × Nat} {Q : Res → Mem → Prop} {σ : Mem} {x1 x2 : Option Value} {u : Nat} : X z 180 62 [some (.ref u), x1, x2] (st) cu σ Q = (X z 180 63 [some (.ref u), x1, x2] (.ref u :: st) cu σ Q) := by
  rw [x180_62]
  rfl
theorem v180_63 {z : P0} {st : List Value} {cu : Nat × Nat} {Q : Res → Mem → Prop} {K : Nat → Nat × Nat} {I : Nat → Nat → Int32} {R : Nat → Nat → Option Nat} {L : Nat → Nat → Int64} {sz : Nat} {ex : Bool} {x0 x1 x2 : Option Value} {u : Nat} : X z 180 63 [x0, x1, x2] (.ref u :: st) cu (K, I, R, L, sz, ex) Q = ((K u).1 = 111 ∧ X z 180 66 [x0, x1, x2] (va_rf (R u 13) :: st) cu (K, I, R, L, sz, ex) Q) := by
  rw [x180_63]
  rfl
theorem v180_66 {z : P0} {st : List Value} {cu : Nat × Nat} {Q : Res → Mem → Prop} {σ : Mem} {x0 x1 : Option Value} {u : Int32} : X z 180 66 [x0, x1, some (.int u)] (st) cu σ Q = (X z 180 67 [x0, x1, some (.int u)] (.int u :: st) cu σ Q) := by
  rw [x180_66]
  rfl
theorem v180_67 {z : P0} {st : List Value} {cu : Nat × Nat} {Q : Res → Mem → Prop} {K : Nat → Nat × Nat} {I : Nat → Nat → Int32} {R : Nat → Nat → Option Nat} {L : Nat → Nat → Int64} {sz : Nat} {ex : Bool} {x0 x1 x2 : Option Value} {u : Nat} {v : Int32} : X z 180 67 [x0, x1, x2] (.int v :: .ref u :: st) cu (K, I, R, L, sz, ex) Q = (((K u).1 = 20 ∨ (K u).1 = 50) ∧ vp_in v (K u).2 ∧ X z 180 68 [x0, x1, x2] (.int (I u v.toNatClampNeg) :: st) cu (K, I, R, L, sz, ex) Q) := by
  rw [x180_67]
  rfl
theorem v180_68 {z : P0} {st : List Value} {cu : Nat × Nat} {Q : Res → Mem → Prop} {σ : Mem} {x0 x1 x2 : Option Value} {u : Int32} : X z 180 68 [x0, x1, x2] (.int u :: st) cu σ Q = (X z 180 69 [x0, x1, x2] (.long u.toInt64 :: st) cu σ Q) := by
  rw [x180_68]
  rfl
theorem u180_69 {z : P0} {ls : Lcs} {st : List Value} {K : Nat → Nat × Nat} {I : Nat → Nat → Int32} {R : Nat → Nat → Option Nat} {L : Nat → Nat → Int64} {sz : Nat} {ex : Bool} {Q : Res → Mem → Prop} {x : Nat} {a0 : Int64} : X z 180 69 ls (.long a0 :: .ref x :: st) (0, 0) (K, I, R, L, sz, ex) Q = ((K x).1 = 111 ∧ wsum st ≤ 8 ∧ X z 178 0 [some (.ref x), some (.long a0), none] [] (0, 0) (K, I, R, L, sz, ex) (aftr (X z) mT 180 69 ls st (0, 0) Q)) := v180_69 (c := 0) (n := 0)
theorem v180_72 {z : P0} {st : List Value} {cu : Nat × Nat} {Q : Res → Mem → Prop} {σ : Mem} {x0 x1 : Option Value} {u : Int32} : X z 180 72 [x0, x1, some (.int u)] (st) cu σ Q = (cat2 x1 = false ∧ X z 180 75 [x0, x1, some (.int (u + nI 1))] (st) cu σ Q) := by
  rw [x180_72]
  obtain ⟨K, I, R, L, sz, ex⟩ := σ
  exact i_iinc.trans (gl_2.trans (ldI_i.trans sl_2))
theorem v180_75 {z : P0} {st : List Value} {cu : Nat × Nat} {Q : Res → Mem → Prop} {σ : Mem} {x0 x1 x2 : Option Value} : X z 180 75 [x0, x1, x2] (st) cu σ Q = (X z 180 53 [x0, x1, x2] (st) cu σ Q) := by
  rw [x180_75]
  rfl
theorem v180_78 {z : P0} {st : List Value} {cu : Nat × Nat} {Q : Res → Mem → Prop} {σ : Mem} {x0 x2 : Option Value} {u : Int32} : X z 180 78 [x0, some (.int u), x2] (st) cu σ Q = (cat2 x0 = false ∧ X z 180 81 [x0, some (.int (u + nI 1)), x2] (st) cu σ Q) := by
  rw [x180_78]
  obtain ⟨K, I, R, L, sz, ex⟩ := σ
  exact i_iinc.trans (gl_1.trans (ldI_i.trans sl_1))
theorem v180_81 {z : P0} {st : List Value} {cu : Nat × Nat} {Q : Res → Mem → Prop} {σ : Mem} {x0 x1 x2 : Option Value} : X z 180 81 [x0, x1, x2] (st) cu σ Q = (X z 180 2 [x0, x1, x2] (st) cu σ Q) := by
  rw [x180_81]
  rfl
theorem v180_84 {z : P0} {cu : Nat × Nat} {Q : Res → Mem → Prop} {σ : Mem} {x0 x1 x2 : Option Value} : X z 180 84 [x0, x1, x2] ([]) cu σ Q = (Q (.inl none) σ) := by
  rw [x180_84]
  rfl
theorem v181_0 {z : P0} {st : List Value} {cu : Nat × Nat} {Q : Res → Mem → Prop} {σ : Mem} {x1 : Option Value} {u : Nat} : X z 181 0 [some (.ref u), x1] (st) cu σ Q = (X z 181 1 [some (.ref u), x1] (.ref u :: st) cu σ Q) := by
  rw [x181_0]
  rfl
theorem v181_1 {z : P0} {st : List Value} {cu : Nat × Nat} {Q : Res → Mem → Prop} {σ : Mem} {x0 x1 : Option Value} : X z 181 1 [x0, x1] (st) cu σ Q = (X z 181 2 [x0, x1] (.int (nI 0) :: st) cu σ Q) := by
  rw [x181_1]
  rfl
theorem v181_2 {z : P0} {st : List Value} {cu : Nat × Nat} {Q : Res → Mem → Prop} {K : Nat → Nat × Nat} {I : Nat → Nat → Int32} {R : Nat → Nat → Option Nat} {L : Nat → Nat → Int64} {sz : Nat} {ex : Bool} {x0 x1 : Option Value} {u : Nat} {v : Int32} : X z 181 2 [x0, x1] (.int v :: .ref u :: st) cu (K, I, R, L, sz, ex) Q = ((K u).1 = 111 ∧ X z 181 5 [x0, x1] (st) cu (K, up2 I u 5 v, R, L, sz, ex) Q) := by
  rw [x181_2]
  exact i_putI
theorem v181_5 {z : P0} {st : List Value} {cu : Nat × Nat} {Q : Res → Mem → Prop} {σ : Mem} {x1 : Option Value} {u : Nat} : X z 181 5 [some (.ref u), x1] (st) cu σ Q = (X z 181 6 [some (.ref u), x1] (.ref u :: st) cu σ Q) := by
  rw [x181_5]
  rfl
theorem u181_6 {z : P0} {ls : Lcs} {st : List Value} {K : Nat → Nat × Nat} {I : Nat → Nat → Int32} {R : Nat → Nat → Option Nat} {L : Nat → Nat → Int64} {sz : Nat} {ex : Bool} {Q : Res → Mem → Prop} {x : Nat} : X z 181 6 ls (.ref x :: st) (0, 0) (K, I, R, L, sz, ex) Q = ((K x).1 = 111 ∧ wsum st ≤ 8 ∧ X z 130 0 [some (.ref x), none] [] (0, 0) (K, I, R, L, sz, ex) (aftr (X z) mT 181 6 ls st (0, 0) Q)) := v181_6 (c := 0) (n := 0)
theorem v181_9 {z : P0} {st : List Value} {cu : Nat × Nat} {Q : Res → Mem → Prop} {σ : Mem} {x1 : Option Value} {u : Nat} : X z 181 9 [some (.ref u), x1] (st) cu σ Q = (X z 181 10 [some (.ref u), x1] (.ref u :: st) cu σ Q) := by
  rw [x181_9]
  rfl
theorem v181_10 {z : P0} {st : List Value} {cu : Nat × Nat} {Q : Res → Mem → Prop} {σ : Mem} {x0 x1 : Option Value} : X z 181 10 [x0, x1] (st) cu σ Q = (X z 181 13 [x0, x1] (.long (lN 2377) :: st) cu σ Q) := by
  rw [x181_10]
  rfl
theorem v181_13 {z : P0} {st : List Value} {cu : Nat × Nat} {Q : Res → Mem → Prop} {K : Nat → Nat × Nat} {I : Nat → Nat → Int32} {R : Nat → Nat → Option Nat} {L : Nat → Nat → Int64} {sz : Nat} {ex : Bool} {x0 x1 : Option Value} {u : Nat} {v : Int64} : X z 181 13 [x0, x1] (.long v :: .ref u :: st) cu (K, I, R, L, sz, ex) Q = ((K u).1 = 111 ∧ X z 181 16 [x0, x1] (st) cu (K, I, R, up2 L u 22 v, sz, ex) Q) := by
  rw [x181_13]
  exact i_putJ
theorem v181_16 {z : P0} {st : List Value} {cu : Nat × Nat} {Q : Res → Mem → Prop} {σ : Mem} {x0 x1 : Option Value} : X z 181 16 [x0, x1] (st) cu σ Q = (X z 181 17 [x0, x1] (.int (nI 0) :: st) cu σ Q) := by
  rw [x181_16]
  rfl
theorem v181_17 {z : P0} {st : List Value} {cu : Nat × Nat} {Q : Res → Mem → Prop} {σ : Mem} {x0 x1 : Option Value} {u : Int32} : X z 181 17 [x0, x1] (.int u :: st) cu σ Q = (cat2 x0 = false ∧ X z 181 18 [x0, some (.int u)] (st) cu σ Q) := by
  rw [x181_17]
  obtain ⟨K, I, R, L, sz, ex⟩ := σ
  exact i_istore_n.trans sl_1
theorem v181_18 {z : P0} {st : List Value} {cu : Nat × Nat} {Q : Res → Mem → Prop} {σ : Mem} {x0 : Option Value} {u : Int32} : X z 181 18 [x0, some (.int u)] (st) cu σ Q = (X z 181 19 [x0, some (.int u)] (.int u :: st) cu σ Q) := by
  rw [x181_18]
  rfl
theorem v181_19 {z : P0} {st : List Value} {cu : Nat × Nat} {Q : Res → Mem → Prop} {σ : Mem} {x0 x1 : Option Value} : X z 181 19 [x0, x1] (st) cu σ Q = (X z 181 21 [x0, x1] (.int (nI 15) :: st) cu σ Q) := by
  rw [x181_19]
  rfl
theorem v181_21 {z : P0} {st : List Value} {cu : Nat × Nat} {Q : Res → Mem → Prop} {σ : Mem} {x0 x1 : Option Value} {u v : Int32} : X z 181 21 [x0, x1] (.int v :: .int u :: st) cu σ Q = (if u < v then X z 181 24 [x0, x1] (st) cu σ Q else X z 181 40 [x0, x1] (st) cu σ Q) := by
  rw [x181_21]
  obtain ⟨K, I, R, L, sz, ex⟩ := σ
  exact br_ge
theorem v181_24 {z : P0} {st : List Value} {cu : Nat × Nat} {Q : Res → Mem → Prop} {σ : Mem} {x1 : Option Value} {u : Nat} : X z 181 24 [some (.ref u), x1] (st) cu σ Q = (X z 181 25 [some (.ref u), x1] (.ref u :: st) cu σ Q) := by
  rw [x181_24]
  rfl
theorem v181_25 {z : P0} {st : List Value} {cu : Nat × Nat} {Q : Res → Mem → Prop} {σ : Mem} {x1 : Option Value} {u : Nat} : X z 181 25 [some (.ref u), x1] (st) cu σ Q = (X z 181 26 [some (.ref u), x1] (.ref u :: st) cu σ Q) := by
  rw [x181_25]
  rfl
theorem v181_26 {z : P0} {st : List Value} {cu : Nat × Nat} {Q : Res → Mem → Prop} {σ : Mem} {x0 : Option Value} {u : Int32} : X z 181 26 [x0, some (.int u)] (st) cu σ Q = (X z 181 27 [x0, some (.int u)] (.int u :: st) cu σ Q) := by
  rw [x181_26]
  rfl
theorem u181_27 {z : P0} {ls : Lcs} {st : List Value} {K : Nat → Nat × Nat} {I : Nat → Nat → Int32} {R : Nat → Nat → Option Nat} {L : Nat → Nat → Int64} {sz : Nat} {ex : Bool} {Q : Res → Mem → Prop} {x : Nat} {a0 : Int32} : X z 181 27 ls (.int a0 :: .ref x :: st) (0, 0) (K, I, R, L, sz, ex) Q = ((K x).1 = 111 ∧ wsum st ≤ 8 ∧ X z 165 0 [some (.ref x), some (.int a0)] [] (0, 0) (K, I, R, L, sz, ex) (aftr (X z) mT 181 27 ls st (0, 0) Q)) := v181_27 (c := 0) (n := 0)
theorem v181_30 {z : P0} {st : List Value} {cu : Nat × Nat} {Q : Res → Mem → Prop} {σ : Mem} {x0 x1 : Option Value} {u : Int32} : X z 181 30 [x0, x1] (.int u :: st) cu σ Q = (X z 181 31 [x0, x1] (.long u.toInt64 :: st) cu σ Q) := by
  rw [x181_30]
  rfl
theorem u181_31 {z : P0} {ls : Lcs} {st : List Value} {K : Nat → Nat × Nat} {I : Nat → Nat → Int32} {R : Nat → Nat → Option Nat} {L : Nat → Nat → Int64} {sz : Nat} {ex : Bool} {Q : Res → Mem → Prop} {x : Nat} {a0 : Int64} : X z 181 31 ls (.long a0 :: .ref x :: st) (0, 0) (K, I, R, L, sz, ex) Q = ((K x).1 = 111 ∧ wsum st ≤ 8 ∧ X z 178 0 [some (.ref x), some (.long a0), none] [] (0, 0) (K, I, R, L, sz, ex) (aftr (X z) mT 181 31 ls st (0, 0) Q)) := v181_31 (c := 0) (n := 0)
theorem v181_34 {z : P0} {st : List Value} {cu : Nat × Nat} {Q : Res → Mem → Prop} {σ : Mem} {x0 : Option Value} {u : Int32} : X z 181 34 [x0, some (.int u)] (st) cu σ Q = (cat2 x0 = false ∧ X z 181 37 [x0, some (.int (u + nI 1))] (st) cu σ Q) := by
  rw [x181_34]
  obtain ⟨K, I, R, L, sz, ex⟩ := σ
  exact i_iinc.trans (gl_1.trans (ldI_i.trans sl_1))
theorem v181_37 {z : P0} {st : List Value} {cu : Nat × Nat} {Q : Res → Mem → Prop} {σ : Mem} {x0 x1 : Option Value} : X z 181 37 [x0, x1] (st) cu σ Q = (X z 181 18 [x0, x1] (st) cu σ Q) := by
  rw [x181_37]
  rfl
theorem v181_40 {z : P0} {st : List Value} {cu : Nat × Nat} {Q : Res → Mem → Prop} {σ : Mem} {x0 x1 : Option Value} : X z 181 40 [x0, x1] (st) cu σ Q = (X z 181 41 [x0, x1] (.int (nI 0) :: st) cu σ Q) := by
  rw [x181_40]
  rfl
theorem v181_41 {z : P0} {st : List Value} {cu : Nat × Nat} {Q : Res → Mem → Prop} {σ : Mem} {x0 x1 : Option Value} {u : Int32} : X z 181 41 [x0, x1] (.int u :: st) cu σ Q = (cat2 x0 = false ∧ X z 181 42 [x0, some (.int u)] (st) cu σ Q) := by
  rw [x181_41]
  obtain ⟨K, I, R, L, sz, ex⟩ := σ
  exact i_istore_n.trans sl_1
theorem v181_42 {z : P0} {st : List Value} {cu : Nat × Nat} {Q : Res → Mem → Prop} {σ : Mem} {x0 : Option Value} {u : Int32} : X z 181 42 [x0, some (.int u)] (st) cu σ Q = (X z 181 43 [x0, some (.int u)] (.int u :: st) cu σ Q) := by
  rw [x181_42]
  rfl
theorem v181_43 {z : P0} {st : List Value} {cu : Nat × Nat} {Q : Res → Mem → Prop} {σ : Mem} {x0 x1 : Option Value} : X z 181 43 [x0, x1] (st) cu σ Q = (X z 181 45 [x0, x1] (.int (nI 6) :: st) cu σ Q) := by
  rw [x181_43]
  rfl
theorem v181_45 {z : P0} {st : List Value} {cu : Nat × Nat} {Q : Res → Mem → Prop} {σ : Mem} {x0 x1 : Option Value} {u v : Int32} : X z 181 45 [x0, x1] (.int v :: .int u :: st) cu σ Q = (if u < v then X z 181 48 [x0, x1] (st) cu σ Q else X z 181 67 [x0, x1] (st) cu σ Q) := by
  rw [x181_45]
  obtain ⟨K, I, R, L, sz, ex⟩ := σ
  exact br_ge
theorem v181_48 {z : P0} {st : List Value} {cu : Nat × Nat} {Q : Res → Mem → Prop} {σ : Mem} {x1 : Option Value} {u : Nat} : X z 181 48 [some (.ref u), x1] (st) cu σ Q = (X z 181 49 [some (.ref u), x1] (.ref u :: st) cu σ Q) := by
  rw [x181_48]
  rfl
theorem v181_49 {z : P0} {st : List Value} {cu : Nat × Nat} {Q : Res → Mem → Prop} {σ : Mem} {x1 : Option Value} {u : Nat} : X z 181 49 [some (.ref u), x1] (st) cu σ Q = (X z 181 50 [some (.ref u), x1] (.ref u :: st) cu σ Q) := by
  rw [x181_49]
  rfl
theorem v181_50 {z : P0} {st : List Value} {cu : Nat × Nat} {Q : Res → Mem → Prop} {K : Nat → Nat × Nat} {I : Nat → Nat → Int32} {R : Nat → Nat → Option Nat} {L : Nat → Nat → Int64} {sz : Nat} {ex : Bool} {x0 x1 : Option Value} {u : Nat} : X z 181 50 [x0, x1] (.ref u :: st) cu (K, I, R, L, sz, ex) Q = ((K u).1 = 111 ∧ X z 181 53 [x0, x1] (va_rf (R u 0) :: st) cu (K, I, R, L, sz, ex) Q) := by
  rw [x181_50]
  rfl
theorem v181_53 {z : P0} {st : List Value} {cu : Nat × Nat} {Q : Res → Mem → Prop} {σ : Mem} {x0 x1 : Option Value} : X z 181 53 [x0, x1] (st) cu σ Q = (X z 181 54 [x0, x1] (.int (nI 0) :: st) cu σ Q) := by
  rw [x181_53]
  rfl
theorem v181_54 {z : P0} {st : List Value} {cu : Nat × Nat} {Q : Res → Mem → Prop} {σ : Mem} {x0 : Option Value} {u : Int32} : X z 181 54 [x0, some (.int u)] (st) cu σ Q = (X z 181 55 [x0, some (.int u)] (.int u :: st) cu σ Q) := by
  rw [x181_54]
  rfl
theorem v181_55 {z : P0} {st : List Value} {cu : Nat × Nat} {Q : Res → Mem → Prop} {σ : Mem} {x0 x1 : Option Value} {u v : Int32} : X z 181 55 [x0, x1] (.int v :: .int u :: st) cu σ Q = (X z 181 56 [x0, x1] (.int (u + v) :: st) cu σ Q) := by
  rw [x181_55]
  rfl
theorem v181_56 {z : P0} {st : List Value} {cu : Nat × Nat} {Q : Res → Mem → Prop} {K : Nat → Nat × Nat} {I : Nat → Nat → Int32} {R : Nat → Nat → Option Nat} {L : Nat → Nat → Int64} {sz : Nat} {ex : Bool} {x0 x1 : Option Value} {u : Nat} {v : Int32} : X z 181 56 [x0, x1] (.int v :: .ref u :: st) cu (K, I, R, L, sz, ex) Q = (((K u).1 = 20 ∨ (K u).1 = 50) ∧ vp_in v (K u).2 ∧ X z 181 57 [x0, x1] (.int (I u v.toNatClampNeg) :: st) cu (K, I, R, L, sz, ex) Q) := by
  rw [x181_56]
  rfl
theorem v181_57 {z : P0} {st : List Value} {cu : Nat × Nat} {Q : Res → Mem → Prop} {σ : Mem} {x0 x1 : Option Value} {u : Int32} : X z 181 57 [x0, x1] (.int u :: st) cu σ Q = (X z 181 58 [x0, x1] (.long u.toInt64 :: st) cu σ Q) := by
  rw [x181_57]
  rfl
theorem u181_58 {z : P0} {ls : Lcs} {st : List Value} {K : Nat → Nat × Nat} {I : Nat → Nat → Int32} {R : Nat → Nat → Option Nat} {L : Nat → Nat → Int64} {sz : Nat} {ex : Bool} {Q : Res → Mem → Prop} {x : Nat} {a0 : Int64} : X z 181 58 ls (.long a0 :: .ref x :: st) (0, 0) (K, I, R, L, sz, ex) Q = ((K x).1 = 111 ∧ wsum st ≤ 8 ∧ X z 178 0 [some (.ref x), some (.long a0), none] [] (0, 0) (K, I, R, L, sz, ex) (aftr (X z) mT 181 58 ls st (0, 0) Q)) := v181_58 (c := 0) (n := 0)
theorem v181_61 {z : P0} {st : List Value} {cu : Nat × Nat} {Q : Res → Mem → Prop} {σ : Mem} {x0 : Option Value} {u : Int32} : X z 181 61 [x0, some (.int u)] (st) cu σ Q = (cat2 x0 = false ∧ X z 181 64 [x0, some (.int (u + nI 1))] (st) cu σ Q) := by
  rw [x181_61]
  obtain ⟨K, I, R, L, sz, ex⟩ := σ
  exact i_iinc.trans (gl_1.trans (ldI_i.trans sl_1))
theorem v181_64 {z : P0} {st : List Value} {cu : Nat × Nat} {Q : Res → Mem → Prop} {σ : Mem} {x0 x1 : Option Value} : X z 181 64 [x0, x1] (st) cu σ Q = (X z 181 42 [x0, x1] (st) cu σ Q) := by
  rw [x181_64]
  rfl
theorem v181_67 {z : P0} {st : List Value} {cu : Nat × Nat} {Q : Res → Mem → Prop} {σ : Mem} {x1 : Option Value} {u : Nat} : X z 181 67 [some (.ref u), x1] (st) cu σ Q = (X z 181 68 [some (.ref u), x1] (.ref u :: st) cu σ Q) := by
  rw [x181_67]
  rfl
theorem u181_68 {z : P0} {ls : Lcs} {st : List Value} {K : Nat → Nat × Nat} {I : Nat → Nat → Int32} {R : Nat → Nat → Option Nat} {L : Nat → Nat → Int64} {sz : Nat} {ex : Bool} {Q : Res → Mem → Prop} {x : Nat} : X z 181 68 ls (.ref x :: st) (0, 0) (K, I, R, L, sz, ex) Q = ((K x).1 = 111 ∧ wsum st ≤ 8 ∧ X z 179 0 [some (.ref x), none, none] [] (0, 0) (K, I, R, L, sz, ex) (aftr (X z) mT 181 68 ls st (0, 0) Q)) := v181_68 (c := 0) (n := 0)
theorem v181_71 {z : P0} {st : List Value} {cu : Nat × Nat} {Q : Res → Mem → Prop} {σ : Mem} {x1 : Option Value} {u : Nat} : X z 181 71 [some (.ref u), x1] (st) cu σ Q = (X z 181 72 [some (.ref u), x1] (.ref u :: st) cu σ Q) := by
  rw [x181_71]
  rfl
theorem u181_72 {z : P0} {ls : Lcs} {st : List Value} {K : Nat → Nat × Nat} {I : Nat → Nat → Int32} {R : Nat → Nat → Option Nat} {L : Nat → Nat → Int64} {sz : Nat} {ex : Bool} {Q : Res → Mem → Prop} {x : Nat} : X z 181 72 ls (.ref x :: st) (0, 0) (K, I, R, L, sz, ex) Q = ((K x).1 = 111 ∧ wsum st ≤ 8 ∧ X z 180 0 [some (.ref x), none, none] [] (0, 0) (K, I, R, L, sz, ex) (aftr (X z) mT 181 72 ls st (0, 0) Q)) := v181_72 (c := 0) (n := 0)
theorem v181_75 {z : P0} {st : List Value} {cu : Nat × Nat} {Q : Res → Mem → Prop} {σ : Mem} {x1 : Option Value} {u : Nat} : X z 181 75 [some (.ref u), x1] (st) cu σ Q = (X z 181 76 [some (.ref u), x1] (.ref u :: st) cu σ Q) := by
  rw [x181_75]
  rfl
theorem v181_76 {z : P0} {st : List Value} {cu : Nat × Nat} {Q : Res → Mem → Prop} {σ : Mem} {x1 : Option Value} {u : Nat} : X z 181 76 [some (.ref u), x1] (st) cu σ Q = (X z 181 77 [some (.ref u), x1] (.ref u :: st) cu σ Q) := by
  rw [x181_76]
  rfl
theorem u181_77 {z : P0} {ls : Lcs} {st : List Value} {K : Nat → Nat × Nat} {I : Nat → Nat → Int32} {R : Nat → Nat → Option Nat} {L : Nat → Nat → Int64} {sz : Nat} {ex : Bool} {Q : Res → Mem → Prop} {x : Nat} : X z 181 77 ls (.ref x :: st) (0, 0) (K, I, R, L, sz, ex) Q = ((K x).1 = 111 ∧ wsum st ≤ 8 ∧ X z 170 0 [some (.ref x), none, none, none, none, none, none] [] (0, 0) (K, I, R, L, sz, ex) (aftr (X z) mT 181 77 ls st (0, 0) Q)) := v181_77 (c := 0) (n := 0)
theorem v181_80 {z : P0} {st : List Value} {cu : Nat × Nat} {Q : Res → Mem → Prop} {σ : Mem} {x0 x1 : Option Value} {u : Int32} : X z 181 80 [x0, x1] (.int u :: st) cu σ Q = (X z 181 81 [x0, x1] (.long u.toInt64 :: st) cu σ Q) := by
  rw [x181_80]
  rfl
theorem u181_81 {z : P0} {ls : Lcs} {st : List Value} {K : Nat → Nat × Nat} {I : Nat → Nat → Int32} {R : Nat → Nat → Option Nat} {L : Nat → Nat → Int64} {sz : Nat} {ex : Bool} {Q : Res → Mem → Prop} {x : Nat} {a0 : Int64} : X z 181 81 ls (.long a0 :: .ref x :: st) (0, 0) (K, I, R, L, sz, ex) Q = ((K x).1 = 111 ∧ wsum st ≤ 8 ∧ X z 178 0 [some (.ref x), some (.long a0), none] [] (0, 0) (K, I, R, L, sz, ex) (aftr (X z) mT 181 81 ls st (0, 0) Q)) := v181_81 (c := 0) (n := 0)
theorem v181_84 {z : P0} {st : List Value} {cu : Nat × Nat} {Q : Res → Mem → Prop} {σ : Mem} {x1 : Option Value} {u : Nat} : X z 181 84 [some (.ref u), x1] (st) cu σ Q = (X z 181 85 [some (.ref u), x1] (.ref u :: st) cu σ Q) := by
  rw [x181_84]
  rfl
theorem v181_85 {z : P0} {st : List Value} {cu : Nat × Nat} {Q : Res → Mem → Prop} {σ : Mem} {x1 : Option Value} {u : Nat} : X z 181 85 [some (.ref u), x1] (st) cu σ Q = (X z 181 86 [some (.ref u), x1] (.ref u :: st) cu σ Q) := by
  rw [x181_85]
  rfl
theorem u181_86 {z : P0} {ls : Lcs} {st : List Value} {K : Nat → Nat × Nat} {I : Nat → Nat → Int32} {R : Nat → Nat → Option Nat} {L : Nat → Nat → Int64} {sz : Nat} {ex : Bool} {Q : Res → Mem → Prop} {x : Nat} : X z 181 86 ls (.ref x :: st) (0, 0) (K, I, R, L, sz, ex) Q = ((K x).1 = 111 ∧ wsum st ≤ 8 ∧ X z 172 0 [some (.ref x), none, none, none] [] (0, 0) (K, I, R, L, sz, ex) (aftr (X z) mT 181 86 ls st (0, 0) Q)) := v181_86 (c := 0) (n := 0)
theorem v181_89 {z : P0} {st : List Value} {cu : Nat × Nat} {Q : Res → Mem → Prop} {σ : Mem} {x0 x1 : Option Value} {u : Int32} : X z 181 89 [x0, x1] (.int u :: st) cu σ Q = (X z 181 90 [x0, x1] (.long u.toInt64 :: st) cu σ Q) := by
  rw [x181_89]
  rfl
theorem u181_90 {z : P0} {ls : Lcs} {st : List Value} {K : Nat → Nat × Nat} {I : Nat → Nat → Int32} {R : Nat → Nat → Option Nat} {L : Nat → Nat → Int64} {sz : Nat} {ex : Bool} {Q : Res → Mem → Prop} {x : Nat} {a0 : Int64} : X z 181 90 ls (.long a0 :: .ref x :: st) (0, 0) (K, I, R, L, sz, ex) Q = ((K x).1 = 111 ∧ wsum st ≤ 8 ∧ X z 178 0 [some (.ref x), some (.long a0), none] [] (0, 0) (K, I, R, L, sz, ex) (aftr (X z) mT 181 90 ls st (0, 0) Q)) := v181_90 (c := 0) (n := 0)
theorem v181_93 {z : P0} {st : List Value} {cu : Nat × Nat} {Q : Res → Mem → Prop} {σ : Mem} {x1 : Option Value} {u : Nat} : X z 181 93 [some (.ref u), x1] (st) cu σ Q = (X z 181 94 [some (.ref u), x1] (.ref u :: st) cu σ Q) := by
  rw [x181_93]
  rfl
theorem u181_94 {z : P0} {ls : Lcs} {st : List Value} {K : Nat → Nat × Nat} {I : Nat → Nat → Int32} {R : Nat → Nat → Option Nat} {L : Nat → Nat → Int64} {sz : Nat} {ex : Bool} {Q : Res → Mem → Prop} {x : Nat} : X z 181 94 ls (.ref x :: st) (0, 0) (K, I, R, L, sz, ex) Q = ((K x).1 = 111 ∧ wsum st ≤ 8 ∧ X z 130 0 [some (.ref x), none] [] (0, 0) (K, I, R, L, sz, ex) (aftr (X z) mT 181 94 ls st (0, 0) Q)) := v181_94 (c := 0) (n := 0)
theorem v181_97 {z : P0} {st : List Value} {cu : Nat × Nat} {Q : Res → Mem → Prop} {σ : Mem} {x1 : Option Value} {u : Nat} : X z 181 97 [some (.ref u), x1] (st) cu σ Q = (X z 181 98 [some (.ref u), x1] (.ref u :: st) cu σ Q) := by
  rw [x181_97]
  rfl
theorem v181_98 {z : P0} {st : List Value} {cu : Nat × Nat} {Q : Res → Mem → Prop} {σ : Mem} {x1 : Option Value} {u : Nat} : X z 181 98 [some (.ref u), x1] (st) cu σ Q = (X z 181 99 [some (.ref u), x1] (.ref u :: st) cu σ Q) := by
  rw [x181_98]
  rfl
theorem u181_99 {z : P0} {ls : Lcs} {st : List Value} {K : Nat → Nat × Nat} {I : Nat → Nat → Int32} {R : Nat → Nat → Option Nat} {L : Nat → Nat → Int64} {sz : Nat} {ex : Bool} {Q : Res → Mem → Prop} {x : Nat} : X z 181 99 ls (.ref x :: st) (0, 0) (K, I, R, L, sz, ex) Q = ((K x).1 = 111 ∧ wsum st ≤ 8 ∧ X z 176 0 [some (.ref x)] [] (0, 0) (K, I, R, L, sz, ex) (aftr (X z) mT 181 99 ls st (0, 0) Q)) := v181_99 (c := 0) (n := 0)
theorem u181_102 {z : P0} {ls : Lcs} {st : List Value} {K : Nat → Nat × Nat} {I : Nat → Nat → Int32} {R : Nat → Nat → Option Nat} {L : Nat → Nat → Int64} {sz : Nat} {ex : Bool} {Q : Res → Mem → Prop} {a0 : UInt64} : X z 181 102 ls (.double a0 :: st) (0, 0) (K, I, R, L, sz, ex) Q = (wsum st ≤ 8 ∧ X z 183 0 [some (.double a0), none] [] (0, 0) (K, I, R, L, sz, ex) (aftr (X z) mT 181 102 ls st (0, 0) Q)) := v181_102 (c := 0) (n := 0)
theorem u181_105 {z : P0} {ls : Lcs} {st : List Value} {K : Nat → Nat × Nat} {I : Nat → Nat → Int32} {R : Nat → Nat → Option Nat} {L : Nat → Nat → Int64} {sz : Nat} {ex : Bool} {Q : Res → Mem → Prop} {x : Nat} {a0 : Int64} : X z 181 105 ls (.long a0 :: .ref x :: st) (0, 0) (K, I, R, L, sz, ex) Q = ((K x).1 = 111 ∧ wsum st ≤ 8 ∧ X z 178 0 [some (.ref x), some (.long a0), none] [] (0, 0) (K, I, R, L, sz, ex) (aftr (X z) mT 181 105 ls st (0, 0) Q)) := v181_105 (c := 0) (n := 0)
theorem v181_108 {z : P0} {st : List Value} {cu : Nat × Nat} {Q : Res → Mem → Prop} {σ : Mem} {x1 : Option Value} {u : Nat} : X z 181 108 [some (.ref u), x1] (st) cu σ Q = (X z 181 109 [some (.ref u), x1] (.ref u :: st) cu σ Q) := by
  rw [x181_108]
  rfl
theorem v181_109 {z : P0} {st : List Value} {cu : Nat × Nat} {Q : Res → Mem → Prop} {σ : Mem} {x1 : Option Value} {u : Nat} : X z 181 109 [some (.ref u), x1] (st) cu σ Q = (X z 181 110 [some (.ref u), x1] (.ref u :: st) cu σ Q) := by
  rw [x181_109]
  rfl
theorem v181_110 {z : P0} {st : List Value} {cu : Nat × Nat} {Q : Res → Mem → Prop} {K : Nat → Nat × Nat} {I : Nat → Nat → Int32} {R : Nat → Nat → Option Nat} {L : Nat → Nat → Int64} {sz : Nat} {ex : Bool} {x0 x1 : Option Value} {u : Nat} : X z 181 110 [x0, x1] (.ref u :: st) cu (K, I, R, L, sz, ex) Q = ((K u).1 = 111 ∧ X z 181 113 [x0, x1] (.int (I u 3) :: st) cu (K, I, R, L, sz, ex) Q) := by
  rw [x181_110]
  rfl
theorem v181_113 {z : P0} {st : List Value} {cu : Nat × Nat} {Q : Res → Mem → Prop} {σ : Mem} {x0 x1 : Option Value} {u : Int32} : X z 181 113 [x0, x1] (.int u :: st) cu σ Q = (X z 181 114 [x0, x1] (.long u.toInt64 :: st) cu σ Q) := by
  rw [x181_113]
  rfl
theorem u181_114 {z : P0} {ls : Lcs} {st : List Value} {K : Nat → Nat × Nat} {I : Nat → Nat → Int32} {R : Nat → Nat → Option Nat} {L : Nat → Nat → Int64} {sz : Nat} {ex : Bool} {Q : Res → Mem → Prop} {x : Nat} {a0 : Int64} : X z 181 114 ls (.long a0 :: .ref x :: st) (0, 0) (K, I, R, L, sz, ex) Q = ((K x).1 = 111 ∧ wsum st ≤ 8 ∧ X z 178 0 [some (.ref x), some (.long a0), none] [] (0, 0) (K, I, R, L, sz, ex) (aftr (X z) mT 181 114 ls st (0, 0) Q)) := v181_114 (c := 0) (n := 0)
theorem v181_117 {z : P0} {st : List Value} {cu : Nat × Nat} {Q : Res → Mem → Prop} {σ : Mem} {x0 x1 : Option Value} : X z 181 117 [x0, x1] (st) cu σ Q = (X z 181 118 [x0, x1] (.int (nI 0) :: st) cu σ Q) := by
  rw [x181_117]
  rfl
theorem v181_118 {z : P0} {st : List Value} {cu : Nat × Nat} {Q : Res → Mem → Prop} {σ : Mem} {x0 x1 : Option Value} {u : Int32} : X z 181 118 [x0, x1] (.int u :: st) cu σ Q = (cat2 x0 = false ∧ X z 181 119 [x0, some (.int u)] (st) cu σ Q) := by
  rw [x181_118]
  obtain ⟨K, I, R, L, sz, ex⟩ := σ
  exact i_istore_n.trans sl_1
theorem v181_119 {z : P0} {st : List Value} {cu : Nat × Nat} {Q : Res → Mem → Prop} {σ : Mem} {x0 : Option Value} {u : Int32} : X z 181 119 [x0, some (.int u)] (st) cu σ Q = (X z 181 120 [x0, some (.int u)] (.int u :: st) cu σ Q) := by
  rw [x181_119]
  rfl
theorem v181_120 {z : P0} {st : List Value} {cu : Nat × Nat} {Q : Res → Mem → Prop} {σ : Mem} {x1 : Option Value} {u : Nat} : X z 181 120 [some (.ref u), x1] (st) cu σ Q = (X z 181 121 [some (.ref u), x1] (.ref u :: st) cu σ Q) := by
  rw [x181_120]
  rfl
theorem v181_121 {z : P0} {st : List Value} {cu : Nat × Nat} {Q : Res → Mem → Prop} {K : Nat → Nat × Nat} {I : Nat → Nat → Int32} {R : Nat → Nat → Option Nat} {L : Nat → Nat → Int64} {sz : Nat} {ex : Bool} {x0 x1 : Option Value} {u : Nat} : X z 181 121 [x0, x1] (.ref u :: st) cu (K, I, R, L, sz, ex) Q = ((K u).1 = 111 ∧ X z 181 124 [x0, x1] (.int (I u 3) :: st) cu (K, I, R, L, sz, ex) Q) := by
  rw [x181_121]
  rfl
theorem v181_124 {z : P0} {st : List Value} {cu : Nat × Nat} {Q : Res → Mem → Prop} {σ : Mem} {x0 x1 : Option Value} {u v : Int32} : X z 181 124 [x0, x1] (.int v :: .int u :: st) cu σ Q = (if u < v then X z 181 127 [x0, x1] (st) cu σ Q else X z 181 144 [x0, x1] (st) cu σ Q) := by
  rw [x181_124]
  obtain ⟨K, I, R, L, sz, ex⟩ := σ
  exact br_ge
theorem v181_127 {z : P0} {st : List Value} {cu : Nat × Nat} {Q : Res → Mem → Prop} {σ : Mem} {x1 : Option Value} {u : Nat} : X z 181 127 [some (.ref u), x1] (st) cu σ Q = (X z 181 128 [some (.ref u), x1] (.ref u :: st) cu σ Q) := by
  rw [x181_127]
  rfl
theorem v181_128 {z : P0} {st : List Value} {cu : Nat × Nat} {Q : Res → Mem → Prop} {σ : Mem} {x1 : Option Value} {u : Nat} : X z 181 128 [some (.ref u), x1] (st) cu σ Q = (X z 181 129 [some (.ref u), x1] (.ref u :: st) cu σ Q) := by
  rw [x181_128]
  rfl
theorem v181_129 {z : P0} {st : List Value} {cu : Nat × Nat} {Q : Res → Mem → Prop} {K : Nat → Nat × Nat} {I : Nat → Nat → Int32} {R : Nat → Nat → Option Nat} {L : Nat → Nat → Int64} {sz : Nat} {ex : Bool} {x0 x1 : Option Value} {u : Nat} : X z 181 129 [x0, x1] (.ref u :: st) cu (K, I, R, L, sz, ex) Q = ((K u).1 = 111 ∧ X z 181 132 [x0, x1] (va_rf (R u 4) :: st) cu (K, I, R, L, sz, ex) Q) := by
  rw [x181_129]
  rfl
theorem v181_132 {z : P0} {st : List Value} {cu : Nat × Nat} {Q : Res → Mem → Prop} {σ : Mem} {x0 : Option Value} {u : Int32} : X z 181 132 [x0, some (.int u)] (st) cu σ Q = (X z 181 133 [x0, some (.int u)] (.int u :: st) cu σ Q) := by
  rw [x181_132]
  rfl
theorem v181_133 {z : P0} {st : List Value} {cu : Nat × Nat} {Q : Res → Mem → Prop} {K : Nat → Nat × Nat} {I : Nat → Nat → Int32} {R : Nat → Nat → Option Nat} {L : Nat → Nat → Int64} {sz : Nat} {ex : Bool} {x0 x1 : Option Value} {u : Nat} {v : Int32} : X z 181 133 [x0, x1] (.int v :: .ref u :: st) cu (K, I, R, L, sz, ex) Q = (((K u).1 = 20 ∨ (K u).1 = 50) ∧ vp_in v (K u).2 ∧ X z 181 134 [x0, x1] (.int (I u v.toNatClampNeg) :: st) cu (K, I, R, L, sz, ex) Q) := by
  rw [x181_133]
  rfl
theorem v181_134 {z : P0} {st : List Value} {cu : Nat × Nat} {Q : Res → Mem → Prop} {σ : Mem} {x0 x1 : Option Value} {u : Int32} : X z 181 134 [x0, x1] (.int u :: st) cu σ Q = (X z 181 135 [x0, x1] (.long u.toInt64 :: st) cu σ Q) := by
  rw [x181_134]
  rfl
theorem u181_135 {z : P0} {ls : Lcs} {st : List Value} {K : Nat → Nat × Nat} {I : Nat → Nat → Int32} {R : Nat → Nat → Option Nat} {L : Nat → Nat → Int64} {sz : Nat} {ex : Bool} {Q : Res → Mem → Prop} {x : Nat} {a0 : Int64} : X z 181 135 ls (.long a0 :: .ref x :: st) (0, 0) (K, I, R, L, sz, ex) Q = ((K x).1 = 111 ∧ wsum st ≤ 8 ∧ X z 178 0 [some (.ref x), some (.long a0), none] [] (0, 0) (K, I, R, L, sz, ex) (aftr (X z) mT 181 135 ls st (0, 0) Q)) := v181_135 (c := 0) (n := 0)
theorem v181_138 {z : P0} {st : List Value} {cu : Nat × Nat} {Q : Res → Mem → Prop} {σ : Mem} {x0 : Option Value} {u : Int32} : X z 181 138 [x0, some (.int u)] (st) cu σ Q = (cat2 x0 = false ∧ X z 181 141 [x0, some (.int (u + nI 1))] (st) cu σ Q) := by
  rw [x181_138]
  obtain ⟨K, I, R, L, sz, ex⟩ := σ
  exact i_iinc.trans (gl_1.trans (ldI_i.trans sl_1))
theorem v181_141 {z : P0} {st : List Value} {cu : Nat × Nat} {Q : Res → Mem → Prop} {σ : Mem} {x0 x1 : Option Value} : X z 181 141 [x0, x1] (st) cu σ Q = (X z 181 119 [x0, x1] (st) cu σ Q) := by
  rw [x181_141]
  rfl
theorem v181_144 {z : P0} {st : List Value} {cu : Nat × Nat} {Q : Res → Mem → Prop} {σ : Mem} {x1 : Option Value} {u : Nat} : X z 181 144 [some (.ref u), x1] (st) cu σ Q = (X z 181 145 [some (.ref u), x1] (.ref u :: st) cu σ Q) := by
  rw [x181_144]
  rfl
theorem v181_145 {z : P0} {st : List Value} {cu : Nat × Nat} {Q : Res → Mem → Prop} {K : Nat → Nat × Nat} {I : Nat → Nat → Int32} {R : Nat → Nat → Option Nat} {L : Nat → Nat → Int64} {sz : Nat} {ex : Bool} {x0 x1 : Option Value} {u : Nat} : X z 181 145 [x0, x1] (.ref u :: st) cu (K, I, R, L, sz, ex) Q = ((K u).1 = 111 ∧ X z 181 148 [x0, x1] (.long (L u 22) :: st) cu (K, I, R, L, sz, ex) Q) := by
  rw [x181_145]
  rfl
theorem v181_148 {z : P0} {cu : Nat × Nat} {Q : Res → Mem → Prop} {σ : Mem} {x0 x1 : Option Value} {v : Int64} : X z 181 148 [x0, x1] ([.long v]) cu σ Q = (Q (.inl (some (.long v))) σ) := by
  rw [x181_148]
  rfl
theorem v182_0 {z : P0} {st : List Value} {cu : Nat × Nat} {Q : Res → Mem → Prop} {σ : Mem} {x1 : Option Value} {u : UInt64} : X z 182 0 [some (.double u), x1] (st) cu σ Q = (X z 182 1 [some (.double u), x1] (.double u :: st) cu σ Q) := by
  rw [x182_0]
  rfl
theorem v182_1 {z : P0} {st : List Value} {cu : Nat × Nat} {Q : Res → Mem → Prop} {σ : Mem} {x1 : Option Value} {u : UInt64} : X z 182 1 [some (.double u), x1] (st) cu σ Q = (X z 182 2 [some (.double u), x1] (.double u :: st) cu σ Q) := by
  rw [x182_1]
  rfl
theorem v182_2 {z : P0} {st : List Value} {cu : Nat × Nat} {Q : Res → Mem → Prop} {σ : Mem} {x0 x1 : Option Value} {u v : UInt64} : X z 182 2 [x0, x1] (.double v :: .double u :: st) cu σ Q = (X z 182 3 [x0, x1] (.int (Op.cmpValue (FP.dcmp u v) .l) :: st) cu σ Q) := by
  rw [x182_2]
  rfl
theorem v182_3 {z : P0} {st : List Value} {cu : Nat × Nat} {Q : Res → Mem → Prop} {σ : Mem} {x0 x1 : Option Value} {u : Int32} : X z 182 3 [x0, x1] (.int u :: st) cu σ Q = (if u = nI 0 then X z 182 10 [x0, x1] (st) cu σ Q else X z 182 6 [x0, x1] (st) cu σ Q) := by
  rw [x182_3]
  rw [nI_0]
  obtain ⟨K, I, R, L, sz, ex⟩ := σ
  exact br_ite
theorem v182_6 {z : P0} {st : List Value} {cu : Nat × Nat} {Q : Res → Mem → Prop} {σ : Mem} {x0 x1 : Option Value} : X z 182 6 [x0, x1] (st) cu σ Q = (X z 182 7 [x0, x1] (.int (nI 1) :: st) cu σ Q) := by
  rw [x182_6]
  rfl
theorem v182_7 {z : P0} {st : List Value} {cu : Nat × Nat} {Q : Res → Mem → Prop} {σ : Mem} {x0 x1 : Option Value} : X z 182 7 [x0, x1] (st) cu σ Q = (X z 182 11 [x0, x1] (st) cu σ Q) := by
  rw [x182_7]
  rfl
theorem v182_10 {z : P0} {st : List Value} {cu : Nat × Nat} {Q : Res → Mem → Prop} {σ : Mem} {x0 x1 : Option Value} : X z 182 10 [x0, x1] (st) cu σ Q = (X z 182 11 [x0, x1] (.int (nI 0) :: st) cu σ Q) := by
  rw [x182_10]
  rfl
theorem v182_11 {z : P0} {cu : Nat × Nat} {Q : Res → Mem → Prop} {σ : Mem} {x0 x1 : Option Value} {v : Int32} : X z 182 11 [x0, x1] ([.int v]) cu σ Q = ((v = nI 0 ∨ v = nI 1) ∧ Q (.inl (some (.int v))) σ) := by
  rw [x182_11]
  rw [nI_0, one1]
  rfl
theorem v183_0 {z : P0} {st : List Value} {cu : Nat × Nat} {Q : Res → Mem → Prop} {σ : Mem} {x1 : Option Value} {u : UInt64} : X z 183 0 [some (.double u), x1] (st) cu σ Q = (X z 183 1 [some (.double u), x1] (.double u :: st) cu σ Q) := by
  rw [x183_0]
  rfl
theorem u183_1 {z : P0} {ls : Lcs} {st : List Value} {K : Nat → Nat × Nat} {I : Nat → Nat → Int32} {R : Nat → Nat → Option Nat} {L : Nat → Nat → Int64} {sz : Nat} {ex : Bool} {Q : Res → Mem → Prop} {a0 : UInt64} : X z 183 1 ls (.double a0 :: st) (0, 0) (K, I, R, L, sz, ex) Q = (wsum st ≤ 8 ∧ X z 182 0 [some (.double a0), none] [] (0, 0) (K, I, R, L, sz, ex) (aftr (X z) mT 183 1 ls st (0, 0) Q)) := v183_1 (c := 0) (n := 0)
theorem v183_4 {z : P0} {st : List Value} {cu : Nat × Nat} {Q : Res → Mem → Prop} {σ : Mem} {x0 x1 : Option Value} {u : Int32} : X z 183 4 [x0, x1] (.int u :: st) cu σ Q = (if u = nI 0 then X z 183 7 [x0, x1] (st) cu σ Q else X z 183 12 [x0, x1] (st) cu σ Q) := by
  rw [x183_4]
  rw [nI_0]
  obtain ⟨K, I, R, L, sz, ex⟩ := σ
  exact br_ne
theorem v183_7 {z : P0} {st : List Value} {cu : Nat × Nat} {Q : Res → Mem → Prop} {σ : Mem} {x1 : Option Value} {u : UInt64} : X z 183 7 [some (.double u), x1] (st) cu σ Q = (X z 183 8 [some (.double u), x1] (.double u :: st) cu σ Q) := by
  rw [x183_7]
  rfl
theorem v183_8 {z : P0} {st : List Value} {cu : Nat × Nat} {Q : Res → Mem → Prop} {σ : Mem} {x0 x1 : Option Value} {v : UInt64} : X z 183 8 [x0, x1] (.double v :: st) cu σ Q = (wsum st ≤ 8 ∧ X z 183 11 [x0, x1] (.long v.toInt64 :: st) cu σ Q) := by
  rw [x183_8]
  rfl
theorem v183_11 {z : P0} {cu : Nat × Nat} {Q : Res → Mem → Prop} {σ : Mem} {x0 x1 : Option Value} {v : Int64} : X z 183 11 [x0, x1] ([.long v]) cu σ Q = (Q (.inl (some (.long v))) σ) := by
  rw [x183_11]
  rfl
theorem v183_12 {z : P0} {st : List Value} {cu : Nat × Nat} {Q : Res → Mem → Prop} {σ : Mem} {x0 x1 : Option Value} : X z 183 12 [x0, x1] (st) cu σ Q = (X z 183 15 [x0, x1] (.long (lN 9221120237041090560) :: st) cu σ Q) := by
  rw [x183_12]
  rfl
theorem v183_15 {z : P0} {cu : Nat × Nat} {Q : Res → Mem → Prop} {σ : Mem} {x0 x1 : Option Value} {v : Int64} : X z 183 15 [x0, x1] ([.long v]) cu σ Q = (Q (.inl (some (.long v))) σ) := by
  rw [x183_15]
  rfl
theorem v184_0 {z : P0} {st : List Value} {cu : Nat × Nat} {Q : Res → Mem → Prop} {σ : Mem} {x1 : Option Value} {u : Int32} : X z 184 0 [some (.int u), x1] (st) cu σ Q = (X z 184 1 [some (.int u), x1] (.int u :: st) cu σ Q) := by
  rw [x184_0]
  rfl
theorem v184_1 {z : P0} {st : List Value} {cu : Nat × Nat} {Q : Res → Mem → Prop} {σ : Mem} {x0 : Option Value} {u : Int32} : X z 184 1 [x0, some (.int u)] (st) cu σ Q = (X z 184 2 [x0, some (.int u)] (.int u :: st) cu σ Q) := by
  rw [x184_1]
  rfl
theorem v184_2 {z : P0} {st : List Value} {cu : Nat × Nat} {Q : Res → Mem → Prop} {σ : Mem} {x0 x1 : Option Value} {u v : Int32} : X z 184 2 [x0, x1] (.int v :: .int u :: st) cu σ Q = (if v < u then X z 184 9 [x0, x1] (st) cu σ Q else X z 184 5 [x0, x1] (st) cu σ Q) := by
  rw [x184_2]
  obtain ⟨K, I, R, L, sz, ex⟩ := σ
  exact br_ite
theorem v184_5 {z : P0} {st : List Value} {cu : Nat × Nat} {Q : Res → Mem → Prop} {σ : Mem} {x1 : Option Value} {u : Int32} : X z 184 5 [some (.int u), x1] (st) cu σ Q = (X z 184 6 [some (.int u), x1] (.int u :: st) cu σ Q) := by
  rw [x184_5]
  rfl
theorem v184_6 {z : P0} {st : List Value} {cu : Nat × Nat} {Q : Res → Mem → Prop} {σ : Mem} {x0 x1 : Option Value} : X z 184 6 [x0, x1] (st) cu σ Q = (X z 184 10 [x0, x1] (st) cu σ Q) := by
  rw [x184_6]
  rfl
theorem v184_9 {z : P0} {st : List Value} {cu : Nat × Nat} {Q : Res → Mem → Prop} {σ : Mem} {x0 : Option Value} {u : Int32} : X z 184 9 [x0, some (.int u)] (st) cu σ Q = (X z 184 10 [x0, some (.int u)] (.int u :: st) cu σ Q) := by
  rw [x184_9]
  rfl
theorem v184_10 {z : P0} {cu : Nat × Nat} {Q : Res → Mem → Prop} {σ : Mem} {x0 x1 : Option Value} {v : Int32} : X z 184 10 [x0, x1] ([.int v]) cu σ Q = (Q (.inl (some (.int v))) σ) := by
  rw [x184_10]
  exact propext ⟨fun h => h.2, fun h => ⟨trivial, h⟩⟩
theorem v185_0 {z : P0} {st : List Value} {cu : Nat × Nat} {Q : Res → Mem → Prop} {σ : Mem} {u : Nat} : X z 185 0 [some (.ref u)] (st) cu σ Q = (X z 185 1 [some (.ref u)] (.ref u :: st) cu σ Q) := by
  rw [x185_0]
  rfl
theorem v185_1 {z : P0} {st : List Value} {cu : Nat × Nat} {Q : Res → Mem → Prop} {K : Nat → Nat × Nat} {I : Nat → Nat → Int32} {R : Nat → Nat → Option Nat} {L : Nat → Nat → Int64} {sz : Nat} {ex : Bool} {x0 : Option Value} {u : Nat} : X z 185 1 [x0] (.ref u :: st) cu (K, I, R, L, sz, ex) Q = ((K u).1 = 52 ∧ X z 185 4 [x0] (va_rf (R u 1) :: st) cu (K, I, R, L, sz, ex) Q) := by
  rw [x185_1]
  rfl
theorem v185_4 {z : P0} {st : List Value} {cu : Nat × Nat} {Q : Res → Mem → Prop} {K : Nat → Nat × Nat} {I : Nat → Nat → Int32} {R : Nat → Nat → Option Nat} {L : Nat → Nat → Int64} {sz : Nat} {ex : Bool} {x0 : Option Value} {u : Nat} : X z 185 4 [x0] (.ref u :: st) cu (K, I, R, L, sz, ex) Q = (isArr (K u).1 = true ∧ X z 185 5 [x0] (.int (nI (K u).2) :: st) cu (K, I, R, L, sz, ex) Q) := by
  rw [x185_4]
  rfl
theorem v185_5 {z : P0} {st : List Value} {cu : Nat × Nat} {Q : Res → Mem → Prop} {σ : Mem} {u : Nat} : X z 185 5 [some (.ref u)] (st) cu σ Q = (X z 185 6 [some (.ref u)] (.ref u :: st) cu σ Q) := by
  rw [x185_5]
  rfl
theorem u185_6 {z : P0} {ls : Lcs} {st : List Value} {K : Nat → Nat × Nat} {I : Nat → Nat → Int32} {R : Nat → Nat → Option Nat} {L : Nat → Nat → Int64} {sz : Nat} {ex : Bool} {Q : Res → Mem → Prop} {x : Nat} : X z 185 6 ls (.ref x :: st) (0, 0) (K, I, R, L, sz, ex) Q = ((K x).1 = 52 ∧ wsum st ≤ 8 ∧ X z 187 0 [some (.ref x)] [] (0, 0) (K, I, R, L, sz, ex) (aftr (X z) mT 185 6 ls st (0, 0) Q)) := v185_6 (c := 0) (n := 0)
theorem v185_9 {z : P0} {st : List Value} {cu : Nat × Nat} {Q : Res → Mem → Prop} {σ : Mem} {x0 : Option Value} {u v : Int32} : X z 185 9 [x0] (.int v :: .int u :: st) cu σ Q = (X z 185 10 [x0] (.int (u >>> (v &&& 31)) :: st) cu σ Q) := by
  rw [x185_9]
  rfl
theorem v185_10 {z : P0} {cu : Nat × Nat} {Q : Res → Mem → Prop} {σ : Mem} {x0 : Option Value} {v : Int32} : X z 185 10 [x0] ([.int v]) cu σ Q = (Q (.inl (some (.int v))) σ) := by
  rw [x185_10]
  exact propext ⟨fun h => h.2, fun h => ⟨trivial, h⟩⟩
theorem v186_0 {z : P0} {st : List Value} {cu : Nat × Nat} {Q : Res → Mem → Prop} {σ : Mem} {x1 : Option Value} {u : Nat} : X z 186 0 [some (.ref u), x1] (st) cu σ Q = (X z 186 1 [some (.ref u), x1] (.ref u :: st) cu σ Q) := by
  rw [x186_0]
  rfl
theorem u186_1 {z : P0} {ls : Lcs} {st : List Value} {K : Nat → Nat × Nat} {I : Nat → Nat → Int32} {R : Nat → Nat → Option Nat} {L : Nat → Nat → Int64} {sz : Nat} {ex : Bool} {Q : Res → Mem → Prop} {x : Nat} : X z 186 1 ls (.ref x :: st) (0, 0) (K, I, R, L, sz, ex) Q = ((K x).1 = 52 ∧ wsum st ≤ 8 ∧ X z 188 0 [some (.ref x)] [] (0, 0) (K, I, R, L, sz, ex) (aftr (X z) mT 186 1 ls st (0, 0) Q)) := v186_1 (c := 0) (n := 0)
theorem v186_4 {z : P0} {st : List Value} {cu : Nat × Nat} {Q : Res → Mem → Prop} {σ : Mem} {x0 x1 : Option Value} {u : Int32} : X z 186 4 [x0, x1] (.int u :: st) cu σ Q = (if u = nI 0 then X z 186 16 [x0, x1] (st) cu σ Q else X z 186 7 [x0, x1] (st) cu σ Q) := by
  rw [x186_4]
  rw [nI_0]
  obtain ⟨K, I, R, L, sz, ex⟩ := σ
  exact br_ite
theorem v186_7 {z : P0} {st : List Value} {cu : Nat × Nat} {Q : Res → Mem → Prop} {σ : Mem} {x1 : Option Value} {u : Nat} : X z 186 7 [some (.ref u), x1] (st) cu σ Q = (X z 186 8 [some (.ref u), x1] (.ref u :: st) cu σ Q) := by
  rw [x186_7]
  rfl
theorem v186_8 {z : P0} {st : List Value} {cu : Nat × Nat} {Q : Res → Mem → Prop} {K : Nat → Nat × Nat} {I : Nat → Nat → Int32} {R : Nat → Nat → Option Nat} {L : Nat → Nat → Int64} {sz : Nat} {ex : Bool} {x0 x1 : Option Value} {u : Nat} : X z 186 8 [x0, x1] (.ref u :: st) cu (K, I, R, L, sz, ex) Q = ((K u).1 = 52 ∧ X z 186 11 [x0, x1] (va_rf (R u 1) :: st) cu (K, I, R, L, sz, ex) Q) := by
  rw [x186_8]
  rfl
theorem v186_11 {z : P0} {st : List Value} {cu : Nat × Nat} {Q : Res → Mem → Prop} {σ : Mem} {x0 : Option Value} {u : Int32} : X z 186 11 [x0, some (.int u)] (st) cu σ Q = (X z 186 12 [x0, some (.int u)] (.int u :: st) cu σ Q) := by
  rw [x186_11]
  rfl
theorem u186_12 {z : P0} {ls : Lcs} {st : List Value} {K : Nat → Nat × Nat} {I : Nat → Nat → Int32} {R : Nat → Nat → Option Nat} {L : Nat → Nat → Int64} {sz : Nat} {ex : Bool} {Q : Res → Mem → Prop} {a0 : Nat} {a1 : Int32} : X z 186 12 ls (.int a1 :: .ref a0 :: st) (0, 0) (K, I, R, L, sz, ex) Q = (wsum st ≤ 8 ∧ X z 190 0 [some (.ref a0), some (.int a1)] [] (0, 0) (K, I, R, L, sz, ex) (aftr (X z) mT 186 12 ls st (0, 0) Q)) := v186_12 (c := 0) (n := 0)
theorem v186_15 {z : P0} {cu : Nat × Nat} {Q : Res → Mem → Prop} {σ : Mem} {x0 x1 : Option Value} {v : Int32} : X z 186 15 [x0, x1] ([.int v]) cu σ Q = (narrow .char (.int v) = .int v ∧ Q (.inl (some (.int v))) σ) := by
  rw [x186_15]
  rfl
theorem v186_16 {z : P0} {st : List Value} {cu : Nat × Nat} {Q : Res → Mem → Prop} {σ : Mem} {x1 : Option Value} {u : Nat} : X z 186 16 [some (.ref u), x1] (st) cu σ Q = (X z 186 17 [some (.ref u), x1] (.ref u :: st) cu σ Q) := by
  rw [x186_16]
  rfl
theorem v186_17 {z : P0} {st : List Value} {cu : Nat × Nat} {Q : Res → Mem → Prop} {K : Nat → Nat × Nat} {I : Nat → Nat → Int32} {R : Nat → Nat → Option Nat} {L : Nat → Nat → Int64} {sz : Nat} {ex : Bool} {x0 x1 : Option Value} {u : Nat} : X z 186 17 [x0, x1] (.ref u :: st) cu (K, I, R, L, sz, ex) Q = ((K u).1 = 52 ∧ X z 186 20 [x0, x1] (va_rf (R u 1) :: st) cu (K, I, R, L, sz, ex) Q) := by
  rw [x186_17]
  rfl
theorem v186_20 {z : P0} {st : List Value} {cu : Nat × Nat} {Q : Res → Mem → Prop} {σ : Mem} {x0 : Option Value} {u : Int32} : X z 186 20 [x0, some (.int u)] (st) cu σ Q = (X z 186 21 [x0, some (.int u)] (.int u :: st) cu σ Q) := by
  rw [x186_20]
  rfl
theorem v186_24 {z : P0} {cu : Nat × Nat} {Q : Res → Mem → Prop} {σ : Mem} {x0 x1 : Option Value} {v : Int32} : X z 186 24 [x0, x1] ([.int v]) cu σ Q = (narrow .char (.int v) = .int v ∧ Q (.inl (some (.int v))) σ) := by
  rw [x186_24]
  rfl
theorem v187_0 {z : P0} {st : List Value} {cu : Nat × Nat} {Q : Res → Mem → Prop} {σ : Mem} {x0 : Option Value} : X z 187 0 [x0] (st) cu σ Q = (X z 187 3 [x0] (.int 1 :: st) cu σ Q) := by
  rw [x187_0]
  rfl
theorem v187_3 {z : P0} {st : List Value} {cu : Nat × Nat} {Q : Res → Mem → Prop} {σ : Mem} {x0 : Option Value} {u : Int32} : X z 187 3 [x0] (.int u :: st) cu σ Q = (if u = nI 0 then X z 187 13 [x0] (st) cu σ Q else X z 187 6 [x0] (st) cu σ Q) := by
  rw [x187_3]
  rw [nI_0]
  obtain ⟨K, I, R, L, sz, ex⟩ := σ
  exact br_ite
theorem v187_6 {z : P0} {st : List Value} {cu : Nat × Nat} {Q : Res → Mem → Prop} {σ : Mem} {u : Nat} : X z 187 6 [some (.ref u)] (st) cu σ Q = (X z 187 7 [some (.ref u)] (.ref u :: st) cu σ Q) := by
  rw [x187_6]
  rfl
theorem v187_7 {z : P0} {st : List Value} {cu : Nat × Nat} {Q : Res → Mem → Prop} {K : Nat → Nat × Nat} {I : Nat → Nat → Int32} {R : Nat → Nat → Option Nat} {L : Nat → Nat → Int64} {sz : Nat} {ex : Bool} {x0 : Option Value} {u : Nat} : X z 187 7 [x0] (.ref u :: st) cu (K, I, R, L, sz, ex) Q = ((K u).1 = 52 ∧ X z 187 10 [x0] (.int (I u 0) :: st) cu (K, I, R, L, sz, ex) Q) := by
  rw [x187_7]
  rfl
theorem v187_10 {z : P0} {st : List Value} {cu : Nat × Nat} {Q : Res → Mem → Prop} {σ : Mem} {x0 : Option Value} : X z 187 10 [x0] (st) cu σ Q = (X z 187 14 [x0] (st) cu σ Q) := by
  rw [x187_10]
  rfl
theorem v187_13 {z : P0} {st : List Value} {cu : Nat × Nat} {Q : Res → Mem → Prop} {σ : Mem} {x0 : Option Value} : X z 187 13 [x0] (st) cu σ Q = (X z 187 14 [x0] (.int (nI 1) :: st) cu σ Q) := by
  rw [x187_13]
  rfl
theorem v187_14 {z : P0} {cu : Nat × Nat} {Q : Res → Mem → Prop} {σ : Mem} {x0 : Option Value} {v : Int32} : X z 187 14 [x0] ([.int v]) cu σ Q = (narrow .byte (.int v) = .int v ∧ Q (.inl (some (.int v))) σ) := by
  rw [x187_14]
  rfl
theorem v188_0 {z : P0} {st : List Value} {cu : Nat × Nat} {Q : Res → Mem → Prop} {σ : Mem} {x0 : Option Value} : X z 188 0 [x0] (st) cu σ Q = (X z 188 3 [x0] (.int 1 :: st) cu σ Q) := by
  rw [x188_0]
  rfl
theorem v188_3 {z : P0} {st : List Value} {cu : Nat × Nat} {Q : Res → Mem → Prop} {σ : Mem} {x0 : Option Value} {u : Int32} : X z 188 3 [x0] (.int u :: st) cu σ Q = (if u = nI 0 then X z 188 17 [x0] (st) cu σ Q else X z 188 6 [x0] (st) cu σ Q) := by
  rw [x188_3]
  rw [nI_0]
  obtain ⟨K, I, R, L, sz, ex⟩ := σ
  exact br_ite
theorem v188_6 {z : P0} {st : List Value} {cu : Nat × Nat} {Q : Res → Mem → Prop} {σ : Mem} {u : Nat} : X z 188 6 [some (.ref u)] (st) cu σ Q = (X z 188 7 [some (.ref u)] (.ref u :: st) cu σ Q) := by
  rw [x188_6]
  rfl
theorem v188_7 {z : P0} {st : List Value} {cu : Nat × Nat} {Q : Res → Mem → Prop} {K : Nat → Nat × Nat} {I : Nat → Nat → Int32} {R : Nat → Nat → Option Nat} {L : Nat → Nat → Int64} {sz : Nat} {ex : Bool} {x0 : Option Value} {u : Nat} : X z 188 7 [x0] (.ref u :: st) cu (K, I, R, L, sz, ex) Q = ((K u).1 = 52 ∧ X z 188 10 [x0] (.int (I u 0) :: st) cu (K, I, R, L, sz, ex) Q) := by
  rw [x188_7]
  rfl
theorem v188_10 {z : P0} {st : List Value} {cu : Nat × Nat} {Q : Res → Mem → Prop} {σ : Mem} {x0 : Option Value} {u : Int32} : X z 188 10 [x0] (.int u :: st) cu σ Q = (if u = nI 0 then X z 188 13 [x0] (st) cu σ Q else X z 188 17 [x0] (st) cu σ Q) := by
  rw [x188_10]
  rw [nI_0]
  obtain ⟨K, I, R, L, sz, ex⟩ := σ
  exact br_ne
theorem v188_13 {z : P0} {st : List Value} {cu : Nat × Nat} {Q : Res → Mem → Prop} {σ : Mem} {x0 : Option Value} : X z 188 13 [x0] (st) cu σ Q = (X z 188 14 [x0] (.int (nI 1) :: st) cu σ Q) := by
  rw [x188_13]
  rfl
theorem v188_14 {z : P0} {st : List Value} {cu : Nat × Nat} {Q : Res → Mem → Prop} {σ : Mem} {x0 : Option Value} : X z 188 14 [x0] (st) cu σ Q = (X z 188 18 [x0] (st) cu σ Q) := by
  rw [x188_14]
  rfl
theorem v188_17 {z : P0} {st : List Value} {cu : Nat × Nat} {Q : Res → Mem → Prop} {σ : Mem} {x0 : Option Value} : X z 188 17 [x0] (st) cu σ Q = (X z 188 18 [x0] (.int (nI 0) :: st) cu σ Q) := by
  rw [x188_17]
  rfl
theorem v188_18 {z : P0} {cu : Nat × Nat} {Q : Res → Mem → Prop} {σ : Mem} {x0 : Option Value} {v : Int32} : X z 188 18 [x0] ([.int v]) cu σ Q = ((v = nI 0 ∨ v = nI 1) ∧ Q (.inl (some (.int v))) σ) := by
  rw [x188_18]
  rw [nI_0, one1]
  rfl
theorem v189_0 {z : P0} {st : List Value} {cu : Nat × Nat} {Q : Res → Mem → Prop} {σ : Mem} {x1 : Option Value} {u : Int32} : X z 189 0 [some (.int u), x1] (st) cu σ Q = (X z 189 1 [some (.int u), x1] (.int u :: st) cu σ Q) := by
  rw [x189_0]
  rfl
theorem v189_1 {z : P0} {st : List Value} {cu : Nat × Nat} {Q : Res → Mem → Prop} {σ : Mem} {x0 : Option Value} {u : Int32} : X z 189 1 [x0, some (.int u)] (st) cu σ Q = (X z 189 2 [x0, some (.int u)] (.int u :: st) cu σ Q) := by
  rw [x189_1]
  rfl
theorem v189_2 {z : P0} {st : List Value} {cu : Nat × Nat} {Q : Res → Mem → Prop} {σ : Mem} {x0 x1 : Option Value} : X z 189 2 [x0, x1] (st) cu σ Q = (X z 189 5 [x0, x1] (z.2 :: st) cu σ Q) := by
  rw [x189_2]
  rfl
theorem v189_8 {z : P0} {st : List Value} {cu : Nat × Nat} {Q : Res → Mem → Prop} {σ : Mem} {x0 x1 : Option Value} {u : Int32} : X z 189 8 [x0, x1] (.int u :: st) cu σ Q = (X z 189 9 [x0, x1] (st) cu σ Q) := by
  rw [x189_8]
  exact propext ⟨fun h => h.2, fun h => ⟨rfl, h⟩⟩
theorem v189_9 {z : P0} {cu : Nat × Nat} {Q : Res → Mem → Prop} {σ : Mem} {x0 x1 : Option Value} : X z 189 9 [x0, x1] ([]) cu σ Q = (Q (.inl none) σ) := by
  rw [x189_9]
  rfl
theorem v190_0 {z : P0} {st : List Value} {cu : Nat × Nat} {Q : Res → Mem → Prop} {σ : Mem} {x0 : Option Value} {u : Int32} : X z 190 0 [x0, some (.int u)] (st) cu σ Q = (X z 190 1 [x0, some (.int u)] (.int u :: st) cu σ Q) := by
  rw [x190_0]
  rfl
theorem v190_1 {z : P0} {st : List Value} {cu : Nat × Nat} {Q : Res → Mem → Prop} {σ : Mem} {x1 : Option Value} {u : Nat} : X z 190 1 [some (.ref u), x1] (st) cu σ Q = (X z 190 2 [some (.ref u), x1] (.ref u :: st) cu σ Q) := by
  rw [x190_1]
  rfl
theorem v190_2 {z : P0} {st : List Value} {cu : Nat × Nat} {Q : Res → Mem → Prop} {K : Nat → Nat × Nat} {I : Nat → Nat → Int32} {R : Nat → Nat → Option Nat} {L : Nat → Nat → Int64} {sz : Nat} {ex : Bool} {x0 x1 : Option Value} {u : Nat} : X z 190 2 [x0, x1] (.ref u :: st) cu (K, I, R, L, sz, ex) Q = (isArr (K u).1 = true ∧ X z 190 3 [x0, x1] (.int (nI (K u).2) :: st) cu (K, I, R, L, sz, ex) Q) := by
  rw [x190_2]
  rfl
theorem u190_3 {z : P0} {ls : Lcs} {st : List Value} {K : Nat → Nat × Nat} {I : Nat → Nat → Int32} {R : Nat → Nat → Option Nat} {L : Nat → Nat → Int64} {sz : Nat} {ex : Bool} {Q : Res → Mem → Prop} {a0 : Int32} {a1 : Int32} : X z 190 3 ls (.int a1 :: .int a0 :: st) (0, 0) (K, I, R, L, sz, ex) Q = (wsum st ≤ 8 ∧ X z 189 0 [some (.int a0), some (.int a1)] [] (0, 0) (K, I, R, L, sz, ex) (aftr (X z) mT 190 3 ls st (0, 0) Q)) := v190_3 (c := 0) (n := 0)
theorem v190_6 {z : P0} {st : List Value} {cu : Nat × Nat} {Q : Res → Mem → Prop} {σ : Mem} {x1 : Option Value} {u : Nat} : X z 190 6 [some (.ref u), x1] (st) cu σ Q = (X z 190 7 [some (.ref u), x1] (.ref u :: st) cu σ Q) := by
  rw [x190_6]
  rfl
theorem v190_7 {z : P0} {st : List Value} {cu : Nat × Nat} {Q : Res → Mem → Prop} {σ : Mem} {x0 : Option Value} {u : Int32} : X z 190 7 [x0, some (.int u)] (st) cu σ Q = (X z 190 8 [x0, some (.int u)] (.int u :: st) cu σ Q) := by
  rw [x190_7]
  rfl
theorem v190_8 {z : P0} {st : List Value} {cu : Nat × Nat} {Q : Res → Mem → Prop} {K : Nat → Nat × Nat} {I : Nat → Nat → Int32} {R : Nat → Nat → Option Nat} {L : Nat → Nat → Int64} {sz : Nat} {ex : Bool} {x0 x1 : Option Value} {u : Nat} {v : Int32} : X z 190 8 [x0, x1] (.int v :: .ref u :: st) cu (K, I, R, L, sz, ex) Q = ((K u).1 = 51 ∧ vp_in v (K u).2 ∧ X z 190 9 [x0, x1] (.int (I u v.toNatClampNeg) :: st) cu (K, I, R, L, sz, ex) Q) := by
  rw [x190_8]
  rfl
theorem v190_9 {z : P0} {st : List Value} {cu : Nat × Nat} {Q : Res → Mem → Prop} {σ : Mem} {x0 x1 : Option Value} : X z 190 9 [x0, x1] (st) cu σ Q = (X z 190 12 [x0, x1] (.int (nI 255) :: st) cu σ Q) := by
  rw [x190_9]
  rfl
theorem v190_12 {z : P0} {st : List Value} {cu : Nat × Nat} {Q : Res → Mem → Prop} {σ : Mem} {x0 x1 : Option Value} {u v : Int32} : X z 190 12 [x0, x1] (.int v :: .int u :: st) cu σ Q = (X z 190 13 [x0, x1] (.int (u &&& v) :: st) cu σ Q) := by
  rw [x190_12]
  rfl
theorem v190_13 {z : P0} {st : List Value} {cu : Nat × Nat} {Q : Res → Mem → Prop} {σ : Mem} {x0 x1 : Option Value} {u : Int32} : X z 190 13 [x0, x1] (.int u :: st) cu σ Q = (X z 190 14 [x0, x1] (.int (u.toUInt32 % 65536).toInt32 :: st) cu σ Q) := by
  rw [x190_13]
  rfl
theorem v190_14 {z : P0} {cu : Nat × Nat} {Q : Res → Mem → Prop} {σ : Mem} {x0 x1 : Option Value} {v : Int32} : X z 190 14 [x0, x1] ([.int v]) cu σ Q = (narrow .char (.int v) = .int v ∧ Q (.inl (some (.int v))) σ) := by
  rw [x190_14]
  rfl
theorem v191_0 {z : P0} {st : List Value} {cu : Nat × Nat} {Q : Res → Mem → Prop} {σ : Mem} {x1 x2 : Option Value} {u : Int32} : X z 191 0 [some (.int u), x1, x2] (st) cu σ Q = (X z 191 1 [some (.int u), x1, x2] (.int u :: st) cu σ Q) := by
  rw [x191_0]
  rfl
theorem v191_1 {z : P0} {st : List Value} {cu : Nat × Nat} {Q : Res → Mem → Prop} {σ : Mem} {x0 x1 x2 : Option Value} {u : Int32} : X z 191 1 [x0, x1, x2] (.int u :: st) cu σ Q = (if u < nI 0 then X z 191 9 [x0, x1, x2] (st) cu σ Q else X z 191 4 [x0, x1, x2] (st) cu σ Q) := by
  rw [x191_1]
  rw [nI_0]
  obtain ⟨K, I, R, L, sz, ex⟩ := σ
  exact br_ite
theorem v191_4 {z : P0} {st : List Value} {cu : Nat × Nat} {Q : Res → Mem → Prop} {σ : Mem} {x1 x2 : Option Value} {u : Int32} : X z 191 4 [some (.int u), x1, x2] (st) cu σ Q = (X z 191 5 [some (.int u), x1, x2] (.int u :: st) cu σ Q) := by
  rw [x191_4]
  rfl
theorem v191_5 {z : P0} {st : List Value} {cu : Nat × Nat} {Q : Res → Mem → Prop} {σ : Mem} {x0 x2 : Option Value} {u : Int32} : X z 191 5 [x0, some (.int u), x2] (st) cu σ Q = (X z 191 6 [x0, some (.int u), x2] (.int u :: st) cu σ Q) := by
  rw [x191_5]
  rfl
theorem v191_6 {z : P0} {st : List Value} {cu : Nat × Nat} {Q : Res → Mem → Prop} {σ : Mem} {x0 x1 x2 : Option Value} {u v : Int32} : X z 191 6 [x0, x1, x2] (.int v :: .int u :: st) cu σ Q = (if u < v then X z 191 16 [x0, x1, x2] (st) cu σ Q else X z 191 9 [x0, x1, x2] (st) cu σ Q) := by
  rw [x191_6]
  obtain ⟨K, I, R, L, sz, ex⟩ := σ
  exact br_ite
theorem v191_9 {z : P0} {st : List Value} {cu : Nat × Nat} {Q : Res → Mem → Prop} {σ : Mem} {x0 x1 : Option Value} {u : Nat} : X z 191 9 [x0, x1, some (.ref u)] (st) cu σ Q = (X z 191 10 [x0, x1, some (.ref u)] (.ref u :: st) cu σ Q) := by
  rw [x191_9]
  rfl
theorem v191_10 {z : P0} {st : List Value} {cu : Nat × Nat} {Q : Res → Mem → Prop} {σ : Mem} {x1 x2 : Option Value} {u : Int32} : X z 191 10 [some (.int u), x1, x2] (st) cu σ Q = (X z 191 11 [some (.int u), x1, x2] (.int u :: st) cu σ Q) := by
  rw [x191_10]
  rfl
theorem v191_11 {z : P0} {st : List Value} {cu : Nat × Nat} {Q : Res → Mem → Prop} {σ : Mem} {x0 x2 : Option Value} {u : Int32} : X z 191 11 [x0, some (.int u), x2] (st) cu σ Q = (X z 191 12 [x0, some (.int u), x2] (.int u :: st) cu σ Q) := by
  rw [x191_11]
  rfl
theorem v191_16 {z : P0} {st : List Value} {cu : Nat × Nat} {Q : Res → Mem → Prop} {σ : Mem} {x1 x2 : Option Value} {u : Int32} : X z 191 16 [some (.int u), x1, x2] (st) cu σ Q = (X z 191 17 [some (.int u), x1, x2] (.int u :: st) cu σ Q) := by
  rw [x191_16]
  rfl
theorem v191_17 {z : P0} {cu : Nat × Nat} {Q : Res → Mem → Prop} {σ : Mem} {x0 x1 x2 : Option Value} {v : Int32} : X z 191 17 [x0, x1, x2] ([.int v]) cu σ Q = (Q (.inl (some (.int v))) σ) := by
  rw [x191_17]
  exact propext ⟨fun h => h.2, fun h => ⟨trivial, h⟩⟩
