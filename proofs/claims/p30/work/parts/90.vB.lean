theorem v57_0 {z : P0} {st : List Value} {cu : Nat × Nat} {Q : Res → Mem → Prop} {σ : Mem} {x1 x2 : Option Value} {u : Nat} : X z 57 0 [some (.ref u), x1, x2] (st) cu σ Q = (X z 57 1 [some (.ref u), x1, x2] (.ref u :: st) cu σ Q) := by
  rw [x57_0]
  rfl
theorem v57_1 {z : P0} {st : List Value} {cu : Nat × Nat} {Q : Res → Mem → Prop} {σ : Mem} {x0 x1 x2 : Option Value} {u : Nat} : X z 57 1 [x0, x1, x2] (.ref u :: st) cu σ Q = (wsum st ≤ 8 ∧ X z 57 4 [x0, x1, x2] (st) cu σ Q) := by
  rw [x57_1]
  exact propext ⟨fun h => h.2, fun h => ⟨rfl, h⟩⟩
theorem v57_4 {z : P0} {st : List Value} {cu : Nat × Nat} {Q : Res → Mem → Prop} {σ : Mem} {x1 x2 : Option Value} {u : Nat} : X z 57 4 [some (.ref u), x1, x2] (st) cu σ Q = (X z 57 5 [some (.ref u), x1, x2] (.ref u :: st) cu σ Q) := by
  rw [x57_4]
  rfl
theorem v57_5 {z : P0} {st : List Value} {Q : Res → Mem → Prop} {K : Nat → Nat × Nat} {I : Nat → Nat → Int32} {R : Nat → Nat → Option Nat} {L : Nat → Nat → Int64} {sz : Nat} {ex : Bool} {x0 x1 x2 : Option Value} {c n : Nat} : X z 57 5 [x0, x1, x2] (st) (c, n) (K, I, R, L, sz, ex) Q = (ex = true ∧ (c + 1 ≤ 565 ∧ n + 10 ≤ 6546) ∧ X z 57 8 [x0, x1, x2] (.ref sz :: st) (c + 1, n + 10) (upK K sz (108, 0), I, R, L, sz + 1, ex) Q) := by
  rw [x57_5]
  rfl
theorem v57_8 {z : P0} {st : List Value} {cu : Nat × Nat} {Q : Res → Mem → Prop} {σ : Mem} {x0 x1 x2 : Option Value} {u : Nat} : X z 57 8 [x0, x1, x2] (.ref u :: st) cu σ Q = (X z 57 9 [x0, x1, x2] (.ref u :: .ref u :: st) cu σ Q) := by
  rw [x57_8]
  exact propext ⟨fun h => h.2, fun h => ⟨rfl, h⟩⟩
theorem v57_8i {z : P0} {st : List Value} {cu : Nat × Nat} {Q : Res → Mem → Prop} {σ : Mem} {x0 x1 x2 : Option Value} {u : Int32} : X z 57 8 [x0, x1, x2] (.int u :: st) cu σ Q = (X z 57 9 [x0, x1, x2] (.int u :: .int u :: st) cu σ Q) := by
  rw [x57_8]
  exact propext ⟨fun h => h.2, fun h => ⟨rfl, h⟩⟩
theorem u57_9 {z : P0} {ls : Lcs} {st : List Value} {c n : Nat} {K : Nat → Nat × Nat} {I : Nat → Nat → Int32} {R : Nat → Nat → Option Nat} {L : Nat → Nat → Int64} {sz : Nat} {ex : Bool} {Q : Res → Mem → Prop} {x : Nat} : X z 57 9 ls (.ref x :: st) (c, n) (K, I, R, L, sz, ex) Q = ((K x).1 = 108 ∧ wsum st ≤ 8 ∧ c + 65 ≤ 565 ∧ n + 528 ≤ 6546 ∧ X z 47 0 [some (.ref x), none] [] (0, 0) (K, I, R, L, sz, ex) (aftr (X z) mT 57 9 ls st (c + 65, n + 528) Q)) := v57_9
theorem v57_12 {z : P0} {st : List Value} {cu : Nat × Nat} {Q : Res → Mem → Prop} {K : Nat → Nat × Nat} {I : Nat → Nat → Int32} {R : Nat → Nat → Option Nat} {L : Nat → Nat → Int64} {sz : Nat} {ex : Bool} {x0 x1 x2 : Option Value} {u v : Nat} : X z 57 12 [x0, x1, x2] (.ref v :: .ref u :: st) cu (K, I, R, L, sz, ex) Q = ((K u).1 = 110 ∧ X z 57 15 [x0, x1, x2] (st) cu (K, I, up2 R u 0 (some v), L, sz, ex) Q) := by
  rw [x57_12]
  exact i_putA
theorem v57_15 {z : P0} {st : List Value} {cu : Nat × Nat} {Q : Res → Mem → Prop} {σ : Mem} {x1 x2 : Option Value} {u : Nat} : X z 57 15 [some (.ref u), x1, x2] (st) cu σ Q = (X z 57 16 [some (.ref u), x1, x2] (.ref u :: st) cu σ Q) := by
  rw [x57_15]
  rfl
theorem v57_16 {z : P0} {st : List Value} {Q : Res → Mem → Prop} {K : Nat → Nat × Nat} {I : Nat → Nat → Int32} {R : Nat → Nat → Option Nat} {L : Nat → Nat → Int64} {sz : Nat} {ex : Bool} {x0 x1 x2 : Option Value} {c n : Nat} : X z 57 16 [x0, x1, x2] (st) (c, n) (K, I, R, L, sz, ex) Q = (ex = true ∧ (c + 1 ≤ 565 ∧ n + 2 ≤ 6546) ∧ X z 57 19 [x0, x1, x2] (.ref sz :: st) (c + 1, n + 2) (upK K sz (103, 0), I, R, L, sz + 1, ex) Q) := by
  rw [x57_16]
  rfl
theorem v57_19 {z : P0} {st : List Value} {cu : Nat × Nat} {Q : Res → Mem → Prop} {σ : Mem} {x0 x1 x2 : Option Value} {u : Nat} : X z 57 19 [x0, x1, x2] (.ref u :: st) cu σ Q = (X z 57 20 [x0, x1, x2] (.ref u :: .ref u :: st) cu σ Q) := by
  rw [x57_19]
  exact propext ⟨fun h => h.2, fun h => ⟨rfl, h⟩⟩
theorem v57_19i {z : P0} {st : List Value} {cu : Nat × Nat} {Q : Res → Mem → Prop} {σ : Mem} {x0 x1 x2 : Option Value} {u : Int32} : X z 57 19 [x0, x1, x2] (.int u :: st) cu σ Q = (X z 57 20 [x0, x1, x2] (.int u :: .int u :: st) cu σ Q) := by
  rw [x57_19]
  exact propext ⟨fun h => h.2, fun h => ⟨rfl, h⟩⟩
theorem u57_20 {z : P0} {ls : Lcs} {st : List Value} {c n : Nat} {K : Nat → Nat × Nat} {I : Nat → Nat → Int32} {R : Nat → Nat → Option Nat} {L : Nat → Nat → Int64} {sz : Nat} {ex : Bool} {Q : Res → Mem → Prop} {x : Nat} : X z 57 20 ls (.ref x :: st) (c, n) (K, I, R, L, sz, ex) Q = ((K x).1 = 103 ∧ wsum st ≤ 8 ∧ c + 397 ≤ 565 ∧ n + 3234 ≤ 6546 ∧ X z 23 0 [some (.ref x), none] [] (0, 0) (K, I, R, L, sz, ex) (aftr (X z) mT 57 20 ls st (c + 397, n + 3234) Q)) := v57_20
theorem v57_23 {z : P0} {st : List Value} {cu : Nat × Nat} {Q : Res → Mem → Prop} {K : Nat → Nat × Nat} {I : Nat → Nat → Int32} {R : Nat → Nat → Option Nat} {L : Nat → Nat → Int64} {sz : Nat} {ex : Bool} {x0 x1 x2 : Option Value} {u v : Nat} : X z 57 23 [x0, x1, x2] (.ref v :: .ref u :: st) cu (K, I, R, L, sz, ex) Q = ((K u).1 = 110 ∧ X z 57 26 [x0, x1, x2] (st) cu (K, I, up2 R u 1 (some v), L, sz, ex) Q) := by
  rw [x57_23]
  exact i_putA
theorem v57_26 {z : P0} {st : List Value} {cu : Nat × Nat} {Q : Res → Mem → Prop} {σ : Mem} {x1 x2 : Option Value} {u : Nat} : X z 57 26 [some (.ref u), x1, x2] (st) cu σ Q = (X z 57 27 [some (.ref u), x1, x2] (.ref u :: st) cu σ Q) := by
  rw [x57_26]
  rfl
theorem v57_27 {z : P0} {st : List Value} {Q : Res → Mem → Prop} {K : Nat → Nat × Nat} {I : Nat → Nat → Int32} {R : Nat → Nat → Option Nat} {L : Nat → Nat → Int64} {sz : Nat} {ex : Bool} {x0 x1 x2 : Option Value} {c n : Nat} : X z 57 27 [x0, x1, x2] (st) (c, n) (K, I, R, L, sz, ex) Q = (ex = true ∧ (c + 1 ≤ 565 ∧ n + 2 ≤ 6546) ∧ X z 57 30 [x0, x1, x2] (.ref sz :: st) (c + 1, n + 2) (upK K sz (100, 0), I, R, L, sz + 1, ex) Q) := by
  rw [x57_27]
  rfl
theorem v57_30 {z : P0} {st : List Value} {cu : Nat × Nat} {Q : Res → Mem → Prop} {σ : Mem} {x0 x1 x2 : Option Value} {u : Nat} : X z 57 30 [x0, x1, x2] (.ref u :: st) cu σ Q = (X z 57 31 [x0, x1, x2] (.ref u :: .ref u :: st) cu σ Q) := by
  rw [x57_30]
  exact propext ⟨fun h => h.2, fun h => ⟨rfl, h⟩⟩
theorem v57_30i {z : P0} {st : List Value} {cu : Nat × Nat} {Q : Res → Mem → Prop} {σ : Mem} {x0 x1 x2 : Option Value} {u : Int32} : X z 57 30 [x0, x1, x2] (.int u :: st) cu σ Q = (X z 57 31 [x0, x1, x2] (.int u :: .int u :: st) cu σ Q) := by
  rw [x57_30]
  exact propext ⟨fun h => h.2, fun h => ⟨rfl, h⟩⟩
theorem u57_31 {z : P0} {ls : Lcs} {st : List Value} {c n : Nat} {K : Nat → Nat × Nat} {I : Nat → Nat → Int32} {R : Nat → Nat → Option Nat} {L : Nat → Nat → Int64} {sz : Nat} {ex : Bool} {Q : Res → Mem → Prop} {x : Nat} : X z 57 31 ls (.ref x :: st) (c, n) (K, I, R, L, sz, ex) Q = ((K x).1 = 100 ∧ wsum st ≤ 8 ∧ c + 1 ≤ 565 ∧ n + 60 ≤ 6546 ∧ X z 0 0 [some (.ref x)] [] (0, 0) (K, I, R, L, sz, ex) (aftr (X z) mT 57 31 ls st (c + 1, n + 60) Q)) := v57_31
theorem v57_34 {z : P0} {st : List Value} {cu : Nat × Nat} {Q : Res → Mem → Prop} {K : Nat → Nat × Nat} {I : Nat → Nat → Int32} {R : Nat → Nat → Option Nat} {L : Nat → Nat → Int64} {sz : Nat} {ex : Bool} {x0 x1 x2 : Option Value} {u v : Nat} : X z 57 34 [x0, x1, x2] (.ref v :: .ref u :: st) cu (K, I, R, L, sz, ex) Q = ((K u).1 = 110 ∧ X z 57 37 [x0, x1, x2] (st) cu (K, I, up2 R u 2 (some v), L, sz, ex) Q) := by
  rw [x57_34]
  exact i_putA
theorem v57_37 {z : P0} {st : List Value} {Q : Res → Mem → Prop} {K : Nat → Nat × Nat} {I : Nat → Nat → Int32} {R : Nat → Nat → Option Nat} {L : Nat → Nat → Int64} {sz : Nat} {ex : Bool} {x0 x1 x2 : Option Value} {c n : Nat} : X z 57 37 [x0, x1, x2] (st) (c, n) (K, I, R, L, sz, ex) Q = (ex = true ∧ (c + 1 ≤ 565 ∧ n + 3 ≤ 6546) ∧ X z 57 40 [x0, x1, x2] (.ref sz :: st) (c + 1, n + 3) (upK K sz (101, 0), I, R, L, sz + 1, ex) Q) := by
  rw [x57_37]
  rfl
theorem v57_40 {z : P0} {st : List Value} {cu : Nat × Nat} {Q : Res → Mem → Prop} {σ : Mem} {x0 x1 x2 : Option Value} {u : Nat} : X z 57 40 [x0, x1, x2] (.ref u :: st) cu σ Q = (X z 57 41 [x0, x1, x2] (.ref u :: .ref u :: st) cu σ Q) := by
  rw [x57_40]
  exact propext ⟨fun h => h.2, fun h => ⟨rfl, h⟩⟩
theorem v57_40i {z : P0} {st : List Value} {cu : Nat × Nat} {Q : Res → Mem → Prop} {σ : Mem} {x0 x1 x2 : Option Value} {u : Int32} : X z 57 40 [x0, x1, x2] (.int u :: st) cu σ Q = (X z 57 41 [x0, x1, x2] (.int u :: .int u :: st) cu σ Q) := by
  rw [x57_40]
  exact propext ⟨fun h => h.2, fun h => ⟨rfl, h⟩⟩
theorem u57_41 {z : P0} {ls : Lcs} {st : List Value} {c n : Nat} {K : Nat → Nat × Nat} {I : Nat → Nat → Int32} {R : Nat → Nat → Option Nat} {L : Nat → Nat → Int64} {sz : Nat} {ex : Bool} {Q : Res → Mem → Prop} {x : Nat} : X z 57 41 ls (.ref x :: st) (c, n) (K, I, R, L, sz, ex) Q = ((K x).1 = 101 ∧ wsum st ≤ 8 ∧ c + 2 ≤ 565 ∧ n + 1666 ≤ 6546 ∧ X z 9 0 [some (.ref x)] [] (0, 0) (K, I, R, L, sz, ex) (aftr (X z) mT 57 41 ls st (c + 2, n + 1666) Q)) := v57_41
theorem v57_44 {z : P0} {st : List Value} {cu : Nat × Nat} {Q : Res → Mem → Prop} {σ : Mem} {x0 x1 x2 : Option Value} {u : Nat} : X z 57 44 [x0, x1, x2] (.ref u :: st) cu σ Q = (cat2 x0 = false ∧ X z 57 45 [x0, some (.ref u), x2] (st) cu σ Q) := by
  rw [x57_44]
  obtain ⟨K, I, R, L, sz, ex⟩ := σ
  exact i_astore_n.trans sl_1
theorem v57_45 {z : P0} {st : List Value} {Q : Res → Mem → Prop} {K : Nat → Nat × Nat} {I : Nat → Nat → Int32} {R : Nat → Nat → Option Nat} {L : Nat → Nat → Int64} {sz : Nat} {ex : Bool} {x0 x1 x2 : Option Value} {c n : Nat} : X z 57 45 [x0, x1, x2] (st) (c, n) (K, I, R, L, sz, ex) Q = (ex = true ∧ (c + 1 ≤ 565 ∧ n + 5 ≤ 6546) ∧ X z 57 48 [x0, x1, x2] (.ref sz :: st) (c + 1, n + 5) (upK K sz (105, 0), I, R, L, sz + 1, ex) Q) := by
  rw [x57_45]
  rfl
theorem v57_48 {z : P0} {st : List Value} {cu : Nat × Nat} {Q : Res → Mem → Prop} {σ : Mem} {x0 x1 x2 : Option Value} {u : Nat} : X z 57 48 [x0, x1, x2] (.ref u :: st) cu σ Q = (X z 57 49 [x0, x1, x2] (.ref u :: .ref u :: st) cu σ Q) := by
  rw [x57_48]
  exact propext ⟨fun h => h.2, fun h => ⟨rfl, h⟩⟩
theorem v57_48i {z : P0} {st : List Value} {cu : Nat × Nat} {Q : Res → Mem → Prop} {σ : Mem} {x0 x1 x2 : Option Value} {u : Int32} : X z 57 48 [x0, x1, x2] (.int u :: st) cu σ Q = (X z 57 49 [x0, x1, x2] (.int u :: .int u :: st) cu σ Q) := by
  rw [x57_48]
  exact propext ⟨fun h => h.2, fun h => ⟨rfl, h⟩⟩
theorem u57_49 {z : P0} {ls : Lcs} {st : List Value} {c n : Nat} {K : Nat → Nat × Nat} {I : Nat → Nat → Int32} {R : Nat → Nat → Option Nat} {L : Nat → Nat → Int64} {sz : Nat} {ex : Bool} {Q : Res → Mem → Prop} {x : Nat} : X z 57 49 ls (.ref x :: st) (c, n) (K, I, R, L, sz, ex) Q = ((K x).1 = 105 ∧ wsum st ≤ 8 ∧ c + 2 ≤ 565 ∧ n + 242 ≤ 6546 ∧ X z 32 0 [some (.ref x)] [] (0, 0) (K, I, R, L, sz, ex) (aftr (X z) mT 57 49 ls st (c + 2, n + 242) Q)) := v57_49
theorem v57_52 {z : P0} {st : List Value} {cu : Nat × Nat} {Q : Res → Mem → Prop} {σ : Mem} {x0 x1 x2 : Option Value} {u : Nat} : X z 57 52 [x0, x1, x2] (.ref u :: st) cu σ Q = (cat2 x1 = false ∧ X z 57 53 [x0, x1, some (.ref u)] (st) cu σ Q) := by
  rw [x57_52]
  obtain ⟨K, I, R, L, sz, ex⟩ := σ
  exact i_astore_n.trans sl_2
theorem v57_53 {z : P0} {st : List Value} {cu : Nat × Nat} {Q : Res → Mem → Prop} {σ : Mem} {x1 x2 : Option Value} {u : Nat} : X z 57 53 [some (.ref u), x1, x2] (st) cu σ Q = (X z 57 54 [some (.ref u), x1, x2] (.ref u :: st) cu σ Q) := by
  rw [x57_53]
  rfl
theorem v57_54 {z : P0} {st : List Value} {Q : Res → Mem → Prop} {K : Nat → Nat × Nat} {I : Nat → Nat → Int32} {R : Nat → Nat → Option Nat} {L : Nat → Nat → Int64} {sz : Nat} {ex : Bool} {x0 x1 x2 : Option Value} {c n : Nat} : X z 57 54 [x0, x1, x2] (st) (c, n) (K, I, R, L, sz, ex) Q = (ex = true ∧ (c + 1 ≤ 565 ∧ n + 12 ≤ 6546) ∧ X z 57 57 [x0, x1, x2] (.ref sz :: st) (c + 1, n + 12) (upK K sz (106, 0), I, R, L, sz + 1, ex) Q) := by
  rw [x57_54]
  rfl
theorem v57_57 {z : P0} {st : List Value} {cu : Nat × Nat} {Q : Res → Mem → Prop} {σ : Mem} {x0 x1 x2 : Option Value} {u : Nat} : X z 57 57 [x0, x1, x2] (.ref u :: st) cu σ Q = (X z 57 58 [x0, x1, x2] (.ref u :: .ref u :: st) cu σ Q) := by
  rw [x57_57]
  exact propext ⟨fun h => h.2, fun h => ⟨rfl, h⟩⟩
theorem v57_57i {z : P0} {st : List Value} {cu : Nat × Nat} {Q : Res → Mem → Prop} {σ : Mem} {x0 x1 x2 : Option Value} {u : Int32} : X z 57 57 [x0, x1, x2] (.int u :: st) cu σ Q = (X z 57 58 [x0, x1, x2] (.int u :: .int u :: st) cu σ Q) := by
  rw [x57_57]
  exact propext ⟨fun h => h.2, fun h => ⟨rfl, h⟩⟩
theorem v57_58 {z : P0} {st : List Value} {cu : Nat × Nat} {Q : Res → Mem → Prop} {σ : Mem} {x0 x2 : Option Value} {u : Nat} : X z 57 58 [x0, some (.ref u), x2] (st) cu σ Q = (X z 57 59 [x0, some (.ref u), x2] (.ref u :: st) cu σ Q) := by
  rw [x57_58]
  rfl
theorem v57_59 {z : P0} {st : List Value} {cu : Nat × Nat} {Q : Res → Mem → Prop} {σ : Mem} {x0 x1 : Option Value} {u : Nat} : X z 57 59 [x0, x1, some (.ref u)] (st) cu σ Q = (X z 57 60 [x0, x1, some (.ref u)] (.ref u :: st) cu σ Q) := by
  rw [x57_59]
  rfl
theorem u57_60 {z : P0} {ls : Lcs} {st : List Value} {c n : Nat} {K : Nat → Nat × Nat} {I : Nat → Nat → Int32} {R : Nat → Nat → Option Nat} {L : Nat → Nat → Int64} {sz : Nat} {ex : Bool} {Q : Res → Mem → Prop} {x : Nat} {a0 : Nat} {a1 : Nat} : X z 57 60 ls (.ref a1 :: .ref a0 :: .ref x :: st) (c, n) (K, I, R, L, sz, ex) Q = ((K x).1 = 106 ∧ wsum st ≤ 8 ∧ c + 45 ≤ 565 ∧ n + 382 ≤ 6546 ∧ X z 36 0 [some (.ref x), some (.ref a0), some (.ref a1), none] [] (0, 0) (K, I, R, L, sz, ex) (aftr (X z) mT 57 60 ls st (c + 45, n + 382) Q)) := v57_60
theorem v57_63 {z : P0} {st : List Value} {cu : Nat × Nat} {Q : Res → Mem → Prop} {K : Nat → Nat × Nat} {I : Nat → Nat → Int32} {R : Nat → Nat → Option Nat} {L : Nat → Nat → Int64} {sz : Nat} {ex : Bool} {x0 x1 x2 : Option Value} {u v : Nat} : X z 57 63 [x0, x1, x2] (.ref v :: .ref u :: st) cu (K, I, R, L, sz, ex) Q = ((K u).1 = 110 ∧ X z 57 66 [x0, x1, x2] (st) cu (K, I, up2 R u 3 (some v), L, sz, ex) Q) := by
  rw [x57_63]
  exact i_putA
theorem v57_66 {z : P0} {st : List Value} {cu : Nat × Nat} {Q : Res → Mem → Prop} {σ : Mem} {x1 x2 : Option Value} {u : Nat} : X z 57 66 [some (.ref u), x1, x2] (st) cu σ Q = (X z 57 67 [some (.ref u), x1, x2] (.ref u :: st) cu σ Q) := by
  rw [x57_66]
  rfl
theorem v57_67 {z : P0} {st : List Value} {Q : Res → Mem → Prop} {K : Nat → Nat × Nat} {I : Nat → Nat → Int32} {R : Nat → Nat → Option Nat} {L : Nat → Nat → Int64} {sz : Nat} {ex : Bool} {x0 x1 x2 : Option Value} {c n : Nat} : X z 57 67 [x0, x1, x2] (st) (c, n) (K, I, R, L, sz, ex) Q = (ex = true ∧ (c + 1 ≤ 565 ∧ n + 12 ≤ 6546) ∧ X z 57 70 [x0, x1, x2] (.ref sz :: st) (c + 1, n + 12) (upK K sz (106, 0), I, R, L, sz + 1, ex) Q) := by
  rw [x57_67]
  rfl
theorem v57_70 {z : P0} {st : List Value} {cu : Nat × Nat} {Q : Res → Mem → Prop} {σ : Mem} {x0 x1 x2 : Option Value} {u : Nat} : X z 57 70 [x0, x1, x2] (.ref u :: st) cu σ Q = (X z 57 71 [x0, x1, x2] (.ref u :: .ref u :: st) cu σ Q) := by
  rw [x57_70]
  exact propext ⟨fun h => h.2, fun h => ⟨rfl, h⟩⟩
theorem v57_70i {z : P0} {st : List Value} {cu : Nat × Nat} {Q : Res → Mem → Prop} {σ : Mem} {x0 x1 x2 : Option Value} {u : Int32} : X z 57 70 [x0, x1, x2] (.int u :: st) cu σ Q = (X z 57 71 [x0, x1, x2] (.int u :: .int u :: st) cu σ Q) := by
  rw [x57_70]
  exact propext ⟨fun h => h.2, fun h => ⟨rfl, h⟩⟩
theorem v57_71 {z : P0} {st : List Value} {cu : Nat × Nat} {Q : Res → Mem → Prop} {σ : Mem} {x0 x2 : Option Value} {u : Nat} : X z 57 71 [x0, some (.ref u), x2] (st) cu σ Q = (X z 57 72 [x0, some (.ref u), x2] (.ref u :: st) cu σ Q) := by
  rw [x57_71]
  rfl
theorem v57_72 {z : P0} {st : List Value} {cu : Nat × Nat} {Q : Res → Mem → Prop} {σ : Mem} {x0 x1 : Option Value} {u : Nat} : X z 57 72 [x0, x1, some (.ref u)] (st) cu σ Q = (X z 57 73 [x0, x1, some (.ref u)] (.ref u :: st) cu σ Q) := by
  rw [x57_72]
  rfl
theorem u57_73 {z : P0} {ls : Lcs} {st : List Value} {c n : Nat} {K : Nat → Nat × Nat} {I : Nat → Nat → Int32} {R : Nat → Nat → Option Nat} {L : Nat → Nat → Int64} {sz : Nat} {ex : Bool} {Q : Res → Mem → Prop} {x : Nat} {a0 : Nat} {a1 : Nat} : X z 57 73 ls (.ref a1 :: .ref a0 :: .ref x :: st) (c, n) (K, I, R, L, sz, ex) Q = ((K x).1 = 106 ∧ wsum st ≤ 8 ∧ c + 45 ≤ 565 ∧ n + 382 ≤ 6546 ∧ X z 36 0 [some (.ref x), some (.ref a0), some (.ref a1), none] [] (0, 0) (K, I, R, L, sz, ex) (aftr (X z) mT 57 73 ls st (c + 45, n + 382) Q)) := v57_73
theorem v57_76 {z : P0} {st : List Value} {cu : Nat × Nat} {Q : Res → Mem → Prop} {K : Nat → Nat × Nat} {I : Nat → Nat → Int32} {R : Nat → Nat → Option Nat} {L : Nat → Nat → Int64} {sz : Nat} {ex : Bool} {x0 x1 x2 : Option Value} {u v : Nat} : X z 57 76 [x0, x1, x2] (.ref v :: .ref u :: st) cu (K, I, R, L, sz, ex) Q = ((K u).1 = 110 ∧ X z 57 79 [x0, x1, x2] (st) cu (K, I, up2 R u 4 (some v), L, sz, ex) Q) := by
  rw [x57_76]
  exact i_putA
theorem v57_79 {z : P0} {st : List Value} {cu : Nat × Nat} {Q : Res → Mem → Prop} {σ : Mem} {x1 x2 : Option Value} {u : Nat} : X z 57 79 [some (.ref u), x1, x2] (st) cu σ Q = (X z 57 80 [some (.ref u), x1, x2] (.ref u :: st) cu σ Q) := by
  rw [x57_79]
  rfl
theorem v57_80 {z : P0} {st : List Value} {cu : Nat × Nat} {Q : Res → Mem → Prop} {σ : Mem} {x0 x1 x2 : Option Value} : X z 57 80 [x0, x1, x2] (st) cu σ Q = (X z 57 82 [x0, x1, x2] (.int (nI 6) :: st) cu σ Q) := by
  rw [x57_80]
  rfl
theorem v57_82 {z : P0} {st : List Value} {Q : Res → Mem → Prop} {K : Nat → Nat × Nat} {I : Nat → Nat → Int32} {R : Nat → Nat → Option Nat} {L : Nat → Nat → Int64} {sz : Nat} {ex : Bool} {x0 x1 x2 : Option Value} {c n : Nat} {v : Int32} : X z 57 82 [x0, x1, x2] (.int v :: st) (c, n) (K, I, R, L, sz, ex) Q = (ex = true ∧ ¬ v < 0 ∧ v.toNatClampNeg ≤ 3000 ∧ (c + 1 ≤ 565 ∧ n + v.toNatClampNeg ≤ 6546) ∧ X z 57 84 [x0, x1, x2] (.ref sz :: st) (c + 1, n + v.toNatClampNeg) (upK K sz (20, v.toNatClampNeg), I, R, L, sz + 1, ex) Q) := by
  rw [x57_82]
  rfl
theorem v57_84 {z : P0} {st : List Value} {cu : Nat × Nat} {Q : Res → Mem → Prop} {K : Nat → Nat × Nat} {I : Nat → Nat → Int32} {R : Nat → Nat → Option Nat} {L : Nat → Nat → Int64} {sz : Nat} {ex : Bool} {x0 x1 x2 : Option Value} {u v : Nat} : X z 57 84 [x0, x1, x2] (.ref v :: .ref u :: st) cu (K, I, R, L, sz, ex) Q = ((K u).1 = 110 ∧ X z 57 87 [x0, x1, x2] (st) cu (K, I, up2 R u 5 (some v), L, sz, ex) Q) := by
  rw [x57_84]
  exact i_putA
theorem v57_87 {z : P0} {cu : Nat × Nat} {Q : Res → Mem → Prop} {σ : Mem} {x0 x1 x2 : Option Value} : X z 57 87 [x0, x1, x2] ([]) cu σ Q = (Q (.inl none) σ) := by
  rw [x57_87]
  rfl
theorem v58_0 {z : P0} {st : List Value} {cu : Nat × Nat} {Q : Res → Mem → Prop} {σ : Mem} {x0 x2 x3 : Option Value} {u : Int32} : X z 58 0 [x0, some (.int u), x2, x3] (st) cu σ Q = (X z 58 1 [x0, some (.int u), x2, x3] (.int u :: st) cu σ Q) := by
  rw [x58_0]
  rfl
theorem u58_1 {z : P0} {ls : Lcs} {st : List Value} {K : Nat → Nat × Nat} {I : Nat → Nat → Int32} {R : Nat → Nat → Option Nat} {L : Nat → Nat → Int64} {sz : Nat} {ex : Bool} {Q : Res → Mem → Prop} {a0 : Int32} : X z 58 1 ls (.int a0 :: st) (0, 0) (K, I, R, L, sz, ex) Q = (wsum st ≤ 8 ∧ X z 85 0 [some (.int a0)] [] (0, 0) (K, I, R, L, sz, ex) (aftr (X z) mT 58 1 ls st (0, 0) Q)) := v58_1 (c := 0) (n := 0)
theorem v58_4 {z : P0} {st : List Value} {cu : Nat × Nat} {Q : Res → Mem → Prop} {σ : Mem} {x0 x1 x2 x3 : Option Value} {u : Int32} : X z 58 4 [x0, x1, x2, x3] (.int u :: st) cu σ Q = (if u = nI 0 then X z 58 16 [x0, x1, x2, x3] (st) cu σ Q else X z 58 7 [x0, x1, x2, x3] (st) cu σ Q) := by
  rw [x58_4]
  rw [nI_0]
  obtain ⟨K, I, R, L, sz, ex⟩ := σ
  exact br_ite
theorem v58_7 {z : P0} {st : List Value} {cu : Nat × Nat} {Q : Res → Mem → Prop} {σ : Mem} {x0 x1 x3 : Option Value} {u : Int32} : X z 58 7 [x0, x1, some (.int u), x3] (st) cu σ Q = (X z 58 8 [x0, x1, some (.int u), x3] (.int u :: st) cu σ Q) := by
  rw [x58_7]
  rfl
theorem v58_8 {z : P0} {st : List Value} {cu : Nat × Nat} {Q : Res → Mem → Prop} {σ : Mem} {x0 x1 x2 x3 : Option Value} {u : Int32} : X z 58 8 [x0, x1, x2, x3] (.int u :: st) cu σ Q = (if u < nI 0 then X z 58 16 [x0, x1, x2, x3] (st) cu σ Q else X z 58 11 [x0, x1, x2, x3] (st) cu σ Q) := by
  rw [x58_8]
  rw [nI_0]
  obtain ⟨K, I, R, L, sz, ex⟩ := σ
  exact br_ite
theorem v58_11 {z : P0} {st : List Value} {cu : Nat × Nat} {Q : Res → Mem → Prop} {σ : Mem} {x0 x1 x3 : Option Value} {u : Int32} : X z 58 11 [x0, x1, some (.int u), x3] (st) cu σ Q = (X z 58 12 [x0, x1, some (.int u), x3] (.int u :: st) cu σ Q) := by
  rw [x58_11]
  rfl
theorem v58_12 {z : P0} {st : List Value} {cu : Nat × Nat} {Q : Res → Mem → Prop} {σ : Mem} {x0 x1 x2 x3 : Option Value} : X z 58 12 [x0, x1, x2, x3] (st) cu σ Q = (X z 58 13 [x0, x1, x2, x3] (.int (nI 3) :: st) cu σ Q) := by
  rw [x58_12]
  rfl
theorem v58_13 {z : P0} {st : List Value} {cu : Nat × Nat} {Q : Res → Mem → Prop} {σ : Mem} {x0 x1 x2 x3 : Option Value} {u v : Int32} : X z 58 13 [x0, x1, x2, x3] (.int v :: .int u :: st) cu σ Q = (if u < v then X z 58 26 [x0, x1, x2, x3] (st) cu σ Q else X z 58 16 [x0, x1, x2, x3] (st) cu σ Q) := by
  rw [x58_13]
  obtain ⟨K, I, R, L, sz, ex⟩ := σ
  exact br_ite
theorem v58_16 {z : P0} {st : List Value} {Q : Res → Mem → Prop} {K : Nat → Nat × Nat} {I : Nat → Nat → Int32} {R : Nat → Nat → Option Nat} {L : Nat → Nat → Int64} {sz : Nat} {ex : Bool} {x0 x1 x2 x3 : Option Value} : X z 58 16 [x0, x1, x2, x3] (st) (0, 0) (K, I, R, L, sz, ex) Q = (wsum st ≤ 8 ∧ Q (.inr 0) (K, I, R, L, sz, false)) := by
  rw [x58_16]
  exact i_throw (i := 0) (j := 0)
theorem v58_19 {z : P0} {st : List Value} {cu : Nat × Nat} {Q : Res → Mem → Prop} {σ : Mem} {x0 x1 x2 x3 : Option Value} {u : Nat} : X z 58 19 [x0, x1, x2, x3] (.ref u :: st) cu σ Q = (X z 58 20 [x0, x1, x2, x3] (.ref u :: .ref u :: st) cu σ Q) := by
  rw [x58_19]
  exact propext ⟨fun h => h.2, fun h => ⟨rfl, h⟩⟩
theorem v58_19i {z : P0} {st : List Value} {cu : Nat × Nat} {Q : Res → Mem → Prop} {σ : Mem} {x0 x1 x2 x3 : Option Value} {u : Int32} : X z 58 19 [x0, x1, x2, x3] (.int u :: st) cu σ Q = (X z 58 20 [x0, x1, x2, x3] (.int u :: .int u :: st) cu σ Q) := by
  rw [x58_19]
  exact propext ⟨fun h => h.2, fun h => ⟨rfl, h⟩⟩
theorem v58_26 {z : P0} {st : List Value} {cu : Nat × Nat} {Q : Res → Mem → Prop} {σ : Mem} {x1 x2 x3 : Option Value} {u : Nat} : X z 58 26 [some (.ref u), x1, x2, x3] (st) cu σ Q = (X z 58 27 [some (.ref u), x1, x2, x3] (.ref u :: st) cu σ Q) := by
  rw [x58_26]
  rfl
theorem v58_27 {z : P0} {st : List Value} {cu : Nat × Nat} {Q : Res → Mem → Prop} {K : Nat → Nat × Nat} {I : Nat → Nat → Int32} {R : Nat → Nat → Option Nat} {L : Nat → Nat → Int64} {sz : Nat} {ex : Bool} {x0 x1 x2 x3 : Option Value} {u : Nat} : X z 58 27 [x0, x1, x2, x3] (.ref u :: st) cu (K, I, R, L, sz, ex) Q = ((K u).1 = 110 ∧ X z 58 30 [x0, x1, x2, x3] (va_rf (R u 2) :: st) cu (K, I, R, L, sz, ex) Q) := by
  rw [x58_27]
  rfl
theorem v58_30 {z : P0} {st : List Value} {cu : Nat × Nat} {Q : Res → Mem → Prop} {σ : Mem} {x0 x1 x2 x3 : Option Value} : X z 58 30 [x0, x1, x2, x3] (st) cu σ Q = (X z 58 31 [x0, x1, x2, x3] (.int (nI 0) :: st) cu σ Q) := by
  rw [x58_30]
  rfl
theorem u58_31 {z : P0} {ls : Lcs} {st : List Value} {K : Nat → Nat × Nat} {I : Nat → Nat → Int32} {R : Nat → Nat → Option Nat} {L : Nat → Nat → Int64} {sz : Nat} {ex : Bool} {Q : Res → Mem → Prop} {x : Nat} {a0 : Int32} : X z 58 31 ls (.int a0 :: .ref x :: st) (0, 0) (K, I, R, L, sz, ex) Q = ((K x).1 = 100 ∧ wsum st ≤ 8 ∧ X z 2 0 [some (.ref x), some (.int a0), none, none] [] (0, 0) (K, I, R, L, sz, ex) (aftr (X z) mT 58 31 ls st (0, 0) Q)) := v58_31 (c := 0) (n := 0)
theorem v58_34 {z : P0} {st : List Value} {cu : Nat × Nat} {Q : Res → Mem → Prop} {σ : Mem} {x0 x1 x2 x3 : Option Value} {u : Int32} : X z 58 34 [x0, x1, x2, x3] (.int u :: st) cu σ Q = (if u = nI 0 then X z 58 37 [x0, x1, x2, x3] (st) cu σ Q else X z 58 47 [x0, x1, x2, x3] (st) cu σ Q) := by
  rw [x58_34]
  rw [nI_0]
  obtain ⟨K, I, R, L, sz, ex⟩ := σ
  exact br_ne
theorem v58_37 {z : P0} {st : List Value} {Q : Res → Mem → Prop} {K : Nat → Nat × Nat} {I : Nat → Nat → Int32} {R : Nat → Nat → Option Nat} {L : Nat → Nat → Int64} {sz : Nat} {ex : Bool} {x0 x1 x2 x3 : Option Value} : X z 58 37 [x0, x1, x2, x3] (st) (0, 0) (K, I, R, L, sz, ex) Q = (wsum st ≤ 8 ∧ Q (.inr 0) (K, I, R, L, sz, false)) := by
  rw [x58_37]
  exact i_throw (i := 0) (j := 0)
theorem v58_40 {z : P0} {st : List Value} {cu : Nat × Nat} {Q : Res → Mem → Prop} {σ : Mem} {x0 x1 x2 x3 : Option Value} {u : Nat} : X z 58 40 [x0, x1, x2, x3] (.ref u :: st) cu σ Q = (X z 58 41 [x0, x1, x2, x3] (.ref u :: .ref u :: st) cu σ Q) := by
  rw [x58_40]
  exact propext ⟨fun h => h.2, fun h => ⟨rfl, h⟩⟩
theorem v58_40i {z : P0} {st : List Value} {cu : Nat × Nat} {Q : Res → Mem → Prop} {σ : Mem} {x0 x1 x2 x3 : Option Value} {u : Int32} : X z 58 40 [x0, x1, x2, x3] (.int u :: st) cu σ Q = (X z 58 41 [x0, x1, x2, x3] (.int u :: .int u :: st) cu σ Q) := by
  rw [x58_40]
  exact propext ⟨fun h => h.2, fun h => ⟨rfl, h⟩⟩
theorem v58_47 {z : P0} {st : List Value} {cu : Nat × Nat} {Q : Res → Mem → Prop} {σ : Mem} {x1 x2 x3 : Option Value} {u : Nat} : X z 58 47 [some (.ref u), x1, x2, x3] (st) cu σ Q = (X z 58 48 [some (.ref u), x1, x2, x3] (.ref u :: st) cu σ Q) := by
  rw [x58_47]
  rfl
theorem v58_48 {z : P0} {st : List Value} {cu : Nat × Nat} {Q : Res → Mem → Prop} {K : Nat → Nat × Nat} {I : Nat → Nat → Int32} {R : Nat → Nat → Option Nat} {L : Nat → Nat → Int64} {sz : Nat} {ex : Bool} {x0 x1 x2 x3 : Option Value} {u : Nat} : X z 58 48 [x0, x1, x2, x3] (.ref u :: st) cu (K, I, R, L, sz, ex) Q = ((K u).1 = 110 ∧ X z 58 51 [x0, x1, x2, x3] (va_rf (R u 0) :: st) cu (K, I, R, L, sz, ex) Q) := by
  rw [x58_48]
  rfl
theorem v58_51 {z : P0} {st : List Value} {cu : Nat × Nat} {Q : Res → Mem → Prop} {K : Nat → Nat × Nat} {I : Nat → Nat → Int32} {R : Nat → Nat → Option Nat} {L : Nat → Nat → Int64} {sz : Nat} {ex : Bool} {x0 x1 x2 x3 : Option Value} {u : Nat} : X z 58 51 [x0, x1, x2, x3] (.ref u :: st) cu (K, I, R, L, sz, ex) Q = ((K u).1 = 108 ∧ X z 58 54 [x0, x1, x2, x3] (.int (I u 1) :: st) cu (K, I, R, L, sz, ex) Q) := by
  rw [x58_51]
  rfl
theorem v58_54 {z : P0} {st : List Value} {cu : Nat × Nat} {Q : Res → Mem → Prop} {σ : Mem} {x0 x1 x2 x3 : Option Value} : X z 58 54 [x0, x1, x2, x3] (st) cu σ Q = (X z 58 56 [x0, x1, x2, x3] (.int (nI 20) :: st) cu σ Q) := by
  rw [x58_54]
  rfl
theorem v58_56 {z : P0} {st : List Value} {cu : Nat × Nat} {Q : Res → Mem → Prop} {σ : Mem} {x0 x1 x2 x3 : Option Value} {u v : Int32} : X z 58 56 [x0, x1, x2, x3] (.int v :: .int u :: st) cu σ Q = (if u < v then X z 58 69 [x0, x1, x2, x3] (st) cu σ Q else X z 58 59 [x0, x1, x2, x3] (st) cu σ Q) := by
  rw [x58_56]
  obtain ⟨K, I, R, L, sz, ex⟩ := σ
  exact br_ite
theorem v58_59 {z : P0} {st : List Value} {Q : Res → Mem → Prop} {K : Nat → Nat × Nat} {I : Nat → Nat → Int32} {R : Nat → Nat → Option Nat} {L : Nat → Nat → Int64} {sz : Nat} {ex : Bool} {x0 x1 x2 x3 : Option Value} : X z 58 59 [x0, x1, x2, x3] (st) (0, 0) (K, I, R, L, sz, ex) Q = (wsum st ≤ 8 ∧ Q (.inr 1) (K, I, R, L, sz, false)) := by
  rw [x58_59]
  exact i_throw (i := 0) (j := 0)
theorem v58_62 {z : P0} {st : List Value} {cu : Nat × Nat} {Q : Res → Mem → Prop} {σ : Mem} {x0 x1 x2 x3 : Option Value} {u : Nat} : X z 58 62 [x0, x1, x2, x3] (.ref u :: st) cu σ Q = (X z 58 63 [x0, x1, x2, x3] (.ref u :: .ref u :: st) cu σ Q) := by
  rw [x58_62]
  exact propext ⟨fun h => h.2, fun h => ⟨rfl, h⟩⟩
theorem v58_62i {z : P0} {st : List Value} {cu : Nat × Nat} {Q : Res → Mem → Prop} {σ : Mem} {x0 x1 x2 x3 : Option Value} {u : Int32} : X z 58 62 [x0, x1, x2, x3] (.int u :: st) cu σ Q = (X z 58 63 [x0, x1, x2, x3] (.int u :: .int u :: st) cu σ Q) := by
  rw [x58_62]
  exact propext ⟨fun h => h.2, fun h => ⟨rfl, h⟩⟩
theorem v58_69 {z : P0} {st : List Value} {cu : Nat × Nat} {Q : Res → Mem → Prop} {σ : Mem} {x1 x2 x3 : Option Value} {u : Nat} : X z 58 69 [some (.ref u), x1, x2, x3] (st) cu σ Q = (X z 58 70 [some (.ref u), x1, x2, x3] (.ref u :: st) cu σ Q) := by
  rw [x58_69]
  rfl
theorem v58_70 {z : P0} {st : List Value} {cu : Nat × Nat} {Q : Res → Mem → Prop} {K : Nat → Nat × Nat} {I : Nat → Nat → Int32} {R : Nat → Nat → Option Nat} {L : Nat → Nat → Int64} {sz : Nat} {ex : Bool} {x0 x1 x2 x3 : Option Value} {u : Nat} : X z 58 70 [x0, x1, x2, x3] (.ref u :: st) cu (K, I, R, L, sz, ex) Q = ((K u).1 = 110 ∧ X z 58 73 [x0, x1, x2, x3] (va_rf (R u 1) :: st) cu (K, I, R, L, sz, ex) Q) := by
  rw [x58_70]
  rfl
theorem v58_73 {z : P0} {st : List Value} {cu : Nat × Nat} {Q : Res → Mem → Prop} {σ : Mem} {x1 x2 x3 : Option Value} {u : Nat} : X z 58 73 [some (.ref u), x1, x2, x3] (st) cu σ Q = (X z 58 74 [some (.ref u), x1, x2, x3] (.ref u :: st) cu σ Q) := by
  rw [x58_73]
  rfl
theorem v58_74 {z : P0} {st : List Value} {cu : Nat × Nat} {Q : Res → Mem → Prop} {K : Nat → Nat × Nat} {I : Nat → Nat → Int32} {R : Nat → Nat → Option Nat} {L : Nat → Nat → Int64} {sz : Nat} {ex : Bool} {x0 x1 x2 x3 : Option Value} {u : Nat} : X z 58 74 [x0, x1, x2, x3] (.ref u :: st) cu (K, I, R, L, sz, ex) Q = ((K u).1 = 110 ∧ X z 58 77 [x0, x1, x2, x3] (va_rf (R u 0) :: st) cu (K, I, R, L, sz, ex) Q) := by
  rw [x58_74]
  rfl
theorem u58_77 {z : P0} {ls : Lcs} {st : List Value} {K : Nat → Nat × Nat} {I : Nat → Nat → Int32} {R : Nat → Nat → Option Nat} {L : Nat → Nat → Int64} {sz : Nat} {ex : Bool} {Q : Res → Mem → Prop} {x : Nat} {a0 : Nat} : X z 58 77 ls (.ref a0 :: .ref x :: st) (0, 0) (K, I, R, L, sz, ex) Q = ((K x).1 = 103 ∧ wsum st ≤ 8 ∧ X z 24 0 [some (.ref x), some (.ref a0)] [] (0, 0) (K, I, R, L, sz, ex) (aftr (X z) mT 58 77 ls st (0, 0) Q)) := v58_77 (c := 0) (n := 0)
theorem v58_80 {z : P0} {st : List Value} {cu : Nat × Nat} {Q : Res → Mem → Prop} {σ : Mem} {x1 x2 x3 : Option Value} {u : Nat} : X z 58 80 [some (.ref u), x1, x2, x3] (st) cu σ Q = (X z 58 81 [some (.ref u), x1, x2, x3] (.ref u :: st) cu σ Q) := by
  rw [x58_80]
  rfl
theorem v58_81 {z : P0} {st : List Value} {cu : Nat × Nat} {Q : Res → Mem → Prop} {K : Nat → Nat × Nat} {I : Nat → Nat → Int32} {R : Nat → Nat → Option Nat} {L : Nat → Nat → Int64} {sz : Nat} {ex : Bool} {x0 x1 x2 x3 : Option Value} {u : Nat} : X z 58 81 [x0, x1, x2, x3] (.ref u :: st) cu (K, I, R, L, sz, ex) Q = ((K u).1 = 110 ∧ X z 58 84 [x0, x1, x2, x3] (va_rf (R u 0) :: st) cu (K, I, R, L, sz, ex) Q) := by
  rw [x58_81]
  rfl
theorem v58_84 {z : P0} {st : List Value} {cu : Nat × Nat} {Q : Res → Mem → Prop} {K : Nat → Nat × Nat} {I : Nat → Nat → Int32} {R : Nat → Nat → Option Nat} {L : Nat → Nat → Int64} {sz : Nat} {ex : Bool} {x0 x1 x2 x3 : Option Value} {u : Nat} : X z 58 84 [x0, x1, x2, x3] (.ref u :: st) cu (K, I, R, L, sz, ex) Q = ((K u).1 = 108 ∧ X z 58 87 [x0, x1, x2, x3] (.int (I u 1) :: st) cu (K, I, R, L, sz, ex) Q) := by
  rw [x58_84]
  rfl
theorem v58_87 {z : P0} {st : List Value} {cu : Nat × Nat} {Q : Res → Mem → Prop} {σ : Mem} {x0 x1 x2 x3 : Option Value} {u : Int32} : X z 58 87 [x0, x1, x2, x3] (.int u :: st) cu σ Q = (cat2 x2 = false ∧ X z 58 88 [x0, x1, x2, some (.int u)] (st) cu σ Q) := by
  rw [x58_87]
  obtain ⟨K, I, R, L, sz, ex⟩ := σ
  exact i_istore_n.trans sl_3
theorem v58_88 {z : P0} {st : List Value} {cu : Nat × Nat} {Q : Res → Mem → Prop} {σ : Mem} {x1 x2 x3 : Option Value} {u : Nat} : X z 58 88 [some (.ref u), x1, x2, x3] (st) cu σ Q = (X z 58 89 [some (.ref u), x1, x2, x3] (.ref u :: st) cu σ Q) := by
  rw [x58_88]
  rfl
theorem v58_89 {z : P0} {st : List Value} {cu : Nat × Nat} {Q : Res → Mem → Prop} {K : Nat → Nat × Nat} {I : Nat → Nat → Int32} {R : Nat → Nat → Option Nat} {L : Nat → Nat → Int64} {sz : Nat} {ex : Bool} {x0 x1 x2 x3 : Option Value} {u : Nat} : X z 58 89 [x0, x1, x2, x3] (.ref u :: st) cu (K, I, R, L, sz, ex) Q = ((K u).1 = 110 ∧ X z 58 92 [x0, x1, x2, x3] (va_rf (R u 0) :: st) cu (K, I, R, L, sz, ex) Q) := by
  rw [x58_89]
  rfl
theorem v58_92 {z : P0} {st : List Value} {cu : Nat × Nat} {Q : Res → Mem → Prop} {K : Nat → Nat × Nat} {I : Nat → Nat → Int32} {R : Nat → Nat → Option Nat} {L : Nat → Nat → Int64} {sz : Nat} {ex : Bool} {x0 x1 x2 x3 : Option Value} {u : Nat} : X z 58 92 [x0, x1, x2, x3] (.ref u :: st) cu (K, I, R, L, sz, ex) Q = ((K u).1 = 108 ∧ X z 58 95 [x0, x1, x2, x3] (va_rf (R u 0) :: st) cu (K, I, R, L, sz, ex) Q) := by
  rw [x58_92]
  rfl
theorem v58_95 {z : P0} {st : List Value} {cu : Nat × Nat} {Q : Res → Mem → Prop} {σ : Mem} {x0 x1 x2 : Option Value} {u : Int32} : X z 58 95 [x0, x1, x2, some (.int u)] (st) cu σ Q = (X z 58 96 [x0, x1, x2, some (.int u)] (.int u :: st) cu σ Q) := by
  rw [x58_95]
  rfl
theorem v58_96 {z : P0} {st : List Value} {cu : Nat × Nat} {Q : Res → Mem → Prop} {K : Nat → Nat × Nat} {I : Nat → Nat → Int32} {R : Nat → Nat → Option Nat} {L : Nat → Nat → Int64} {sz : Nat} {ex : Bool} {x0 x1 x2 x3 : Option Value} {u : Nat} {v : Int32} : X z 58 96 [x0, x1, x2, x3] (.int v :: .ref u :: st) cu (K, I, R, L, sz, ex) Q = (((K u).1 = 22 ∨ (K u).1 = 23 ∨ (K u).1 = 24 ∨ (K u).1 = 25) ∧ vp_in v (K u).2 ∧ X z 58 97 [x0, x1, x2, x3] (va_rf (R u v.toNatClampNeg) :: st) cu (K, I, R, L, sz, ex) Q) := by
  rw [x58_96]
  rfl
theorem v58_97 {z : P0} {st : List Value} {cu : Nat × Nat} {Q : Res → Mem → Prop} {σ : Mem} {x1 x2 x3 : Option Value} {u : Nat} : X z 58 97 [some (.ref u), x1, x2, x3] (st) cu σ Q = (X z 58 98 [some (.ref u), x1, x2, x3] (.ref u :: st) cu σ Q) := by
  rw [x58_97]
  rfl
theorem v58_98 {z : P0} {st : List Value} {cu : Nat × Nat} {Q : Res → Mem → Prop} {K : Nat → Nat × Nat} {I : Nat → Nat → Int32} {R : Nat → Nat → Option Nat} {L : Nat → Nat → Int64} {sz : Nat} {ex : Bool} {x0 x1 x2 x3 : Option Value} {u : Nat} : X z 58 98 [x0, x1, x2, x3] (.ref u :: st) cu (K, I, R, L, sz, ex) Q = ((K u).1 = 110 ∧ X z 58 101 [x0, x1, x2, x3] (va_rf (R u 2) :: st) cu (K, I, R, L, sz, ex) Q) := by
  rw [x58_98]
  rfl
theorem v58_101 {z : P0} {st : List Value} {cu : Nat × Nat} {Q : Res → Mem → Prop} {σ : Mem} {x0 x2 x3 : Option Value} {u : Int32} : X z 58 101 [x0, some (.int u), x2, x3] (st) cu σ Q = (X z 58 102 [x0, some (.int u), x2, x3] (.int u :: st) cu σ Q) := by
  rw [x58_101]
  rfl
theorem v58_102 {z : P0} {st : List Value} {cu : Nat × Nat} {Q : Res → Mem → Prop} {σ : Mem} {x0 x1 x3 : Option Value} {u : Int32} : X z 58 102 [x0, x1, some (.int u), x3] (st) cu σ Q = (X z 58 103 [x0, x1, some (.int u), x3] (.int u :: st) cu σ Q) := by
  rw [x58_102]
  rfl
theorem u58_103 {z : P0} {ls : Lcs} {st : List Value} {K : Nat → Nat × Nat} {I : Nat → Nat → Int32} {R : Nat → Nat → Option Nat} {L : Nat → Nat → Int64} {sz : Nat} {ex : Bool} {Q : Res → Mem → Prop} {x : Nat} {a0 : Nat} {a1 : Int32} {a2 : Int32} : X z 58 103 ls (.int a2 :: .int a1 :: .ref a0 :: .ref x :: st) (0, 0) (K, I, R, L, sz, ex) Q = ((K x).1 = 107 ∧ wsum st ≤ 8 ∧ X z 45 0 [some (.ref x), some (.ref a0), some (.int a1), some (.int a2)] [] (0, 0) (K, I, R, L, sz, ex) (aftr (X z) mT 58 103 ls st (0, 0) Q)) := v58_103 (c := 0) (n := 0)
theorem v58_106 {z : P0} {st : List Value} {cu : Nat × Nat} {Q : Res → Mem → Prop} {σ : Mem} {x1 x2 x3 : Option Value} {u : Nat} : X z 58 106 [some (.ref u), x1, x2, x3] (st) cu σ Q = (X z 58 107 [some (.ref u), x1, x2, x3] (.ref u :: st) cu σ Q) := by
  rw [x58_106]
  rfl
theorem v58_107 {z : P0} {st : List Value} {cu : Nat × Nat} {Q : Res → Mem → Prop} {K : Nat → Nat × Nat} {I : Nat → Nat → Int32} {R : Nat → Nat → Option Nat} {L : Nat → Nat → Int64} {sz : Nat} {ex : Bool} {x0 x1 x2 x3 : Option Value} {u : Nat} : X z 58 107 [x0, x1, x2, x3] (.ref u :: st) cu (K, I, R, L, sz, ex) Q = ((K u).1 = 110 ∧ X z 58 110 [x0, x1, x2, x3] (va_rf (R u 0) :: st) cu (K, I, R, L, sz, ex) Q) := by
  rw [x58_107]
  rfl
theorem v58_110 {z : P0} {st : List Value} {cu : Nat × Nat} {Q : Res → Mem → Prop} {σ : Mem} {x0 x1 x2 : Option Value} {u : Int32} : X z 58 110 [x0, x1, x2, some (.int u)] (st) cu σ Q = (X z 58 111 [x0, x1, x2, some (.int u)] (.int u :: st) cu σ Q) := by
  rw [x58_110]
  rfl
theorem v58_111 {z : P0} {st : List Value} {cu : Nat × Nat} {Q : Res → Mem → Prop} {σ : Mem} {x0 x1 x2 x3 : Option Value} : X z 58 111 [x0, x1, x2, x3] (st) cu σ Q = (X z 58 112 [x0, x1, x2, x3] (.int (nI 1) :: st) cu σ Q) := by
  rw [x58_111]
  rfl
theorem v58_112 {z : P0} {st : List Value} {cu : Nat × Nat} {Q : Res → Mem → Prop} {σ : Mem} {x0 x1 x2 x3 : Option Value} {u v : Int32} : X z 58 112 [x0, x1, x2, x3] (.int v :: .int u :: st) cu σ Q = (X z 58 113 [x0, x1, x2, x3] (.int (u + v) :: st) cu σ Q) := by
  rw [x58_112]
  rfl
theorem v58_113 {z : P0} {st : List Value} {cu : Nat × Nat} {Q : Res → Mem → Prop} {K : Nat → Nat × Nat} {I : Nat → Nat → Int32} {R : Nat → Nat → Option Nat} {L : Nat → Nat → Int64} {sz : Nat} {ex : Bool} {x0 x1 x2 x3 : Option Value} {u : Nat} {v : Int32} : X z 58 113 [x0, x1, x2, x3] (.int v :: .ref u :: st) cu (K, I, R, L, sz, ex) Q = ((K u).1 = 108 ∧ X z 58 116 [x0, x1, x2, x3] (st) cu (K, up2 I u 1 v, R, L, sz, ex) Q) := by
  rw [x58_113]
  exact i_putI
theorem v58_116 {z : P0} {st : List Value} {cu : Nat × Nat} {Q : Res → Mem → Prop} {σ : Mem} {x1 x2 x3 : Option Value} {u : Nat} : X z 58 116 [some (.ref u), x1, x2, x3] (st) cu σ Q = (X z 58 117 [some (.ref u), x1, x2, x3] (.ref u :: st) cu σ Q) := by
  rw [x58_116]
  rfl
theorem v58_117 {z : P0} {st : List Value} {cu : Nat × Nat} {Q : Res → Mem → Prop} {K : Nat → Nat × Nat} {I : Nat → Nat → Int32} {R : Nat → Nat → Option Nat} {L : Nat → Nat → Int64} {sz : Nat} {ex : Bool} {x0 x1 x2 x3 : Option Value} {u : Nat} : X z 58 117 [x0, x1, x2, x3] (.ref u :: st) cu (K, I, R, L, sz, ex) Q = ((K u).1 = 110 ∧ X z 58 120 [x0, x1, x2, x3] (va_rf (R u 2) :: st) cu (K, I, R, L, sz, ex) Q) := by
  rw [x58_117]
  rfl
theorem v58_120 {z : P0} {st : List Value} {cu : Nat × Nat} {Q : Res → Mem → Prop} {σ : Mem} {x0 x1 x2 x3 : Option Value} : X z 58 120 [x0, x1, x2, x3] (st) cu σ Q = (X z 58 121 [x0, x1, x2, x3] (.int (nI 0) :: st) cu σ Q) := by
  rw [x58_120]
  rfl
theorem v58_121 {z : P0} {st : List Value} {cu : Nat × Nat} {Q : Res → Mem → Prop} {K : Nat → Nat × Nat} {I : Nat → Nat → Int32} {R : Nat → Nat → Option Nat} {L : Nat → Nat → Int64} {sz : Nat} {ex : Bool} {x0 x1 x2 x3 : Option Value} {u : Nat} {v : Int32} : X z 58 121 [x0, x1, x2, x3] (.int v :: .ref u :: st) cu (K, I, R, L, sz, ex) Q = ((K u).1 = 100 ∧ X z 58 124 [x0, x1, x2, x3] (st) cu (K, up2 I u 1 v, R, L, sz, ex) Q) := by
  rw [x58_121]
  exact i_putI
theorem v58_124 {z : P0} {st : List Value} {cu : Nat × Nat} {Q : Res → Mem → Prop} {σ : Mem} {x0 x1 x2 : Option Value} {u : Int32} : X z 58 124 [x0, x1, x2, some (.int u)] (st) cu σ Q = (X z 58 125 [x0, x1, x2, some (.int u)] (.int u :: st) cu σ Q) := by
  rw [x58_124]
  rfl
theorem v58_125 {z : P0} {cu : Nat × Nat} {Q : Res → Mem → Prop} {σ : Mem} {x0 x1 x2 x3 : Option Value} {v : Int32} : X z 58 125 [x0, x1, x2, x3] ([.int v]) cu σ Q = (Q (.inl (some (.int v))) σ) := by
  rw [x58_125]
  exact propext ⟨fun h => h.2, fun h => ⟨trivial, h⟩⟩
theorem v59_0 {z : P0} {st : List Value} {cu : Nat × Nat} {Q : Res → Mem → Prop} {σ : Mem} {x1 : Option Value} {u : Nat} : X z 59 0 [some (.ref u), x1] (st) cu σ Q = (X z 59 1 [some (.ref u), x1] (.ref u :: st) cu σ Q) := by
  rw [x59_0]
  rfl
theorem v59_1 {z : P0} {st : List Value} {cu : Nat × Nat} {Q : Res → Mem → Prop} {K : Nat → Nat × Nat} {I : Nat → Nat → Int32} {R : Nat → Nat → Option Nat} {L : Nat → Nat → Int64} {sz : Nat} {ex : Bool} {x0 x1 : Option Value} {u : Nat} : X z 59 1 [x0, x1] (.ref u :: st) cu (K, I, R, L, sz, ex) Q = ((K u).1 = 110 ∧ X z 59 4 [x0, x1] (va_rf (R u 2) :: st) cu (K, I, R, L, sz, ex) Q) := by
  rw [x59_1]
  rfl
theorem v59_4 {z : P0} {st : List Value} {cu : Nat × Nat} {Q : Res → Mem → Prop} {σ : Mem} {x0 x1 : Option Value} : X z 59 4 [x0, x1] (st) cu σ Q = (X z 59 5 [x0, x1] (.int (nI 1) :: st) cu σ Q) := by
  rw [x59_4]
  rfl
theorem u59_5 {z : P0} {ls : Lcs} {st : List Value} {K : Nat → Nat × Nat} {I : Nat → Nat → Int32} {R : Nat → Nat → Option Nat} {L : Nat → Nat → Int64} {sz : Nat} {ex : Bool} {Q : Res → Mem → Prop} {x : Nat} {a0 : Int32} : X z 59 5 ls (.int a0 :: .ref x :: st) (0, 0) (K, I, R, L, sz, ex) Q = ((K x).1 = 100 ∧ wsum st ≤ 8 ∧ X z 2 0 [some (.ref x), some (.int a0), none, none] [] (0, 0) (K, I, R, L, sz, ex) (aftr (X z) mT 59 5 ls st (0, 0) Q)) := v59_5 (c := 0) (n := 0)
theorem v59_8 {z : P0} {st : List Value} {cu : Nat × Nat} {Q : Res → Mem → Prop} {σ : Mem} {x0 x1 : Option Value} {u : Int32} : X z 59 8 [x0, x1] (.int u :: st) cu σ Q = (if u = nI 0 then X z 59 11 [x0, x1] (st) cu σ Q else X z 59 21 [x0, x1] (st) cu σ Q) := by
  rw [x59_8]
  rw [nI_0]
  obtain ⟨K, I, R, L, sz, ex⟩ := σ
  exact br_ne
theorem v59_11 {z : P0} {st : List Value} {Q : Res → Mem → Prop} {K : Nat → Nat × Nat} {I : Nat → Nat → Int32} {R : Nat → Nat → Option Nat} {L : Nat → Nat → Int64} {sz : Nat} {ex : Bool} {x0 x1 : Option Value} : X z 59 11 [x0, x1] (st) (0, 0) (K, I, R, L, sz, ex) Q = (wsum st ≤ 8 ∧ Q (.inr 0) (K, I, R, L, sz, false)) := by
  rw [x59_11]
  exact i_throw (i := 0) (j := 0)
theorem v59_14 {z : P0} {st : List Value} {cu : Nat × Nat} {Q : Res → Mem → Prop} {σ : Mem} {x0 x1 : Option Value} {u : Nat} : X z 59 14 [x0, x1] (.ref u :: st) cu σ Q = (X z 59 15 [x0, x1] (.ref u :: .ref u :: st) cu σ Q) := by
  rw [x59_14]
  exact propext ⟨fun h => h.2, fun h => ⟨rfl, h⟩⟩
theorem v59_14i {z : P0} {st : List Value} {cu : Nat × Nat} {Q : Res → Mem → Prop} {σ : Mem} {x0 x1 : Option Value} {u : Int32} : X z 59 14 [x0, x1] (.int u :: st) cu σ Q = (X z 59 15 [x0, x1] (.int u :: .int u :: st) cu σ Q) := by
  rw [x59_14]
  exact propext ⟨fun h => h.2, fun h => ⟨rfl, h⟩⟩
theorem v59_21 {z : P0} {st : List Value} {cu : Nat × Nat} {Q : Res → Mem → Prop} {σ : Mem} {x1 : Option Value} {u : Nat} : X z 59 21 [some (.ref u), x1] (st) cu σ Q = (X z 59 22 [some (.ref u), x1] (.ref u :: st) cu σ Q) := by
  rw [x59_21]
  rfl
theorem v59_22 {z : P0} {st : List Value} {cu : Nat × Nat} {Q : Res → Mem → Prop} {K : Nat → Nat × Nat} {I : Nat → Nat → Int32} {R : Nat → Nat → Option Nat} {L : Nat → Nat → Int64} {sz : Nat} {ex : Bool} {x0 x1 : Option Value} {u : Nat} : X z 59 22 [x0, x1] (.ref u :: st) cu (K, I, R, L, sz, ex) Q = ((K u).1 = 110 ∧ X z 59 25 [x0, x1] (va_rf (R u 0) :: st) cu (K, I, R, L, sz, ex) Q) := by
  rw [x59_22]
  rfl
theorem v59_25 {z : P0} {st : List Value} {cu : Nat × Nat} {Q : Res → Mem → Prop} {K : Nat → Nat × Nat} {I : Nat → Nat → Int32} {R : Nat → Nat → Option Nat} {L : Nat → Nat → Int64} {sz : Nat} {ex : Bool} {x0 x1 : Option Value} {u : Nat} : X z 59 25 [x0, x1] (.ref u :: st) cu (K, I, R, L, sz, ex) Q = ((K u).1 = 108 ∧ X z 59 28 [x0, x1] (.int (I u 3) :: st) cu (K, I, R, L, sz, ex) Q) := by
  rw [x59_25]
  rfl
theorem v59_28 {z : P0} {st : List Value} {cu : Nat × Nat} {Q : Res → Mem → Prop} {σ : Mem} {x0 x1 : Option Value} : X z 59 28 [x0, x1] (st) cu σ Q = (X z 59 30 [x0, x1] (.int (nI 10) :: st) cu σ Q) := by
  rw [x59_28]
  rfl
theorem v59_30 {z : P0} {st : List Value} {cu : Nat × Nat} {Q : Res → Mem → Prop} {σ : Mem} {x0 x1 : Option Value} {u v : Int32} : X z 59 30 [x0, x1] (.int v :: .int u :: st) cu σ Q = (if u < v then X z 59 43 [x0, x1] (st) cu σ Q else X z 59 33 [x0, x1] (st) cu σ Q) := by
  rw [x59_30]
  obtain ⟨K, I, R, L, sz, ex⟩ := σ
  exact br_ite
theorem v59_33 {z : P0} {st : List Value} {Q : Res → Mem → Prop} {K : Nat → Nat × Nat} {I : Nat → Nat → Int32} {R : Nat → Nat → Option Nat} {L : Nat → Nat → Int64} {sz : Nat} {ex : Bool} {x0 x1 : Option Value} : X z 59 33 [x0, x1] (st) (0, 0) (K, I, R, L, sz, ex) Q = (wsum st ≤ 8 ∧ Q (.inr 1) (K, I, R, L, sz, false)) := by
  rw [x59_33]
  exact i_throw (i := 0) (j := 0)
theorem v59_36 {z : P0} {st : List Value} {cu : Nat × Nat} {Q : Res → Mem → Prop} {σ : Mem} {x0 x1 : Option Value} {u : Nat} : X z 59 36 [x0, x1] (.ref u :: st) cu σ Q = (X z 59 37 [x0, x1] (.ref u :: .ref u :: st) cu σ Q) := by
  rw [x59_36]
  exact propext ⟨fun h => h.2, fun h => ⟨rfl, h⟩⟩
theorem v59_36i {z : P0} {st : List Value} {cu : Nat × Nat} {Q : Res → Mem → Prop} {σ : Mem} {x0 x1 : Option Value} {u : Int32} : X z 59 36 [x0, x1] (.int u :: st) cu σ Q = (X z 59 37 [x0, x1] (.int u :: .int u :: st) cu σ Q) := by
  rw [x59_36]
  exact propext ⟨fun h => h.2, fun h => ⟨rfl, h⟩⟩
theorem v59_43 {z : P0} {st : List Value} {cu : Nat × Nat} {Q : Res → Mem → Prop} {σ : Mem} {x1 : Option Value} {u : Nat} : X z 59 43 [some (.ref u), x1] (st) cu σ Q = (X z 59 44 [some (.ref u), x1] (.ref u :: st) cu σ Q) := by
  rw [x59_43]
  rfl
theorem v59_44 {z : P0} {st : List Value} {cu : Nat × Nat} {Q : Res → Mem → Prop} {K : Nat → Nat × Nat} {I : Nat → Nat → Int32} {R : Nat → Nat → Option Nat} {L : Nat → Nat → Int64} {sz : Nat} {ex : Bool} {x0 x1 : Option Value} {u : Nat} : X z 59 44 [x0, x1] (.ref u :: st) cu (K, I, R, L, sz, ex) Q = ((K u).1 = 110 ∧ X z 59 47 [x0, x1] (va_rf (R u 1) :: st) cu (K, I, R, L, sz, ex) Q) := by
  rw [x59_44]
  rfl
theorem v59_47 {z : P0} {st : List Value} {cu : Nat × Nat} {Q : Res → Mem → Prop} {σ : Mem} {x1 : Option Value} {u : Nat} : X z 59 47 [some (.ref u), x1] (st) cu σ Q = (X z 59 48 [some (.ref u), x1] (.ref u :: st) cu σ Q) := by
  rw [x59_47]
  rfl
theorem v59_48 {z : P0} {st : List Value} {cu : Nat × Nat} {Q : Res → Mem → Prop} {K : Nat → Nat × Nat} {I : Nat → Nat → Int32} {R : Nat → Nat → Option Nat} {L : Nat → Nat → Int64} {sz : Nat} {ex : Bool} {x0 x1 : Option Value} {u : Nat} : X z 59 48 [x0, x1] (.ref u :: st) cu (K, I, R, L, sz, ex) Q = ((K u).1 = 110 ∧ X z 59 51 [x0, x1] (va_rf (R u 0) :: st) cu (K, I, R, L, sz, ex) Q) := by
  rw [x59_48]
  rfl
theorem u59_51 {z : P0} {ls : Lcs} {st : List Value} {K : Nat → Nat × Nat} {I : Nat → Nat → Int32} {R : Nat → Nat → Option Nat} {L : Nat → Nat → Int64} {sz : Nat} {ex : Bool} {Q : Res → Mem → Prop} {x : Nat} {a0 : Nat} : X z 59 51 ls (.ref a0 :: .ref x :: st) (0, 0) (K, I, R, L, sz, ex) Q = ((K x).1 = 103 ∧ wsum st ≤ 8 ∧ X z 24 0 [some (.ref x), some (.ref a0)] [] (0, 0) (K, I, R, L, sz, ex) (aftr (X z) mT 59 51 ls st (0, 0) Q)) := v59_51 (c := 0) (n := 0)
theorem v59_54 {z : P0} {st : List Value} {cu : Nat × Nat} {Q : Res → Mem → Prop} {σ : Mem} {x1 : Option Value} {u : Nat} : X z 59 54 [some (.ref u), x1] (st) cu σ Q = (X z 59 55 [some (.ref u), x1] (.ref u :: st) cu σ Q) := by
  rw [x59_54]
  rfl
theorem v59_55 {z : P0} {st : List Value} {cu : Nat × Nat} {Q : Res → Mem → Prop} {K : Nat → Nat × Nat} {I : Nat → Nat → Int32} {R : Nat → Nat → Option Nat} {L : Nat → Nat → Int64} {sz : Nat} {ex : Bool} {x0 x1 : Option Value} {u : Nat} : X z 59 55 [x0, x1] (.ref u :: st) cu (K, I, R, L, sz, ex) Q = ((K u).1 = 110 ∧ X z 59 58 [x0, x1] (va_rf (R u 0) :: st) cu (K, I, R, L, sz, ex) Q) := by
  rw [x59_55]
  rfl
theorem v59_58 {z : P0} {st : List Value} {cu : Nat × Nat} {Q : Res → Mem → Prop} {K : Nat → Nat × Nat} {I : Nat → Nat → Int32} {R : Nat → Nat → Option Nat} {L : Nat → Nat → Int64} {sz : Nat} {ex : Bool} {x0 x1 : Option Value} {u : Nat} : X z 59 58 [x0, x1] (.ref u :: st) cu (K, I, R, L, sz, ex) Q = ((K u).1 = 108 ∧ X z 59 61 [x0, x1] (.int (I u 3) :: st) cu (K, I, R, L, sz, ex) Q) := by
  rw [x59_58]
  rfl
theorem v59_61 {z : P0} {st : List Value} {cu : Nat × Nat} {Q : Res → Mem → Prop} {σ : Mem} {x0 x1 : Option Value} {u : Int32} : X z 59 61 [x0, x1] (.int u :: st) cu σ Q = (cat2 x0 = false ∧ X z 59 62 [x0, some (.int u)] (st) cu σ Q) := by
  rw [x59_61]
  obtain ⟨K, I, R, L, sz, ex⟩ := σ
  exact i_istore_n.trans sl_1
theorem v59_62 {z : P0} {st : List Value} {cu : Nat × Nat} {Q : Res → Mem → Prop} {σ : Mem} {x1 : Option Value} {u : Nat} : X z 59 62 [some (.ref u), x1] (st) cu σ Q = (X z 59 63 [some (.ref u), x1] (.ref u :: st) cu σ Q) := by
  rw [x59_62]
  rfl
theorem v59_63 {z : P0} {st : List Value} {cu : Nat × Nat} {Q : Res → Mem → Prop} {K : Nat → Nat × Nat} {I : Nat → Nat → Int32} {R : Nat → Nat → Option Nat} {L : Nat → Nat → Int64} {sz : Nat} {ex : Bool} {x0 x1 : Option Value} {u : Nat} : X z 59 63 [x0, x1] (.ref u :: st) cu (K, I, R, L, sz, ex) Q = ((K u).1 = 110 ∧ X z 59 66 [x0, x1] (va_rf (R u 0) :: st) cu (K, I, R, L, sz, ex) Q) := by
  rw [x59_63]
  rfl
theorem v59_66 {z : P0} {st : List Value} {cu : Nat × Nat} {Q : Res → Mem → Prop} {K : Nat → Nat × Nat} {I : Nat → Nat → Int32} {R : Nat → Nat → Option Nat} {L : Nat → Nat → Int64} {sz : Nat} {ex : Bool} {x0 x1 : Option Value} {u : Nat} : X z 59 66 [x0, x1] (.ref u :: st) cu (K, I, R, L, sz, ex) Q = ((K u).1 = 108 ∧ X z 59 69 [x0, x1] (va_rf (R u 2) :: st) cu (K, I, R, L, sz, ex) Q) := by
  rw [x59_66]
  rfl
theorem v59_69 {z : P0} {st : List Value} {cu : Nat × Nat} {Q : Res → Mem → Prop} {σ : Mem} {x0 : Option Value} {u : Int32} : X z 59 69 [x0, some (.int u)] (st) cu σ Q = (X z 59 70 [x0, some (.int u)] (.int u :: st) cu σ Q) := by
  rw [x59_69]
  rfl
theorem v59_70 {z : P0} {st : List Value} {cu : Nat × Nat} {Q : Res → Mem → Prop} {K : Nat → Nat × Nat} {I : Nat → Nat → Int32} {R : Nat → Nat → Option Nat} {L : Nat → Nat → Int64} {sz : Nat} {ex : Bool} {x0 x1 : Option Value} {u : Nat} {v : Int32} : X z 59 70 [x0, x1] (.int v :: .ref u :: st) cu (K, I, R, L, sz, ex) Q = (((K u).1 = 22 ∨ (K u).1 = 23 ∨ (K u).1 = 24 ∨ (K u).1 = 25) ∧ vp_in v (K u).2 ∧ X z 59 71 [x0, x1] (va_rf (R u v.toNatClampNeg) :: st) cu (K, I, R, L, sz, ex) Q) := by
  rw [x59_70]
  rfl
theorem v59_71 {z : P0} {st : List Value} {cu : Nat × Nat} {Q : Res → Mem → Prop} {σ : Mem} {x1 : Option Value} {u : Nat} : X z 59 71 [some (.ref u), x1] (st) cu σ Q = (X z 59 72 [some (.ref u), x1] (.ref u :: st) cu σ Q) := by
  rw [x59_71]
  rfl
theorem v59_72 {z : P0} {st : List Value} {cu : Nat × Nat} {Q : Res → Mem → Prop} {K : Nat → Nat × Nat} {I : Nat → Nat → Int32} {R : Nat → Nat → Option Nat} {L : Nat → Nat → Int64} {sz : Nat} {ex : Bool} {x0 x1 : Option Value} {u : Nat} : X z 59 72 [x0, x1] (.ref u :: st) cu (K, I, R, L, sz, ex) Q = ((K u).1 = 110 ∧ X z 59 75 [x0, x1] (va_rf (R u 2) :: st) cu (K, I, R, L, sz, ex) Q) := by
  rw [x59_72]
  rfl
theorem u59_75 {z : P0} {ls : Lcs} {st : List Value} {K : Nat → Nat × Nat} {I : Nat → Nat → Int32} {R : Nat → Nat → Option Nat} {L : Nat → Nat → Int64} {sz : Nat} {ex : Bool} {Q : Res → Mem → Prop} {x : Nat} {a0 : Nat} : X z 59 75 ls (.ref a0 :: .ref x :: st) (0, 0) (K, I, R, L, sz, ex) Q = ((K x).1 = 109 ∧ wsum st ≤ 8 ∧ X z 53 0 [some (.ref x), some (.ref a0), none] [] (0, 0) (K, I, R, L, sz, ex) (aftr (X z) mT 59 75 ls st (0, 0) Q)) := v59_75 (c := 0) (n := 0)
theorem v59_78 {z : P0} {st : List Value} {cu : Nat × Nat} {Q : Res → Mem → Prop} {σ : Mem} {x1 : Option Value} {u : Nat} : X z 59 78 [some (.ref u), x1] (st) cu σ Q = (X z 59 79 [some (.ref u), x1] (.ref u :: st) cu σ Q) := by
  rw [x59_78]
  rfl
theorem v59_79 {z : P0} {st : List Value} {cu : Nat × Nat} {Q : Res → Mem → Prop} {K : Nat → Nat × Nat} {I : Nat → Nat → Int32} {R : Nat → Nat → Option Nat} {L : Nat → Nat → Int64} {sz : Nat} {ex : Bool} {x0 x1 : Option Value} {u : Nat} : X z 59 79 [x0, x1] (.ref u :: st) cu (K, I, R, L, sz, ex) Q = ((K u).1 = 110 ∧ X z 59 82 [x0, x1] (va_rf (R u 0) :: st) cu (K, I, R, L, sz, ex) Q) := by
  rw [x59_79]
  rfl
theorem v59_82 {z : P0} {st : List Value} {cu : Nat × Nat} {Q : Res → Mem → Prop} {σ : Mem} {x0 : Option Value} {u : Int32} : X z 59 82 [x0, some (.int u)] (st) cu σ Q = (X z 59 83 [x0, some (.int u)] (.int u :: st) cu σ Q) := by
  rw [x59_82]
  rfl
theorem v59_83 {z : P0} {st : List Value} {cu : Nat × Nat} {Q : Res → Mem → Prop} {σ : Mem} {x0 x1 : Option Value} : X z 59 83 [x0, x1] (st) cu σ Q = (X z 59 84 [x0, x1] (.int (nI 1) :: st) cu σ Q) := by
  rw [x59_83]
  rfl
theorem v59_84 {z : P0} {st : List Value} {cu : Nat × Nat} {Q : Res → Mem → Prop} {σ : Mem} {x0 x1 : Option Value} {u v : Int32} : X z 59 84 [x0, x1] (.int v :: .int u :: st) cu σ Q = (X z 59 85 [x0, x1] (.int (u + v) :: st) cu σ Q) := by
  rw [x59_84]
  rfl
theorem v59_85 {z : P0} {st : List Value} {cu : Nat × Nat} {Q : Res → Mem → Prop} {K : Nat → Nat × Nat} {I : Nat → Nat → Int32} {R : Nat → Nat → Option Nat} {L : Nat → Nat → Int64} {sz : Nat} {ex : Bool} {x0 x1 : Option Value} {u : Nat} {v : Int32} : X z 59 85 [x0, x1] (.int v :: .ref u :: st) cu (K, I, R, L, sz, ex) Q = ((K u).1 = 108 ∧ X z 59 88 [x0, x1] (st) cu (K, up2 I u 3 v, R, L, sz, ex) Q) := by
  rw [x59_85]
  exact i_putI
theorem v59_88 {z : P0} {st : List Value} {cu : Nat × Nat} {Q : Res → Mem → Prop} {σ : Mem} {x1 : Option Value} {u : Nat} : X z 59 88 [some (.ref u), x1] (st) cu σ Q = (X z 59 89 [some (.ref u), x1] (.ref u :: st) cu σ Q) := by
  rw [x59_88]
  rfl
theorem v59_89 {z : P0} {st : List Value} {cu : Nat × Nat} {Q : Res → Mem → Prop} {K : Nat → Nat × Nat} {I : Nat → Nat → Int32} {R : Nat → Nat → Option Nat} {L : Nat → Nat → Int64} {sz : Nat} {ex : Bool} {x0 x1 : Option Value} {u : Nat} : X z 59 89 [x0, x1] (.ref u :: st) cu (K, I, R, L, sz, ex) Q = ((K u).1 = 110 ∧ X z 59 92 [x0, x1] (va_rf (R u 2) :: st) cu (K, I, R, L, sz, ex) Q) := by
  rw [x59_89]
  rfl
theorem v59_92 {z : P0} {st : List Value} {cu : Nat × Nat} {Q : Res → Mem → Prop} {σ : Mem} {x0 x1 : Option Value} : X z 59 92 [x0, x1] (st) cu σ Q = (X z 59 93 [x0, x1] (.int (nI 0) :: st) cu σ Q) := by
  rw [x59_92]
  rfl
theorem v59_93 {z : P0} {st : List Value} {cu : Nat × Nat} {Q : Res → Mem → Prop} {K : Nat → Nat × Nat} {I : Nat → Nat → Int32} {R : Nat → Nat → Option Nat} {L : Nat → Nat → Int64} {sz : Nat} {ex : Bool} {x0 x1 : Option Value} {u : Nat} {v : Int32} : X z 59 93 [x0, x1] (.int v :: .ref u :: st) cu (K, I, R, L, sz, ex) Q = ((K u).1 = 100 ∧ X z 59 96 [x0, x1] (st) cu (K, up2 I u 1 v, R, L, sz, ex) Q) := by
  rw [x59_93]
  exact i_putI
theorem v59_96 {z : P0} {st : List Value} {cu : Nat × Nat} {Q : Res → Mem → Prop} {σ : Mem} {x0 : Option Value} {u : Int32} : X z 59 96 [x0, some (.int u)] (st) cu σ Q = (X z 59 97 [x0, some (.int u)] (.int u :: st) cu σ Q) := by
  rw [x59_96]
  rfl
theorem v59_97 {z : P0} {cu : Nat × Nat} {Q : Res → Mem → Prop} {σ : Mem} {x0 x1 : Option Value} {v : Int32} : X z 59 97 [x0, x1] ([.int v]) cu σ Q = (Q (.inl (some (.int v))) σ) := by
  rw [x59_97]
  exact propext ⟨fun h => h.2, fun h => ⟨trivial, h⟩⟩
theorem v60_0 {z : P0} {st : List Value} {cu : Nat × Nat} {Q : Res → Mem → Prop} {σ : Mem} {u : Nat} : X z 60 0 [some (.ref u)] (st) cu σ Q = (X z 60 1 [some (.ref u)] (.ref u :: st) cu σ Q) := by
  rw [x60_0]
  rfl
theorem v60_1 {z : P0} {st : List Value} {cu : Nat × Nat} {Q : Res → Mem → Prop} {K : Nat → Nat × Nat} {I : Nat → Nat → Int32} {R : Nat → Nat → Option Nat} {L : Nat → Nat → Int64} {sz : Nat} {ex : Bool} {x0 : Option Value} {u : Nat} : X z 60 1 [x0] (.ref u :: st) cu (K, I, R, L, sz, ex) Q = ((K u).1 = 110 ∧ X z 60 4 [x0] (va_rf (R u 2) :: st) cu (K, I, R, L, sz, ex) Q) := by
  rw [x60_1]
  rfl
theorem v60_4 {z : P0} {st : List Value} {cu : Nat × Nat} {Q : Res → Mem → Prop} {σ : Mem} {x0 : Option Value} : X z 60 4 [x0] (st) cu σ Q = (X z 60 5 [x0] (.int (nI 2) :: st) cu σ Q) := by
  rw [x60_4]
  rfl
theorem u60_5 {z : P0} {ls : Lcs} {st : List Value} {K : Nat → Nat × Nat} {I : Nat → Nat → Int32} {R : Nat → Nat → Option Nat} {L : Nat → Nat → Int64} {sz : Nat} {ex : Bool} {Q : Res → Mem → Prop} {x : Nat} {a0 : Int32} : X z 60 5 ls (.int a0 :: .ref x :: st) (0, 0) (K, I, R, L, sz, ex) Q = ((K x).1 = 100 ∧ wsum st ≤ 8 ∧ X z 2 0 [some (.ref x), some (.int a0), none, none] [] (0, 0) (K, I, R, L, sz, ex) (aftr (X z) mT 60 5 ls st (0, 0) Q)) := v60_5 (c := 0) (n := 0)
theorem v60_8 {z : P0} {st : List Value} {cu : Nat × Nat} {Q : Res → Mem → Prop} {σ : Mem} {x0 : Option Value} {u : Int32} : X z 60 8 [x0] (.int u :: st) cu σ Q = (if u = nI 0 then X z 60 11 [x0] (st) cu σ Q else X z 60 21 [x0] (st) cu σ Q) := by
  rw [x60_8]
  rw [nI_0]
  obtain ⟨K, I, R, L, sz, ex⟩ := σ
  exact br_ne
theorem v60_11 {z : P0} {st : List Value} {Q : Res → Mem → Prop} {K : Nat → Nat × Nat} {I : Nat → Nat → Int32} {R : Nat → Nat → Option Nat} {L : Nat → Nat → Int64} {sz : Nat} {ex : Bool} {x0 : Option Value} : X z 60 11 [x0] (st) (0, 0) (K, I, R, L, sz, ex) Q = (wsum st ≤ 8 ∧ Q (.inr 0) (K, I, R, L, sz, false)) := by
  rw [x60_11]
  exact i_throw (i := 0) (j := 0)
theorem v60_14 {z : P0} {st : List Value} {cu : Nat × Nat} {Q : Res → Mem → Prop} {σ : Mem} {x0 : Option Value} {u : Nat} : X z 60 14 [x0] (.ref u :: st) cu σ Q = (X z 60 15 [x0] (.ref u :: .ref u :: st) cu σ Q) := by
  rw [x60_14]
  exact propext ⟨fun h => h.2, fun h => ⟨rfl, h⟩⟩
theorem v60_14i {z : P0} {st : List Value} {cu : Nat × Nat} {Q : Res → Mem → Prop} {σ : Mem} {x0 : Option Value} {u : Int32} : X z 60 14 [x0] (.int u :: st) cu σ Q = (X z 60 15 [x0] (.int u :: .int u :: st) cu σ Q) := by
  rw [x60_14]
  exact propext ⟨fun h => h.2, fun h => ⟨rfl, h⟩⟩
theorem v60_21 {z : P0} {st : List Value} {cu : Nat × Nat} {Q : Res → Mem → Prop} {σ : Mem} {u : Nat} : X z 60 21 [some (.ref u)] (st) cu σ Q = (X z 60 22 [some (.ref u)] (.ref u :: st) cu σ Q) := by
  rw [x60_21]
  rfl
theorem v60_22 {z : P0} {st : List Value} {cu : Nat × Nat} {Q : Res → Mem → Prop} {K : Nat → Nat × Nat} {I : Nat → Nat → Int32} {R : Nat → Nat → Option Nat} {L : Nat → Nat → Int64} {sz : Nat} {ex : Bool} {x0 : Option Value} {u : Nat} : X z 60 22 [x0] (.ref u :: st) cu (K, I, R, L, sz, ex) Q = ((K u).1 = 110 ∧ X z 60 25 [x0] (va_rf (R u 1) :: st) cu (K, I, R, L, sz, ex) Q) := by
  rw [x60_22]
  rfl
theorem v60_25 {z : P0} {st : List Value} {cu : Nat × Nat} {Q : Res → Mem → Prop} {σ : Mem} {u : Nat} : X z 60 25 [some (.ref u)] (st) cu σ Q = (X z 60 26 [some (.ref u)] (.ref u :: st) cu σ Q) := by
  rw [x60_25]
  rfl
theorem v60_26 {z : P0} {st : List Value} {cu : Nat × Nat} {Q : Res → Mem → Prop} {K : Nat → Nat × Nat} {I : Nat → Nat → Int32} {R : Nat → Nat → Option Nat} {L : Nat → Nat → Int64} {sz : Nat} {ex : Bool} {x0 : Option Value} {u : Nat} : X z 60 26 [x0] (.ref u :: st) cu (K, I, R, L, sz, ex) Q = ((K u).1 = 110 ∧ X z 60 29 [x0] (va_rf (R u 0) :: st) cu (K, I, R, L, sz, ex) Q) := by
  rw [x60_26]
  rfl
theorem u60_29 {z : P0} {ls : Lcs} {st : List Value} {K : Nat → Nat × Nat} {I : Nat → Nat → Int32} {R : Nat → Nat → Option Nat} {L : Nat → Nat → Int64} {sz : Nat} {ex : Bool} {Q : Res → Mem → Prop} {x : Nat} {a0 : Nat} : X z 60 29 ls (.ref a0 :: .ref x :: st) (0, 0) (K, I, R, L, sz, ex) Q = ((K x).1 = 103 ∧ wsum st ≤ 8 ∧ X z 24 0 [some (.ref x), some (.ref a0)] [] (0, 0) (K, I, R, L, sz, ex) (aftr (X z) mT 60 29 ls st (0, 0) Q)) := v60_29 (c := 0) (n := 0)
theorem v60_32 {z : P0} {st : List Value} {cu : Nat × Nat} {Q : Res → Mem → Prop} {σ : Mem} {u : Nat} : X z 60 32 [some (.ref u)] (st) cu σ Q = (X z 60 33 [some (.ref u)] (.ref u :: st) cu σ Q) := by
  rw [x60_32]
  rfl
theorem v60_33 {z : P0} {st : List Value} {cu : Nat × Nat} {Q : Res → Mem → Prop} {K : Nat → Nat × Nat} {I : Nat → Nat → Int32} {R : Nat → Nat → Option Nat} {L : Nat → Nat → Int64} {sz : Nat} {ex : Bool} {x0 : Option Value} {u : Nat} : X z 60 33 [x0] (.ref u :: st) cu (K, I, R, L, sz, ex) Q = ((K u).1 = 110 ∧ X z 60 36 [x0] (va_rf (R u 0) :: st) cu (K, I, R, L, sz, ex) Q) := by
  rw [x60_33]
  rfl
theorem v60_36 {z : P0} {st : List Value} {cu : Nat × Nat} {Q : Res → Mem → Prop} {K : Nat → Nat × Nat} {I : Nat → Nat → Int32} {R : Nat → Nat → Option Nat} {L : Nat → Nat → Int64} {sz : Nat} {ex : Bool} {x0 : Option Value} {u : Nat} : X z 60 36 [x0] (.ref u :: st) cu (K, I, R, L, sz, ex) Q = ((K u).1 = 108 ∧ X z 60 39 [x0] (va_rf (R u 4) :: st) cu (K, I, R, L, sz, ex) Q) := by
  rw [x60_36]
  rfl
theorem v60_39 {z : P0} {st : List Value} {cu : Nat × Nat} {Q : Res → Mem → Prop} {σ : Mem} {u : Nat} : X z 60 39 [some (.ref u)] (st) cu σ Q = (X z 60 40 [some (.ref u)] (.ref u :: st) cu σ Q) := by
  rw [x60_39]
  rfl
theorem v60_40 {z : P0} {st : List Value} {cu : Nat × Nat} {Q : Res → Mem → Prop} {K : Nat → Nat × Nat} {I : Nat → Nat → Int32} {R : Nat → Nat → Option Nat} {L : Nat → Nat → Int64} {sz : Nat} {ex : Bool} {x0 : Option Value} {u : Nat} : X z 60 40 [x0] (.ref u :: st) cu (K, I, R, L, sz, ex) Q = ((K u).1 = 110 ∧ X z 60 43 [x0] (va_rf (R u 2) :: st) cu (K, I, R, L, sz, ex) Q) := by
  rw [x60_40]
  rfl
theorem v60_43 {z : P0} {st : List Value} {cu : Nat × Nat} {Q : Res → Mem → Prop} {K : Nat → Nat × Nat} {I : Nat → Nat → Int32} {R : Nat → Nat → Option Nat} {L : Nat → Nat → Int64} {sz : Nat} {ex : Bool} {x0 : Option Value} {u : Nat} : X z 60 43 [x0] (.ref u :: st) cu (K, I, R, L, sz, ex) Q = ((K u).1 = 100 ∧ X z 60 46 [x0] (va_rf (R u 0) :: st) cu (K, I, R, L, sz, ex) Q) := by
  rw [x60_43]
  rfl
theorem v60_46 {z : P0} {st : List Value} {cu : Nat × Nat} {Q : Res → Mem → Prop} {σ : Mem} {u : Nat} : X z 60 46 [some (.ref u)] (st) cu σ Q = (X z 60 47 [some (.ref u)] (.ref u :: st) cu σ Q) := by
  rw [x60_46]
  rfl
theorem v60_47 {z : P0} {st : List Value} {cu : Nat × Nat} {Q : Res → Mem → Prop} {K : Nat → Nat × Nat} {I : Nat → Nat → Int32} {R : Nat → Nat → Option Nat} {L : Nat → Nat → Int64} {sz : Nat} {ex : Bool} {x0 : Option Value} {u : Nat} : X z 60 47 [x0] (.ref u :: st) cu (K, I, R, L, sz, ex) Q = ((K u).1 = 110 ∧ X z 60 50 [x0] (va_rf (R u 2) :: st) cu (K, I, R, L, sz, ex) Q) := by
  rw [x60_47]
  rfl
theorem v60_50 {z : P0} {st : List Value} {cu : Nat × Nat} {Q : Res → Mem → Prop} {K : Nat → Nat × Nat} {I : Nat → Nat → Int32} {R : Nat → Nat → Option Nat} {L : Nat → Nat → Int64} {sz : Nat} {ex : Bool} {x0 : Option Value} {u : Nat} : X z 60 50 [x0] (.ref u :: st) cu (K, I, R, L, sz, ex) Q = ((K u).1 = 100 ∧ X z 60 53 [x0] (.int (I u 1) :: st) cu (K, I, R, L, sz, ex) Q) := by
  rw [x60_50]
  rfl
theorem u60_53 {z : P0} {ls : Lcs} {st : List Value} {K : Nat → Nat × Nat} {I : Nat → Nat → Int32} {R : Nat → Nat → Option Nat} {L : Nat → Nat → Int64} {sz : Nat} {ex : Bool} {Q : Res → Mem → Prop} {x : Nat} {a0 : Nat} {a1 : Int32} : X z 60 53 ls (.int a1 :: .ref a0 :: .ref x :: st) (0, 0) (K, I, R, L, sz, ex) Q = ((K x).1 = 104 ∧ wsum st ≤ 8 ∧ X z 28 0 [some (.ref x), some (.ref a0), some (.int a1)] [] (0, 0) (K, I, R, L, sz, ex) (aftr (X z) mT 60 53 ls st (0, 0) Q)) := v60_53 (c := 0) (n := 0)
theorem v60_56 {z : P0} {st : List Value} {cu : Nat × Nat} {Q : Res → Mem → Prop} {σ : Mem} {u : Nat} : X z 60 56 [some (.ref u)] (st) cu σ Q = (X z 60 57 [some (.ref u)] (.ref u :: st) cu σ Q) := by
  rw [x60_56]
  rfl
theorem v60_57 {z : P0} {st : List Value} {cu : Nat × Nat} {Q : Res → Mem → Prop} {K : Nat → Nat × Nat} {I : Nat → Nat → Int32} {R : Nat → Nat → Option Nat} {L : Nat → Nat → Int64} {sz : Nat} {ex : Bool} {x0 : Option Value} {u : Nat} : X z 60 57 [x0] (.ref u :: st) cu (K, I, R, L, sz, ex) Q = ((K u).1 = 110 ∧ X z 60 60 [x0] (va_rf (R u 2) :: st) cu (K, I, R, L, sz, ex) Q) := by
  rw [x60_57]
  rfl
theorem v60_60 {z : P0} {st : List Value} {cu : Nat × Nat} {Q : Res → Mem → Prop} {σ : Mem} {x0 : Option Value} : X z 60 60 [x0] (st) cu σ Q = (X z 60 61 [x0] (.int (nI 0) :: st) cu σ Q) := by
  rw [x60_60]
  rfl
theorem v60_61 {z : P0} {st : List Value} {cu : Nat × Nat} {Q : Res → Mem → Prop} {K : Nat → Nat × Nat} {I : Nat → Nat → Int32} {R : Nat → Nat → Option Nat} {L : Nat → Nat → Int64} {sz : Nat} {ex : Bool} {x0 : Option Value} {u : Nat} {v : Int32} : X z 60 61 [x0] (.int v :: .ref u :: st) cu (K, I, R, L, sz, ex) Q = ((K u).1 = 100 ∧ X z 60 64 [x0] (st) cu (K, up2 I u 1 v, R, L, sz, ex) Q) := by
  rw [x60_61]
  exact i_putI
theorem v60_64 {z : P0} {st : List Value} {cu : Nat × Nat} {Q : Res → Mem → Prop} {σ : Mem} {u : Nat} : X z 60 64 [some (.ref u)] (st) cu σ Q = (X z 60 65 [some (.ref u)] (.ref u :: st) cu σ Q) := by
  rw [x60_64]
  rfl
theorem v60_65 {z : P0} {st : List Value} {cu : Nat × Nat} {Q : Res → Mem → Prop} {K : Nat → Nat × Nat} {I : Nat → Nat → Int32} {R : Nat → Nat → Option Nat} {L : Nat → Nat → Int64} {sz : Nat} {ex : Bool} {x0 : Option Value} {u : Nat} : X z 60 65 [x0] (.ref u :: st) cu (K, I, R, L, sz, ex) Q = ((K u).1 = 110 ∧ X z 60 68 [x0] (va_rf (R u 0) :: st) cu (K, I, R, L, sz, ex) Q) := by
  rw [x60_65]
  rfl
theorem v60_68 {z : P0} {st : List Value} {cu : Nat × Nat} {Q : Res → Mem → Prop} {K : Nat → Nat × Nat} {I : Nat → Nat → Int32} {R : Nat → Nat → Option Nat} {L : Nat → Nat → Int64} {sz : Nat} {ex : Bool} {x0 : Option Value} {u : Nat} : X z 60 68 [x0] (.ref u :: st) cu (K, I, R, L, sz, ex) Q = ((K u).1 = 108 ∧ X z 60 71 [x0] (va_rf (R u 4) :: st) cu (K, I, R, L, sz, ex) Q) := by
  rw [x60_68]
  rfl
theorem u60_71 {z : P0} {ls : Lcs} {st : List Value} {K : Nat → Nat × Nat} {I : Nat → Nat → Int32} {R : Nat → Nat → Option Nat} {L : Nat → Nat → Int64} {sz : Nat} {ex : Bool} {Q : Res → Mem → Prop} {x : Nat} : X z 60 71 ls (.ref x :: st) (0, 0) (K, I, R, L, sz, ex) Q = ((K x).1 = 104 ∧ wsum st ≤ 8 ∧ X z 29 0 [some (.ref x), none, none] [] (0, 0) (K, I, R, L, sz, ex) (aftr (X z) mT 60 71 ls st (0, 0) Q)) := v60_71 (c := 0) (n := 0)
theorem v60_74 {z : P0} {cu : Nat × Nat} {Q : Res → Mem → Prop} {σ : Mem} {x0 : Option Value} {v : Int32} : X z 60 74 [x0] ([.int v]) cu σ Q = (Q (.inl (some (.int v))) σ) := by
  rw [x60_74]
  exact propext ⟨fun h => h.2, fun h => ⟨trivial, h⟩⟩
theorem v61_0 {z : P0} {st : List Value} {cu : Nat × Nat} {Q : Res → Mem → Prop} {σ : Mem} {x1 x2 x3 : Option Value} {u : Nat} : X z 61 0 [some (.ref u), x1, x2, x3] (st) cu σ Q = (X z 61 1 [some (.ref u), x1, x2, x3] (.ref u :: st) cu σ Q) := by
  rw [x61_0]
  rfl
theorem v61_1 {z : P0} {st : List Value} {cu : Nat × Nat} {Q : Res → Mem → Prop} {σ : Mem} {x0 x2 x3 : Option Value} {u : Int32} : X z 61 1 [x0, some (.int u), x2, x3] (st) cu σ Q = (X z 61 2 [x0, some (.int u), x2, x3] (.int u :: st) cu σ Q) := by
  rw [x61_1]
  rfl
theorem u61_2 {z : P0} {ls : Lcs} {st : List Value} {K : Nat → Nat × Nat} {I : Nat → Nat → Int32} {R : Nat → Nat → Option Nat} {L : Nat → Nat → Int64} {sz : Nat} {ex : Bool} {Q : Res → Mem → Prop} {x : Nat} {a0 : Int32} : X z 61 2 ls (.int a0 :: .ref x :: st) (0, 0) (K, I, R, L, sz, ex) Q = ((K x).1 = 110 ∧ wsum st ≤ 8 ∧ X z 89 0 [some (.ref x), some (.int a0)] [] (0, 0) (K, I, R, L, sz, ex) (aftr (X z) mT 61 2 ls st (0, 0) Q)) := v61_2 (c := 0) (n := 0)
theorem v61_5 {z : P0} {st : List Value} {cu : Nat × Nat} {Q : Res → Mem → Prop} {σ : Mem} {x0 x1 x2 x3 : Option Value} {u : Int32} : X z 61 5 [x0, x1, x2, x3] (.int u :: st) cu σ Q = (if u = nI 0 then X z 61 8 [x0, x1, x2, x3] (st) cu σ Q else X z 61 18 [x0, x1, x2, x3] (st) cu σ Q) := by
  rw [x61_5]
  rw [nI_0]
  obtain ⟨K, I, R, L, sz, ex⟩ := σ
  exact br_ne
theorem v61_8 {z : P0} {st : List Value} {Q : Res → Mem → Prop} {K : Nat → Nat × Nat} {I : Nat → Nat → Int32} {R : Nat → Nat → Option Nat} {L : Nat → Nat → Int64} {sz : Nat} {ex : Bool} {x0 x1 x2 x3 : Option Value} : X z 61 8 [x0, x1, x2, x3] (st) (0, 0) (K, I, R, L, sz, ex) Q = (wsum st ≤ 8 ∧ Q (.inr 2) (K, I, R, L, sz, false)) := by
  rw [x61_8]
  exact i_throw (i := 0) (j := 0)
theorem v61_11 {z : P0} {st : List Value} {cu : Nat × Nat} {Q : Res → Mem → Prop} {σ : Mem} {x0 x1 x2 x3 : Option Value} {u : Nat} : X z 61 11 [x0, x1, x2, x3] (.ref u :: st) cu σ Q = (X z 61 12 [x0, x1, x2, x3] (.ref u :: .ref u :: st) cu σ Q) := by
  rw [x61_11]
  exact propext ⟨fun h => h.2, fun h => ⟨rfl, h⟩⟩
theorem v61_11i {z : P0} {st : List Value} {cu : Nat × Nat} {Q : Res → Mem → Prop} {σ : Mem} {x0 x1 x2 x3 : Option Value} {u : Int32} : X z 61 11 [x0, x1, x2, x3] (.int u :: st) cu σ Q = (X z 61 12 [x0, x1, x2, x3] (.int u :: .int u :: st) cu σ Q) := by
  rw [x61_11]
  exact propext ⟨fun h => h.2, fun h => ⟨rfl, h⟩⟩
theorem v61_18 {z : P0} {st : List Value} {cu : Nat × Nat} {Q : Res → Mem → Prop} {σ : Mem} {x0 x1 x3 : Option Value} {u : Int32} : X z 61 18 [x0, x1, some (.int u), x3] (st) cu σ Q = (X z 61 19 [x0, x1, some (.int u), x3] (.int u :: st) cu σ Q) := by
  rw [x61_18]
  rfl
theorem u61_19 {z : P0} {ls : Lcs} {st : List Value} {K : Nat → Nat × Nat} {I : Nat → Nat → Int32} {R : Nat → Nat → Option Nat} {L : Nat → Nat → Int64} {sz : Nat} {ex : Bool} {Q : Res → Mem → Prop} {a0 : Int32} : X z 61 19 ls (.int a0 :: st) (0, 0) (K, I, R, L, sz, ex) Q = (wsum st ≤ 8 ∧ X z 85 0 [some (.int a0)] [] (0, 0) (K, I, R, L, sz, ex) (aftr (X z) mT 61 19 ls st (0, 0) Q)) := v61_19 (c := 0) (n := 0)
theorem v61_22 {z : P0} {st : List Value} {cu : Nat × Nat} {Q : Res → Mem → Prop} {σ : Mem} {x0 x1 x2 x3 : Option Value} {u : Int32} : X z 61 22 [x0, x1, x2, x3] (.int u :: st) cu σ Q = (if u = nI 0 then X z 61 25 [x0, x1, x2, x3] (st) cu σ Q else X z 61 35 [x0, x1, x2, x3] (st) cu σ Q) := by
  rw [x61_22]
  rw [nI_0]
  obtain ⟨K, I, R, L, sz, ex⟩ := σ
  exact br_ne
theorem v61_25 {z : P0} {st : List Value} {Q : Res → Mem → Prop} {K : Nat → Nat × Nat} {I : Nat → Nat → Int32} {R : Nat → Nat → Option Nat} {L : Nat → Nat → Int64} {sz : Nat} {ex : Bool} {x0 x1 x2 x3 : Option Value} : X z 61 25 [x0, x1, x2, x3] (st) (0, 0) (K, I, R, L, sz, ex) Q = (wsum st ≤ 8 ∧ Q (.inr 0) (K, I, R, L, sz, false)) := by
  rw [x61_25]
  exact i_throw (i := 0) (j := 0)
theorem v61_28 {z : P0} {st : List Value} {cu : Nat × Nat} {Q : Res → Mem → Prop} {σ : Mem} {x0 x1 x2 x3 : Option Value} {u : Nat} : X z 61 28 [x0, x1, x2, x3] (.ref u :: st) cu σ Q = (X z 61 29 [x0, x1, x2, x3] (.ref u :: .ref u :: st) cu σ Q) := by
  rw [x61_28]
  exact propext ⟨fun h => h.2, fun h => ⟨rfl, h⟩⟩
theorem v61_28i {z : P0} {st : List Value} {cu : Nat × Nat} {Q : Res → Mem → Prop} {σ : Mem} {x0 x1 x2 x3 : Option Value} {u : Int32} : X z 61 28 [x0, x1, x2, x3] (.int u :: st) cu σ Q = (X z 61 29 [x0, x1, x2, x3] (.int u :: .int u :: st) cu σ Q) := by
  rw [x61_28]
  exact propext ⟨fun h => h.2, fun h => ⟨rfl, h⟩⟩
theorem v61_35 {z : P0} {st : List Value} {cu : Nat × Nat} {Q : Res → Mem → Prop} {σ : Mem} {x1 x2 x3 : Option Value} {u : Nat} : X z 61 35 [some (.ref u), x1, x2, x3] (st) cu σ Q = (X z 61 36 [some (.ref u), x1, x2, x3] (.ref u :: st) cu σ Q) := by
  rw [x61_35]
  rfl
theorem v61_36 {z : P0} {st : List Value} {cu : Nat × Nat} {Q : Res → Mem → Prop} {K : Nat → Nat × Nat} {I : Nat → Nat → Int32} {R : Nat → Nat → Option Nat} {L : Nat → Nat → Int64} {sz : Nat} {ex : Bool} {x0 x1 x2 x3 : Option Value} {u : Nat} : X z 61 36 [x0, x1, x2, x3] (.ref u :: st) cu (K, I, R, L, sz, ex) Q = ((K u).1 = 110 ∧ X z 61 39 [x0, x1, x2, x3] (va_rf (R u 1) :: st) cu (K, I, R, L, sz, ex) Q) := by
  rw [x61_36]
  rfl
theorem v61_39 {z : P0} {st : List Value} {cu : Nat × Nat} {Q : Res → Mem → Prop} {σ : Mem} {x1 x2 x3 : Option Value} {u : Nat} : X z 61 39 [some (.ref u), x1, x2, x3] (st) cu σ Q = (X z 61 40 [some (.ref u), x1, x2, x3] (.ref u :: st) cu σ Q) := by
  rw [x61_39]
  rfl
theorem v61_40 {z : P0} {st : List Value} {cu : Nat × Nat} {Q : Res → Mem → Prop} {K : Nat → Nat × Nat} {I : Nat → Nat → Int32} {R : Nat → Nat → Option Nat} {L : Nat → Nat → Int64} {sz : Nat} {ex : Bool} {x0 x1 x2 x3 : Option Value} {u : Nat} : X z 61 40 [x0, x1, x2, x3] (.ref u :: st) cu (K, I, R, L, sz, ex) Q = ((K u).1 = 110 ∧ X z 61 43 [x0, x1, x2, x3] (va_rf (R u 0) :: st) cu (K, I, R, L, sz, ex) Q) := by
  rw [x61_40]
  rfl
theorem u61_43 {z : P0} {ls : Lcs} {st : List Value} {K : Nat → Nat × Nat} {I : Nat → Nat → Int32} {R : Nat → Nat → Option Nat} {L : Nat → Nat → Int64} {sz : Nat} {ex : Bool} {Q : Res → Mem → Prop} {x : Nat} {a0 : Nat} : X z 61 43 ls (.ref a0 :: .ref x :: st) (0, 0) (K, I, R, L, sz, ex) Q = ((K x).1 = 103 ∧ wsum st ≤ 8 ∧ X z 24 0 [some (.ref x), some (.ref a0)] [] (0, 0) (K, I, R, L, sz, ex) (aftr (X z) mT 61 43 ls st (0, 0) Q)) := v61_43 (c := 0) (n := 0)
theorem v61_46 {z : P0} {st : List Value} {cu : Nat × Nat} {Q : Res → Mem → Prop} {σ : Mem} {x1 x2 x3 : Option Value} {u : Nat} : X z 61 46 [some (.ref u), x1, x2, x3] (st) cu σ Q = (X z 61 47 [some (.ref u), x1, x2, x3] (.ref u :: st) cu σ Q) := by
  rw [x61_46]
  rfl
theorem v61_47 {z : P0} {st : List Value} {cu : Nat × Nat} {Q : Res → Mem → Prop} {K : Nat → Nat × Nat} {I : Nat → Nat → Int32} {R : Nat → Nat → Option Nat} {L : Nat → Nat → Int64} {sz : Nat} {ex : Bool} {x0 x1 x2 x3 : Option Value} {u : Nat} : X z 61 47 [x0, x1, x2, x3] (.ref u :: st) cu (K, I, R, L, sz, ex) Q = ((K u).1 = 110 ∧ X z 61 50 [x0, x1, x2, x3] (va_rf (R u 0) :: st) cu (K, I, R, L, sz, ex) Q) := by
  rw [x61_47]
  rfl
theorem v61_50 {z : P0} {st : List Value} {cu : Nat × Nat} {Q : Res → Mem → Prop} {K : Nat → Nat × Nat} {I : Nat → Nat → Int32} {R : Nat → Nat → Option Nat} {L : Nat → Nat → Int64} {sz : Nat} {ex : Bool} {x0 x1 x2 x3 : Option Value} {u : Nat} : X z 61 50 [x0, x1, x2, x3] (.ref u :: st) cu (K, I, R, L, sz, ex) Q = ((K u).1 = 108 ∧ X z 61 53 [x0, x1, x2, x3] (va_rf (R u 0) :: st) cu (K, I, R, L, sz, ex) Q) := by
  rw [x61_50]
  rfl
theorem v61_53 {z : P0} {st : List Value} {cu : Nat × Nat} {Q : Res → Mem → Prop} {σ : Mem} {x0 x2 x3 : Option Value} {u : Int32} : X z 61 53 [x0, some (.int u), x2, x3] (st) cu σ Q = (X z 61 54 [x0, some (.int u), x2, x3] (.int u :: st) cu σ Q) := by
  rw [x61_53]
  rfl
theorem v61_54 {z : P0} {st : List Value} {cu : Nat × Nat} {Q : Res → Mem → Prop} {K : Nat → Nat × Nat} {I : Nat → Nat → Int32} {R : Nat → Nat → Option Nat} {L : Nat → Nat → Int64} {sz : Nat} {ex : Bool} {x0 x1 x2 x3 : Option Value} {u : Nat} {v : Int32} : X z 61 54 [x0, x1, x2, x3] (.int v :: .ref u :: st) cu (K, I, R, L, sz, ex) Q = (((K u).1 = 22 ∨ (K u).1 = 23 ∨ (K u).1 = 24 ∨ (K u).1 = 25) ∧ vp_in v (K u).2 ∧ X z 61 55 [x0, x1, x2, x3] (va_rf (R u v.toNatClampNeg) :: st) cu (K, I, R, L, sz, ex) Q) := by
  rw [x61_54]
  rfl
theorem v61_55 {z : P0} {st : List Value} {cu : Nat × Nat} {Q : Res → Mem → Prop} {K : Nat → Nat × Nat} {I : Nat → Nat → Int32} {R : Nat → Nat → Option Nat} {L : Nat → Nat → Int64} {sz : Nat} {ex : Bool} {x0 x1 x2 x3 : Option Value} {u : Nat} : X z 61 55 [x0, x1, x2, x3] (.ref u :: st) cu (K, I, R, L, sz, ex) Q = ((K u).1 = 107 ∧ X z 61 58 [x0, x1, x2, x3] (.int (I u 2) :: st) cu (K, I, R, L, sz, ex) Q) := by
  rw [x61_55]
  rfl
theorem v61_58 {z : P0} {st : List Value} {cu : Nat × Nat} {Q : Res → Mem → Prop} {σ : Mem} {x0 x1 x2 x3 : Option Value} {u : Int32} : X z 61 58 [x0, x1, x2, x3] (.int u :: st) cu σ Q = (cat2 x2 = false ∧ X z 61 59 [x0, x1, x2, some (.int u)] (st) cu σ Q) := by
  rw [x61_58]
  obtain ⟨K, I, R, L, sz, ex⟩ := σ
  exact i_istore_n.trans sl_3
theorem v61_59 {z : P0} {st : List Value} {cu : Nat × Nat} {Q : Res → Mem → Prop} {σ : Mem} {x1 x2 x3 : Option Value} {u : Nat} : X z 61 59 [some (.ref u), x1, x2, x3] (st) cu σ Q = (X z 61 60 [some (.ref u), x1, x2, x3] (.ref u :: st) cu σ Q) := by
  rw [x61_59]
  rfl
theorem v61_60 {z : P0} {st : List Value} {cu : Nat × Nat} {Q : Res → Mem → Prop} {K : Nat → Nat × Nat} {I : Nat → Nat → Int32} {R : Nat → Nat → Option Nat} {L : Nat → Nat → Int64} {sz : Nat} {ex : Bool} {x0 x1 x2 x3 : Option Value} {u : Nat} : X z 61 60 [x0, x1, x2, x3] (.ref u :: st) cu (K, I, R, L, sz, ex) Q = ((K u).1 = 110 ∧ X z 61 63 [x0, x1, x2, x3] (va_rf (R u 0) :: st) cu (K, I, R, L, sz, ex) Q) := by
  rw [x61_60]
  rfl
theorem v61_63 {z : P0} {st : List Value} {cu : Nat × Nat} {Q : Res → Mem → Prop} {K : Nat → Nat × Nat} {I : Nat → Nat → Int32} {R : Nat → Nat → Option Nat} {L : Nat → Nat → Int64} {sz : Nat} {ex : Bool} {x0 x1 x2 x3 : Option Value} {u : Nat} : X z 61 63 [x0, x1, x2, x3] (.ref u :: st) cu (K, I, R, L, sz, ex) Q = ((K u).1 = 108 ∧ X z 61 66 [x0, x1, x2, x3] (va_rf (R u 0) :: st) cu (K, I, R, L, sz, ex) Q) := by
  rw [x61_63]
  rfl
theorem v61_66 {z : P0} {st : List Value} {cu : Nat × Nat} {Q : Res → Mem → Prop} {σ : Mem} {x0 x2 x3 : Option Value} {u : Int32} : X z 61 66 [x0, some (.int u), x2, x3] (st) cu σ Q = (X z 61 67 [x0, some (.int u), x2, x3] (.int u :: st) cu σ Q) := by
  rw [x61_66]
  rfl
theorem v61_67 {z : P0} {st : List Value} {cu : Nat × Nat} {Q : Res → Mem → Prop} {K : Nat → Nat × Nat} {I : Nat → Nat → Int32} {R : Nat → Nat → Option Nat} {L : Nat → Nat → Int64} {sz : Nat} {ex : Bool} {x0 x1 x2 x3 : Option Value} {u : Nat} {v : Int32} : X z 61 67 [x0, x1, x2, x3] (.int v :: .ref u :: st) cu (K, I, R, L, sz, ex) Q = (((K u).1 = 22 ∨ (K u).1 = 23 ∨ (K u).1 = 24 ∨ (K u).1 = 25) ∧ vp_in v (K u).2 ∧ X z 61 68 [x0, x1, x2, x3] (va_rf (R u v.toNatClampNeg) :: st) cu (K, I, R, L, sz, ex) Q) := by
  rw [x61_67]
  rfl
theorem v61_68 {z : P0} {st : List Value} {cu : Nat × Nat} {Q : Res → Mem → Prop} {σ : Mem} {x0 x1 x3 : Option Value} {u : Int32} : X z 61 68 [x0, x1, some (.int u), x3] (st) cu σ Q = (X z 61 69 [x0, x1, some (.int u), x3] (.int u :: st) cu σ Q) := by
  rw [x61_68]
  rfl
theorem v61_69 {z : P0} {st : List Value} {cu : Nat × Nat} {Q : Res → Mem → Prop} {K : Nat → Nat × Nat} {I : Nat → Nat → Int32} {R : Nat → Nat → Option Nat} {L : Nat → Nat → Int64} {sz : Nat} {ex : Bool} {x0 x1 x2 x3 : Option Value} {u : Nat} {v : Int32} : X z 61 69 [x0, x1, x2, x3] (.int v :: .ref u :: st) cu (K, I, R, L, sz, ex) Q = ((K u).1 = 107 ∧ X z 61 72 [x0, x1, x2, x3] (st) cu (K, up2 I u 2 v, R, L, sz, ex) Q) := by
  rw [x61_69]
  exact i_putI
theorem v61_72 {z : P0} {st : List Value} {cu : Nat × Nat} {Q : Res → Mem → Prop} {σ : Mem} {x0 x1 x2 : Option Value} {u : Int32} : X z 61 72 [x0, x1, x2, some (.int u)] (st) cu σ Q = (X z 61 73 [x0, x1, x2, some (.int u)] (.int u :: st) cu σ Q) := by
  rw [x61_72]
  rfl
theorem v61_73 {z : P0} {cu : Nat × Nat} {Q : Res → Mem → Prop} {σ : Mem} {x0 x1 x2 x3 : Option Value} {v : Int32} : X z 61 73 [x0, x1, x2, x3] ([.int v]) cu σ Q = (Q (.inl (some (.int v))) σ) := by
  rw [x61_73]
  exact propext ⟨fun h => h.2, fun h => ⟨trivial, h⟩⟩
theorem v62_0 {z : P0} {st : List Value} {cu : Nat × Nat} {Q : Res → Mem → Prop} {σ : Mem} {x1 x2 x3 : Option Value} {u : Nat} : X z 62 0 [some (.ref u), x1, x2, x3] (st) cu σ Q = (X z 62 1 [some (.ref u), x1, x2, x3] (.ref u :: st) cu σ Q) := by
  rw [x62_0]
  rfl
theorem v62_1 {z : P0} {st : List Value} {cu : Nat × Nat} {Q : Res → Mem → Prop} {σ : Mem} {x0 x2 x3 : Option Value} {u : Int32} : X z 62 1 [x0, some (.int u), x2, x3] (st) cu σ Q = (X z 62 2 [x0, some (.int u), x2, x3] (.int u :: st) cu σ Q) := by
  rw [x62_1]
  rfl
theorem u62_2 {z : P0} {ls : Lcs} {st : List Value} {K : Nat → Nat × Nat} {I : Nat → Nat → Int32} {R : Nat → Nat → Option Nat} {L : Nat → Nat → Int64} {sz : Nat} {ex : Bool} {Q : Res → Mem → Prop} {x : Nat} {a0 : Int32} : X z 62 2 ls (.int a0 :: .ref x :: st) (0, 0) (K, I, R, L, sz, ex) Q = ((K x).1 = 110 ∧ wsum st ≤ 8 ∧ X z 89 0 [some (.ref x), some (.int a0)] [] (0, 0) (K, I, R, L, sz, ex) (aftr (X z) mT 62 2 ls st (0, 0) Q)) := v62_2 (c := 0) (n := 0)
theorem v62_5 {z : P0} {st : List Value} {cu : Nat × Nat} {Q : Res → Mem → Prop} {σ : Mem} {x0 x1 x2 x3 : Option Value} {u : Int32} : X z 62 5 [x0, x1, x2, x3] (.int u :: st) cu σ Q = (if u = nI 0 then X z 62 8 [x0, x1, x2, x3] (st) cu σ Q else X z 62 18 [x0, x1, x2, x3] (st) cu σ Q) := by
  rw [x62_5]
  rw [nI_0]
  obtain ⟨K, I, R, L, sz, ex⟩ := σ
  exact br_ne
theorem v62_8 {z : P0} {st : List Value} {Q : Res → Mem → Prop} {K : Nat → Nat × Nat} {I : Nat → Nat → Int32} {R : Nat → Nat → Option Nat} {L : Nat → Nat → Int64} {sz : Nat} {ex : Bool} {x0 x1 x2 x3 : Option Value} : X z 62 8 [x0, x1, x2, x3] (st) (0, 0) (K, I, R, L, sz, ex) Q = (wsum st ≤ 8 ∧ Q (.inr 2) (K, I, R, L, sz, false)) := by
  rw [x62_8]
  exact i_throw (i := 0) (j := 0)
theorem v62_11 {z : P0} {st : List Value} {cu : Nat × Nat} {Q : Res → Mem → Prop} {σ : Mem} {x0 x1 x2 x3 : Option Value} {u : Nat} : X z 62 11 [x0, x1, x2, x3] (.ref u :: st) cu σ Q = (X z 62 12 [x0, x1, x2, x3] (.ref u :: .ref u :: st) cu σ Q) := by
  rw [x62_11]
  exact propext ⟨fun h => h.2, fun h => ⟨rfl, h⟩⟩
theorem v62_11i {z : P0} {st : List Value} {cu : Nat × Nat} {Q : Res → Mem → Prop} {σ : Mem} {x0 x1 x2 x3 : Option Value} {u : Int32} : X z 62 11 [x0, x1, x2, x3] (.int u :: st) cu σ Q = (X z 62 12 [x0, x1, x2, x3] (.int u :: .int u :: st) cu σ Q) := by
  rw [x62_11]
  exact propext ⟨fun h => h.2, fun h => ⟨rfl, h⟩⟩
theorem v62_18 {z : P0} {st : List Value} {cu : Nat × Nat} {Q : Res → Mem → Prop} {σ : Mem} {x0 x1 x3 : Option Value} {u : Int32} : X z 62 18 [x0, x1, some (.int u), x3] (st) cu σ Q = (X z 62 19 [x0, x1, some (.int u), x3] (.int u :: st) cu σ Q) := by
  rw [x62_18]
  rfl
theorem v62_19 {z : P0} {st : List Value} {cu : Nat × Nat} {Q : Res → Mem → Prop} {σ : Mem} {x0 x1 x2 x3 : Option Value} : X z 62 19 [x0, x1, x2, x3] (st) cu σ Q = (X z 62 20 [x0, x1, x2, x3] (.int (nI 4294967295) :: st) cu σ Q) := by
  rw [x62_19]
  rw [neg1]
  rfl
theorem v62_20 {z : P0} {st : List Value} {cu : Nat × Nat} {Q : Res → Mem → Prop} {σ : Mem} {x0 x1 x2 x3 : Option Value} {u v : Int32} : X z 62 20 [x0, x1, x2, x3] (.int v :: .int u :: st) cu σ Q = (if u = v then X z 62 41 [x0, x1, x2, x3] (st) cu σ Q else X z 62 23 [x0, x1, x2, x3] (st) cu σ Q) := by
  rw [x62_20]
  obtain ⟨K, I, R, L, sz, ex⟩ := σ
  exact br_ite
theorem v62_23 {z : P0} {st : List Value} {cu : Nat × Nat} {Q : Res → Mem → Prop} {σ : Mem} {x1 x2 x3 : Option Value} {u : Nat} : X z 62 23 [some (.ref u), x1, x2, x3] (st) cu σ Q = (X z 62 24 [some (.ref u), x1, x2, x3] (.ref u :: st) cu σ Q) := by
  rw [x62_23]
  rfl
theorem v62_24 {z : P0} {st : List Value} {cu : Nat × Nat} {Q : Res → Mem → Prop} {σ : Mem} {x0 x1 x3 : Option Value} {u : Int32} : X z 62 24 [x0, x1, some (.int u), x3] (st) cu σ Q = (X z 62 25 [x0, x1, some (.int u), x3] (.int u :: st) cu σ Q) := by
  rw [x62_24]
  rfl
theorem u62_25 {z : P0} {ls : Lcs} {st : List Value} {K : Nat → Nat × Nat} {I : Nat → Nat → Int32} {R : Nat → Nat → Option Nat} {L : Nat → Nat → Int64} {sz : Nat} {ex : Bool} {Q : Res → Mem → Prop} {x : Nat} {a0 : Int32} : X z 62 25 ls (.int a0 :: .ref x :: st) (0, 0) (K, I, R, L, sz, ex) Q = ((K x).1 = 110 ∧ wsum st ≤ 8 ∧ X z 90 0 [some (.ref x), some (.int a0)] [] (0, 0) (K, I, R, L, sz, ex) (aftr (X z) mT 62 25 ls st (0, 0) Q)) := v62_25 (c := 0) (n := 0)
theorem v62_28 {z : P0} {st : List Value} {cu : Nat × Nat} {Q : Res → Mem → Prop} {σ : Mem} {x0 x1 x2 x3 : Option Value} {u : Int32} : X z 62 28 [x0, x1, x2, x3] (.int u :: st) cu σ Q = (if u = nI 0 then X z 62 31 [x0, x1, x2, x3] (st) cu σ Q else X z 62 41 [x0, x1, x2, x3] (st) cu σ Q) := by
  rw [x62_28]
  rw [nI_0]
  obtain ⟨K, I, R, L, sz, ex⟩ := σ
  exact br_ne
theorem v62_31 {z : P0} {st : List Value} {Q : Res → Mem → Prop} {K : Nat → Nat × Nat} {I : Nat → Nat → Int32} {R : Nat → Nat → Option Nat} {L : Nat → Nat → Int64} {sz : Nat} {ex : Bool} {x0 x1 x2 x3 : Option Value} : X z 62 31 [x0, x1, x2, x3] (st) (0, 0) (K, I, R, L, sz, ex) Q = (wsum st ≤ 8 ∧ Q (.inr 2) (K, I, R, L, sz, false)) := by
  rw [x62_31]
  exact i_throw (i := 0) (j := 0)
theorem v62_34 {z : P0} {st : List Value} {cu : Nat × Nat} {Q : Res → Mem → Prop} {σ : Mem} {x0 x1 x2 x3 : Option Value} {u : Nat} : X z 62 34 [x0, x1, x2, x3] (.ref u :: st) cu σ Q = (X z 62 35 [x0, x1, x2, x3] (.ref u :: .ref u :: st) cu σ Q) := by
  rw [x62_34]
  exact propext ⟨fun h => h.2, fun h => ⟨rfl, h⟩⟩
theorem v62_34i {z : P0} {st : List Value} {cu : Nat × Nat} {Q : Res → Mem → Prop} {σ : Mem} {x0 x1 x2 x3 : Option Value} {u : Int32} : X z 62 34 [x0, x1, x2, x3] (.int u :: st) cu σ Q = (X z 62 35 [x0, x1, x2, x3] (.int u :: .int u :: st) cu σ Q) := by
  rw [x62_34]
  exact propext ⟨fun h => h.2, fun h => ⟨rfl, h⟩⟩
theorem v62_41 {z : P0} {st : List Value} {cu : Nat × Nat} {Q : Res → Mem → Prop} {σ : Mem} {x1 x2 x3 : Option Value} {u : Nat} : X z 62 41 [some (.ref u), x1, x2, x3] (st) cu σ Q = (X z 62 42 [some (.ref u), x1, x2, x3] (.ref u :: st) cu σ Q) := by
  rw [x62_41]
  rfl
theorem v62_42 {z : P0} {st : List Value} {cu : Nat × Nat} {Q : Res → Mem → Prop} {K : Nat → Nat × Nat} {I : Nat → Nat → Int32} {R : Nat → Nat → Option Nat} {L : Nat → Nat → Int64} {sz : Nat} {ex : Bool} {x0 x1 x2 x3 : Option Value} {u : Nat} : X z 62 42 [x0, x1, x2, x3] (.ref u :: st) cu (K, I, R, L, sz, ex) Q = ((K u).1 = 110 ∧ X z 62 45 [x0, x1, x2, x3] (va_rf (R u 1) :: st) cu (K, I, R, L, sz, ex) Q) := by
  rw [x62_42]
  rfl
theorem v62_45 {z : P0} {st : List Value} {cu : Nat × Nat} {Q : Res → Mem → Prop} {σ : Mem} {x1 x2 x3 : Option Value} {u : Nat} : X z 62 45 [some (.ref u), x1, x2, x3] (st) cu σ Q = (X z 62 46 [some (.ref u), x1, x2, x3] (.ref u :: st) cu σ Q) := by
  rw [x62_45]
  rfl
theorem v62_46 {z : P0} {st : List Value} {cu : Nat × Nat} {Q : Res → Mem → Prop} {K : Nat → Nat × Nat} {I : Nat → Nat → Int32} {R : Nat → Nat → Option Nat} {L : Nat → Nat → Int64} {sz : Nat} {ex : Bool} {x0 x1 x2 x3 : Option Value} {u : Nat} : X z 62 46 [x0, x1, x2, x3] (.ref u :: st) cu (K, I, R, L, sz, ex) Q = ((K u).1 = 110 ∧ X z 62 49 [x0, x1, x2, x3] (va_rf (R u 0) :: st) cu (K, I, R, L, sz, ex) Q) := by
  rw [x62_46]
  rfl
theorem u62_49 {z : P0} {ls : Lcs} {st : List Value} {K : Nat → Nat × Nat} {I : Nat → Nat → Int32} {R : Nat → Nat → Option Nat} {L : Nat → Nat → Int64} {sz : Nat} {ex : Bool} {Q : Res → Mem → Prop} {x : Nat} {a0 : Nat} : X z 62 49 ls (.ref a0 :: .ref x :: st) (0, 0) (K, I, R, L, sz, ex) Q = ((K x).1 = 103 ∧ wsum st ≤ 8 ∧ X z 24 0 [some (.ref x), some (.ref a0)] [] (0, 0) (K, I, R, L, sz, ex) (aftr (X z) mT 62 49 ls st (0, 0) Q)) := v62_49 (c := 0) (n := 0)
theorem v62_52 {z : P0} {st : List Value} {cu : Nat × Nat} {Q : Res → Mem → Prop} {σ : Mem} {x1 x2 x3 : Option Value} {u : Nat} : X z 62 52 [some (.ref u), x1, x2, x3] (st) cu σ Q = (X z 62 53 [some (.ref u), x1, x2, x3] (.ref u :: st) cu σ Q) := by
  rw [x62_52]
  rfl
theorem v62_53 {z : P0} {st : List Value} {cu : Nat × Nat} {Q : Res → Mem → Prop} {K : Nat → Nat × Nat} {I : Nat → Nat → Int32} {R : Nat → Nat → Option Nat} {L : Nat → Nat → Int64} {sz : Nat} {ex : Bool} {x0 x1 x2 x3 : Option Value} {u : Nat} : X z 62 53 [x0, x1, x2, x3] (.ref u :: st) cu (K, I, R, L, sz, ex) Q = ((K u).1 = 110 ∧ X z 62 56 [x0, x1, x2, x3] (va_rf (R u 0) :: st) cu (K, I, R, L, sz, ex) Q) := by
  rw [x62_53]
  rfl
theorem v62_56 {z : P0} {st : List Value} {cu : Nat × Nat} {Q : Res → Mem → Prop} {K : Nat → Nat × Nat} {I : Nat → Nat → Int32} {R : Nat → Nat → Option Nat} {L : Nat → Nat → Int64} {sz : Nat} {ex : Bool} {x0 x1 x2 x3 : Option Value} {u : Nat} : X z 62 56 [x0, x1, x2, x3] (.ref u :: st) cu (K, I, R, L, sz, ex) Q = ((K u).1 = 108 ∧ X z 62 59 [x0, x1, x2, x3] (va_rf (R u 0) :: st) cu (K, I, R, L, sz, ex) Q) := by
  rw [x62_56]
  rfl
theorem v62_59 {z : P0} {st : List Value} {cu : Nat × Nat} {Q : Res → Mem → Prop} {σ : Mem} {x0 x2 x3 : Option Value} {u : Int32} : X z 62 59 [x0, some (.int u), x2, x3] (st) cu σ Q = (X z 62 60 [x0, some (.int u), x2, x3] (.int u :: st) cu σ Q) := by
  rw [x62_59]
  rfl
theorem v62_60 {z : P0} {st : List Value} {cu : Nat × Nat} {Q : Res → Mem → Prop} {K : Nat → Nat × Nat} {I : Nat → Nat → Int32} {R : Nat → Nat → Option Nat} {L : Nat → Nat → Int64} {sz : Nat} {ex : Bool} {x0 x1 x2 x3 : Option Value} {u : Nat} {v : Int32} : X z 62 60 [x0, x1, x2, x3] (.int v :: .ref u :: st) cu (K, I, R, L, sz, ex) Q = (((K u).1 = 22 ∨ (K u).1 = 23 ∨ (K u).1 = 24 ∨ (K u).1 = 25) ∧ vp_in v (K u).2 ∧ X z 62 61 [x0, x1, x2, x3] (va_rf (R u v.toNatClampNeg) :: st) cu (K, I, R, L, sz, ex) Q) := by
  rw [x62_60]
  rfl
theorem v62_61 {z : P0} {st : List Value} {cu : Nat × Nat} {Q : Res → Mem → Prop} {K : Nat → Nat × Nat} {I : Nat → Nat → Int32} {R : Nat → Nat → Option Nat} {L : Nat → Nat → Int64} {sz : Nat} {ex : Bool} {x0 x1 x2 x3 : Option Value} {u : Nat} : X z 62 61 [x0, x1, x2, x3] (.ref u :: st) cu (K, I, R, L, sz, ex) Q = ((K u).1 = 107 ∧ X z 62 64 [x0, x1, x2, x3] (.int (I u 4) :: st) cu (K, I, R, L, sz, ex) Q) := by
  rw [x62_61]
  rfl
theorem v62_64 {z : P0} {st : List Value} {cu : Nat × Nat} {Q : Res → Mem → Prop} {σ : Mem} {x0 x1 x2 x3 : Option Value} {u : Int32} : X z 62 64 [x0, x1, x2, x3] (.int u :: st) cu σ Q = (cat2 x2 = false ∧ X z 62 65 [x0, x1, x2, some (.int u)] (st) cu σ Q) := by
  rw [x62_64]
  obtain ⟨K, I, R, L, sz, ex⟩ := σ
  exact i_istore_n.trans sl_3
theorem v62_65 {z : P0} {st : List Value} {cu : Nat × Nat} {Q : Res → Mem → Prop} {σ : Mem} {x1 x2 x3 : Option Value} {u : Nat} : X z 62 65 [some (.ref u), x1, x2, x3] (st) cu σ Q = (X z 62 66 [some (.ref u), x1, x2, x3] (.ref u :: st) cu σ Q) := by
  rw [x62_65]
  rfl
theorem v62_66 {z : P0} {st : List Value} {cu : Nat × Nat} {Q : Res → Mem → Prop} {K : Nat → Nat × Nat} {I : Nat → Nat → Int32} {R : Nat → Nat → Option Nat} {L : Nat → Nat → Int64} {sz : Nat} {ex : Bool} {x0 x1 x2 x3 : Option Value} {u : Nat} : X z 62 66 [x0, x1, x2, x3] (.ref u :: st) cu (K, I, R, L, sz, ex) Q = ((K u).1 = 110 ∧ X z 62 69 [x0, x1, x2, x3] (va_rf (R u 0) :: st) cu (K, I, R, L, sz, ex) Q) := by
  rw [x62_66]
  rfl
theorem v62_69 {z : P0} {st : List Value} {cu : Nat × Nat} {Q : Res → Mem → Prop} {K : Nat → Nat × Nat} {I : Nat → Nat → Int32} {R : Nat → Nat → Option Nat} {L : Nat → Nat → Int64} {sz : Nat} {ex : Bool} {x0 x1 x2 x3 : Option Value} {u : Nat} : X z 62 69 [x0, x1, x2, x3] (.ref u :: st) cu (K, I, R, L, sz, ex) Q = ((K u).1 = 108 ∧ X z 62 72 [x0, x1, x2, x3] (va_rf (R u 0) :: st) cu (K, I, R, L, sz, ex) Q) := by
  rw [x62_69]
  rfl
theorem v62_72 {z : P0} {st : List Value} {cu : Nat × Nat} {Q : Res → Mem → Prop} {σ : Mem} {x0 x2 x3 : Option Value} {u : Int32} : X z 62 72 [x0, some (.int u), x2, x3] (st) cu σ Q = (X z 62 73 [x0, some (.int u), x2, x3] (.int u :: st) cu σ Q) := by
  rw [x62_72]
  rfl
theorem v62_73 {z : P0} {st : List Value} {cu : Nat × Nat} {Q : Res → Mem → Prop} {K : Nat → Nat × Nat} {I : Nat → Nat → Int32} {R : Nat → Nat → Option Nat} {L : Nat → Nat → Int64} {sz : Nat} {ex : Bool} {x0 x1 x2 x3 : Option Value} {u : Nat} {v : Int32} : X z 62 73 [x0, x1, x2, x3] (.int v :: .ref u :: st) cu (K, I, R, L, sz, ex) Q = (((K u).1 = 22 ∨ (K u).1 = 23 ∨ (K u).1 = 24 ∨ (K u).1 = 25) ∧ vp_in v (K u).2 ∧ X z 62 74 [x0, x1, x2, x3] (va_rf (R u v.toNatClampNeg) :: st) cu (K, I, R, L, sz, ex) Q) := by
  rw [x62_73]
  rfl
theorem v62_74 {z : P0} {st : List Value} {cu : Nat × Nat} {Q : Res → Mem → Prop} {σ : Mem} {x0 x1 x3 : Option Value} {u : Int32} : X z 62 74 [x0, x1, some (.int u), x3] (st) cu σ Q = (X z 62 75 [x0, x1, some (.int u), x3] (.int u :: st) cu σ Q) := by
  rw [x62_74]
  rfl
theorem v62_75 {z : P0} {st : List Value} {cu : Nat × Nat} {Q : Res → Mem → Prop} {K : Nat → Nat × Nat} {I : Nat → Nat → Int32} {R : Nat → Nat → Option Nat} {L : Nat → Nat → Int64} {sz : Nat} {ex : Bool} {x0 x1 x2 x3 : Option Value} {u : Nat} {v : Int32} : X z 62 75 [x0, x1, x2, x3] (.int v :: .ref u :: st) cu (K, I, R, L, sz, ex) Q = ((K u).1 = 107 ∧ X z 62 78 [x0, x1, x2, x3] (st) cu (K, up2 I u 4 v, R, L, sz, ex) Q) := by
  rw [x62_75]
  exact i_putI
theorem v62_78 {z : P0} {st : List Value} {cu : Nat × Nat} {Q : Res → Mem → Prop} {σ : Mem} {x0 x1 x2 : Option Value} {u : Int32} : X z 62 78 [x0, x1, x2, some (.int u)] (st) cu σ Q = (X z 62 79 [x0, x1, x2, some (.int u)] (.int u :: st) cu σ Q) := by
  rw [x62_78]
  rfl
theorem v62_79 {z : P0} {cu : Nat × Nat} {Q : Res → Mem → Prop} {σ : Mem} {x0 x1 x2 x3 : Option Value} {v : Int32} : X z 62 79 [x0, x1, x2, x3] ([.int v]) cu σ Q = (Q (.inl (some (.int v))) σ) := by
  rw [x62_79]
  exact propext ⟨fun h => h.2, fun h => ⟨trivial, h⟩⟩
theorem v63_0 {z : P0} {st : List Value} {cu : Nat × Nat} {Q : Res → Mem → Prop} {σ : Mem} {x1 x2 : Option Value} {u : Nat} : X z 63 0 [some (.ref u), x1, x2] (st) cu σ Q = (X z 63 1 [some (.ref u), x1, x2] (.ref u :: st) cu σ Q) := by
  rw [x63_0]
  rfl
theorem v63_1 {z : P0} {st : List Value} {cu : Nat × Nat} {Q : Res → Mem → Prop} {σ : Mem} {x0 x2 : Option Value} {u : Int32} : X z 63 1 [x0, some (.int u), x2] (st) cu σ Q = (X z 63 2 [x0, some (.int u), x2] (.int u :: st) cu σ Q) := by
  rw [x63_1]
  rfl
theorem u63_2 {z : P0} {ls : Lcs} {st : List Value} {K : Nat → Nat × Nat} {I : Nat → Nat → Int32} {R : Nat → Nat → Option Nat} {L : Nat → Nat → Int64} {sz : Nat} {ex : Bool} {Q : Res → Mem → Prop} {x : Nat} {a0 : Int32} : X z 63 2 ls (.int a0 :: .ref x :: st) (0, 0) (K, I, R, L, sz, ex) Q = ((K x).1 = 110 ∧ wsum st ≤ 8 ∧ X z 89 0 [some (.ref x), some (.int a0)] [] (0, 0) (K, I, R, L, sz, ex) (aftr (X z) mT 63 2 ls st (0, 0) Q)) := v63_2 (c := 0) (n := 0)
theorem v63_5 {z : P0} {st : List Value} {cu : Nat × Nat} {Q : Res → Mem → Prop} {σ : Mem} {x0 x1 x2 : Option Value} {u : Int32} : X z 63 5 [x0, x1, x2] (.int u :: st) cu σ Q = (if u = nI 0 then X z 63 8 [x0, x1, x2] (st) cu σ Q else X z 63 18 [x0, x1, x2] (st) cu σ Q) := by
  rw [x63_5]
  rw [nI_0]
  obtain ⟨K, I, R, L, sz, ex⟩ := σ
  exact br_ne
theorem v63_8 {z : P0} {st : List Value} {Q : Res → Mem → Prop} {K : Nat → Nat × Nat} {I : Nat → Nat → Int32} {R : Nat → Nat → Option Nat} {L : Nat → Nat → Int64} {sz : Nat} {ex : Bool} {x0 x1 x2 : Option Value} : X z 63 8 [x0, x1, x2] (st) (0, 0) (K, I, R, L, sz, ex) Q = (wsum st ≤ 8 ∧ Q (.inr 2) (K, I, R, L, sz, false)) := by
  rw [x63_8]
  exact i_throw (i := 0) (j := 0)
theorem v63_11 {z : P0} {st : List Value} {cu : Nat × Nat} {Q : Res → Mem → Prop} {σ : Mem} {x0 x1 x2 : Option Value} {u : Nat} : X z 63 11 [x0, x1, x2] (.ref u :: st) cu σ Q = (X z 63 12 [x0, x1, x2] (.ref u :: .ref u :: st) cu σ Q) := by
  rw [x63_11]
  exact propext ⟨fun h => h.2, fun h => ⟨rfl, h⟩⟩
theorem v63_11i {z : P0} {st : List Value} {cu : Nat × Nat} {Q : Res → Mem → Prop} {σ : Mem} {x0 x1 x2 : Option Value} {u : Int32} : X z 63 11 [x0, x1, x2] (.int u :: st) cu σ Q = (X z 63 12 [x0, x1, x2] (.int u :: .int u :: st) cu σ Q) := by
  rw [x63_11]
  exact propext ⟨fun h => h.2, fun h => ⟨rfl, h⟩⟩
theorem v63_18 {z : P0} {st : List Value} {cu : Nat × Nat} {Q : Res → Mem → Prop} {σ : Mem} {x1 x2 : Option Value} {u : Nat} : X z 63 18 [some (.ref u), x1, x2] (st) cu σ Q = (X z 63 19 [some (.ref u), x1, x2] (.ref u :: st) cu σ Q) := by
  rw [x63_18]
  rfl
theorem v63_19 {z : P0} {st : List Value} {cu : Nat × Nat} {Q : Res → Mem → Prop} {K : Nat → Nat × Nat} {I : Nat → Nat → Int32} {R : Nat → Nat → Option Nat} {L : Nat → Nat → Int64} {sz : Nat} {ex : Bool} {x0 x1 x2 : Option Value} {u : Nat} : X z 63 19 [x0, x1, x2] (.ref u :: st) cu (K, I, R, L, sz, ex) Q = ((K u).1 = 110 ∧ X z 63 22 [x0, x1, x2] (va_rf (R u 1) :: st) cu (K, I, R, L, sz, ex) Q) := by
  rw [x63_19]
  rfl
theorem v63_22 {z : P0} {st : List Value} {cu : Nat × Nat} {Q : Res → Mem → Prop} {σ : Mem} {x1 x2 : Option Value} {u : Nat} : X z 63 22 [some (.ref u), x1, x2] (st) cu σ Q = (X z 63 23 [some (.ref u), x1, x2] (.ref u :: st) cu σ Q) := by
  rw [x63_22]
  rfl
theorem v63_23 {z : P0} {st : List Value} {cu : Nat × Nat} {Q : Res → Mem → Prop} {K : Nat → Nat × Nat} {I : Nat → Nat → Int32} {R : Nat → Nat → Option Nat} {L : Nat → Nat → Int64} {sz : Nat} {ex : Bool} {x0 x1 x2 : Option Value} {u : Nat} : X z 63 23 [x0, x1, x2] (.ref u :: st) cu (K, I, R, L, sz, ex) Q = ((K u).1 = 110 ∧ X z 63 26 [x0, x1, x2] (va_rf (R u 0) :: st) cu (K, I, R, L, sz, ex) Q) := by
  rw [x63_23]
  rfl
theorem u63_26 {z : P0} {ls : Lcs} {st : List Value} {K : Nat → Nat × Nat} {I : Nat → Nat → Int32} {R : Nat → Nat → Option Nat} {L : Nat → Nat → Int64} {sz : Nat} {ex : Bool} {Q : Res → Mem → Prop} {x : Nat} {a0 : Nat} : X z 63 26 ls (.ref a0 :: .ref x :: st) (0, 0) (K, I, R, L, sz, ex) Q = ((K x).1 = 103 ∧ wsum st ≤ 8 ∧ X z 24 0 [some (.ref x), some (.ref a0)] [] (0, 0) (K, I, R, L, sz, ex) (aftr (X z) mT 63 26 ls st (0, 0) Q)) := v63_26 (c := 0) (n := 0)
theorem v63_29 {z : P0} {st : List Value} {cu : Nat × Nat} {Q : Res → Mem → Prop} {σ : Mem} {x1 x2 : Option Value} {u : Nat} : X z 63 29 [some (.ref u), x1, x2] (st) cu σ Q = (X z 63 30 [some (.ref u), x1, x2] (.ref u :: st) cu σ Q) := by
  rw [x63_29]
  rfl
theorem v63_30 {z : P0} {st : List Value} {cu : Nat × Nat} {Q : Res → Mem → Prop} {K : Nat → Nat × Nat} {I : Nat → Nat → Int32} {R : Nat → Nat → Option Nat} {L : Nat → Nat → Int64} {sz : Nat} {ex : Bool} {x0 x1 x2 : Option Value} {u : Nat} : X z 63 30 [x0, x1, x2] (.ref u :: st) cu (K, I, R, L, sz, ex) Q = ((K u).1 = 110 ∧ X z 63 33 [x0, x1, x2] (va_rf (R u 0) :: st) cu (K, I, R, L, sz, ex) Q) := by
  rw [x63_30]
  rfl
theorem v63_33 {z : P0} {st : List Value} {cu : Nat × Nat} {Q : Res → Mem → Prop} {K : Nat → Nat × Nat} {I : Nat → Nat → Int32} {R : Nat → Nat → Option Nat} {L : Nat → Nat → Int64} {sz : Nat} {ex : Bool} {x0 x1 x2 : Option Value} {u : Nat} : X z 63 33 [x0, x1, x2] (.ref u :: st) cu (K, I, R, L, sz, ex) Q = ((K u).1 = 108 ∧ X z 63 36 [x0, x1, x2] (va_rf (R u 0) :: st) cu (K, I, R, L, sz, ex) Q) := by
  rw [x63_33]
  rfl
theorem v63_36 {z : P0} {st : List Value} {cu : Nat × Nat} {Q : Res → Mem → Prop} {σ : Mem} {x0 x2 : Option Value} {u : Int32} : X z 63 36 [x0, some (.int u), x2] (st) cu σ Q = (X z 63 37 [x0, some (.int u), x2] (.int u :: st) cu σ Q) := by
  rw [x63_36]
  rfl
theorem v63_37 {z : P0} {st : List Value} {cu : Nat × Nat} {Q : Res → Mem → Prop} {K : Nat → Nat × Nat} {I : Nat → Nat → Int32} {R : Nat → Nat → Option Nat} {L : Nat → Nat → Int64} {sz : Nat} {ex : Bool} {x0 x1 x2 : Option Value} {u : Nat} {v : Int32} : X z 63 37 [x0, x1, x2] (.int v :: .ref u :: st) cu (K, I, R, L, sz, ex) Q = (((K u).1 = 22 ∨ (K u).1 = 23 ∨ (K u).1 = 24 ∨ (K u).1 = 25) ∧ vp_in v (K u).2 ∧ X z 63 38 [x0, x1, x2] (va_rf (R u v.toNatClampNeg) :: st) cu (K, I, R, L, sz, ex) Q) := by
  rw [x63_37]
  rfl
theorem v63_38 {z : P0} {st : List Value} {cu : Nat × Nat} {Q : Res → Mem → Prop} {σ : Mem} {x0 x1 : Option Value} {u : Int32} : X z 63 38 [x0, x1, some (.int u)] (st) cu σ Q = (X z 63 39 [x0, x1, some (.int u)] (.int u :: st) cu σ Q) := by
  rw [x63_38]
  rfl
theorem v63_39 {z : P0} {st : List Value} {cu : Nat × Nat} {Q : Res → Mem → Prop} {K : Nat → Nat × Nat} {I : Nat → Nat → Int32} {R : Nat → Nat → Option Nat} {L : Nat → Nat → Int64} {sz : Nat} {ex : Bool} {x0 x1 x2 : Option Value} {u : Nat} {v : Int32} : X z 63 39 [x0, x1, x2] (.int v :: .ref u :: st) cu (K, I, R, L, sz, ex) Q = ((v = nI 0 ∨ v = nI 1) ∧ (K u).1 = 107 ∧ X z 63 42 [x0, x1, x2] (st) cu (K, up2 I u 5 v, R, L, sz, ex) Q) := by
  rw [x63_39]
  rw [nI_0, one1]
  exact i_putZ
theorem v63_42 {z : P0} {st : List Value} {cu : Nat × Nat} {Q : Res → Mem → Prop} {σ : Mem} {x1 x2 : Option Value} {u : Nat} : X z 63 42 [some (.ref u), x1, x2] (st) cu σ Q = (X z 63 43 [some (.ref u), x1, x2] (.ref u :: st) cu σ Q) := by
  rw [x63_42]
  rfl
theorem v63_43 {z : P0} {st : List Value} {cu : Nat × Nat} {Q : Res → Mem → Prop} {K : Nat → Nat × Nat} {I : Nat → Nat → Int32} {R : Nat → Nat → Option Nat} {L : Nat → Nat → Int64} {sz : Nat} {ex : Bool} {x0 x1 x2 : Option Value} {u : Nat} : X z 63 43 [x0, x1, x2] (.ref u :: st) cu (K, I, R, L, sz, ex) Q = ((K u).1 = 110 ∧ X z 63 46 [x0, x1, x2] (va_rf (R u 0) :: st) cu (K, I, R, L, sz, ex) Q) := by
  rw [x63_43]
  rfl
theorem u63_46 {z : P0} {ls : Lcs} {st : List Value} {K : Nat → Nat × Nat} {I : Nat → Nat → Int32} {R : Nat → Nat → Option Nat} {L : Nat → Nat → Int64} {sz : Nat} {ex : Bool} {Q : Res → Mem → Prop} {x : Nat} : X z 63 46 ls (.ref x :: st) (0, 0) (K, I, R, L, sz, ex) Q = ((K x).1 = 108 ∧ wsum st ≤ 8 ∧ X z 50 0 [some (.ref x), none, none] [] (0, 0) (K, I, R, L, sz, ex) (aftr (X z) mT 63 46 ls st (0, 0) Q)) := v63_46 (c := 0) (n := 0)
theorem v63_49 {z : P0} {cu : Nat × Nat} {Q : Res → Mem → Prop} {σ : Mem} {x0 x1 x2 : Option Value} {v : Int32} : X z 63 49 [x0, x1, x2] ([.int v]) cu σ Q = (Q (.inl (some (.int v))) σ) := by
  rw [x63_49]
  exact propext ⟨fun h => h.2, fun h => ⟨trivial, h⟩⟩
theorem v64_0 {z : P0} {st : List Value} {cu : Nat × Nat} {Q : Res → Mem → Prop} {σ : Mem} {x0 x2 x3 : Option Value} {u : Int32} : X z 64 0 [x0, some (.int u), x2, x3] (st) cu σ Q = (X z 64 1 [x0, some (.int u), x2, x3] (.int u :: st) cu σ Q) := by
  rw [x64_0]
  rfl
theorem u64_1 {z : P0} {ls : Lcs} {st : List Value} {K : Nat → Nat × Nat} {I : Nat → Nat → Int32} {R : Nat → Nat → Option Nat} {L : Nat → Nat → Int64} {sz : Nat} {ex : Bool} {Q : Res → Mem → Prop} {a0 : Int32} : X z 64 1 ls (.int a0 :: st) (0, 0) (K, I, R, L, sz, ex) Q = (wsum st ≤ 8 ∧ X z 86 0 [some (.int a0)] [] (0, 0) (K, I, R, L, sz, ex) (aftr (X z) mT 64 1 ls st (0, 0) Q)) := v64_1 (c := 0) (n := 0)
theorem v64_4 {z : P0} {st : List Value} {cu : Nat × Nat} {Q : Res → Mem → Prop} {σ : Mem} {x0 x1 x2 x3 : Option Value} {u : Int32} : X z 64 4 [x0, x1, x2, x3] (.int u :: st) cu σ Q = (if u = nI 0 then X z 64 7 [x0, x1, x2, x3] (st) cu σ Q else X z 64 17 [x0, x1, x2, x3] (st) cu σ Q) := by
  rw [x64_4]
  rw [nI_0]
  obtain ⟨K, I, R, L, sz, ex⟩ := σ
  exact br_ne
theorem v64_7 {z : P0} {st : List Value} {Q : Res → Mem → Prop} {K : Nat → Nat × Nat} {I : Nat → Nat → Int32} {R : Nat → Nat → Option Nat} {L : Nat → Nat → Int64} {sz : Nat} {ex : Bool} {x0 x1 x2 x3 : Option Value} : X z 64 7 [x0, x1, x2, x3] (st) (0, 0) (K, I, R, L, sz, ex) Q = (wsum st ≤ 8 ∧ Q (.inr 2) (K, I, R, L, sz, false)) := by
  rw [x64_7]
  exact i_throw (i := 0) (j := 0)
theorem v64_10 {z : P0} {st : List Value} {cu : Nat × Nat} {Q : Res → Mem → Prop} {σ : Mem} {x0 x1 x2 x3 : Option Value} {u : Nat} : X z 64 10 [x0, x1, x2, x3] (.ref u :: st) cu σ Q = (X z 64 11 [x0, x1, x2, x3] (.ref u :: .ref u :: st) cu σ Q) := by
  rw [x64_10]
  exact propext ⟨fun h => h.2, fun h => ⟨rfl, h⟩⟩
theorem v64_10i {z : P0} {st : List Value} {cu : Nat × Nat} {Q : Res → Mem → Prop} {σ : Mem} {x0 x1 x2 x3 : Option Value} {u : Int32} : X z 64 10 [x0, x1, x2, x3] (.int u :: st) cu σ Q = (X z 64 11 [x0, x1, x2, x3] (.int u :: .int u :: st) cu σ Q) := by
  rw [x64_10]
  exact propext ⟨fun h => h.2, fun h => ⟨rfl, h⟩⟩
theorem v64_17 {z : P0} {st : List Value} {cu : Nat × Nat} {Q : Res → Mem → Prop} {σ : Mem} {x0 x2 x3 : Option Value} {u : Int32} : X z 64 17 [x0, some (.int u), x2, x3] (st) cu σ Q = (X z 64 18 [x0, some (.int u), x2, x3] (.int u :: st) cu σ Q) := by
  rw [x64_17]
  rfl
theorem v64_18 {z : P0} {st : List Value} {cu : Nat × Nat} {Q : Res → Mem → Prop} {σ : Mem} {x0 x1 x3 : Option Value} {u : Int32} : X z 64 18 [x0, x1, some (.int u), x3] (st) cu σ Q = (X z 64 19 [x0, x1, some (.int u), x3] (.int u :: st) cu σ Q) := by
  rw [x64_18]
  rfl
theorem u64_19 {z : P0} {ls : Lcs} {st : List Value} {K : Nat → Nat × Nat} {I : Nat → Nat → Int32} {R : Nat → Nat → Option Nat} {L : Nat → Nat → Int64} {sz : Nat} {ex : Bool} {Q : Res → Mem → Prop} {a0 : Int32} {a1 : Int32} : X z 64 19 ls (.int a1 :: .int a0 :: st) (0, 0) (K, I, R, L, sz, ex) Q = (wsum st ≤ 8 ∧ X z 87 0 [some (.int a0), some (.int a1)] [] (0, 0) (K, I, R, L, sz, ex) (aftr (X z) mT 64 19 ls st (0, 0) Q)) := v64_19 (c := 0) (n := 0)
theorem v64_22 {z : P0} {st : List Value} {cu : Nat × Nat} {Q : Res → Mem → Prop} {σ : Mem} {x0 x1 x2 x3 : Option Value} {u : Int32} : X z 64 22 [x0, x1, x2, x3] (.int u :: st) cu σ Q = (if u = nI 0 then X z 64 25 [x0, x1, x2, x3] (st) cu σ Q else X z 64 35 [x0, x1, x2, x3] (st) cu σ Q) := by
  rw [x64_22]
  rw [nI_0]
  obtain ⟨K, I, R, L, sz, ex⟩ := σ
  exact br_ne
theorem v64_25 {z : P0} {st : List Value} {Q : Res → Mem → Prop} {K : Nat → Nat × Nat} {I : Nat → Nat → Int32} {R : Nat → Nat → Option Nat} {L : Nat → Nat → Int64} {sz : Nat} {ex : Bool} {x0 x1 x2 x3 : Option Value} : X z 64 25 [x0, x1, x2, x3] (st) (0, 0) (K, I, R, L, sz, ex) Q = (wsum st ≤ 8 ∧ Q (.inr 0) (K, I, R, L, sz, false)) := by
  rw [x64_25]
  exact i_throw (i := 0) (j := 0)
theorem v64_28 {z : P0} {st : List Value} {cu : Nat × Nat} {Q : Res → Mem → Prop} {σ : Mem} {x0 x1 x2 x3 : Option Value} {u : Nat} : X z 64 28 [x0, x1, x2, x3] (.ref u :: st) cu σ Q = (X z 64 29 [x0, x1, x2, x3] (.ref u :: .ref u :: st) cu σ Q) := by
  rw [x64_28]
  exact propext ⟨fun h => h.2, fun h => ⟨rfl, h⟩⟩
theorem v64_28i {z : P0} {st : List Value} {cu : Nat × Nat} {Q : Res → Mem → Prop} {σ : Mem} {x0 x1 x2 x3 : Option Value} {u : Int32} : X z 64 28 [x0, x1, x2, x3] (.int u :: st) cu σ Q = (X z 64 29 [x0, x1, x2, x3] (.int u :: .int u :: st) cu σ Q) := by
  rw [x64_28]
  exact propext ⟨fun h => h.2, fun h => ⟨rfl, h⟩⟩
theorem v64_35 {z : P0} {st : List Value} {cu : Nat × Nat} {Q : Res → Mem → Prop} {σ : Mem} {x1 x2 x3 : Option Value} {u : Nat} : X z 64 35 [some (.ref u), x1, x2, x3] (st) cu σ Q = (X z 64 36 [some (.ref u), x1, x2, x3] (.ref u :: st) cu σ Q) := by
  rw [x64_35]
  rfl
theorem v64_36 {z : P0} {st : List Value} {cu : Nat × Nat} {Q : Res → Mem → Prop} {K : Nat → Nat × Nat} {I : Nat → Nat → Int32} {R : Nat → Nat → Option Nat} {L : Nat → Nat → Int64} {sz : Nat} {ex : Bool} {x0 x1 x2 x3 : Option Value} {u : Nat} : X z 64 36 [x0, x1, x2, x3] (.ref u :: st) cu (K, I, R, L, sz, ex) Q = ((K u).1 = 110 ∧ X z 64 39 [x0, x1, x2, x3] (va_rf (R u 1) :: st) cu (K, I, R, L, sz, ex) Q) := by
  rw [x64_36]
  rfl
theorem v64_39 {z : P0} {st : List Value} {cu : Nat × Nat} {Q : Res → Mem → Prop} {σ : Mem} {x1 x2 x3 : Option Value} {u : Nat} : X z 64 39 [some (.ref u), x1, x2, x3] (st) cu σ Q = (X z 64 40 [some (.ref u), x1, x2, x3] (.ref u :: st) cu σ Q) := by
  rw [x64_39]
  rfl
theorem v64_40 {z : P0} {st : List Value} {cu : Nat × Nat} {Q : Res → Mem → Prop} {K : Nat → Nat × Nat} {I : Nat → Nat → Int32} {R : Nat → Nat → Option Nat} {L : Nat → Nat → Int64} {sz : Nat} {ex : Bool} {x0 x1 x2 x3 : Option Value} {u : Nat} : X z 64 40 [x0, x1, x2, x3] (.ref u :: st) cu (K, I, R, L, sz, ex) Q = ((K u).1 = 110 ∧ X z 64 43 [x0, x1, x2, x3] (va_rf (R u 0) :: st) cu (K, I, R, L, sz, ex) Q) := by
  rw [x64_40]
  rfl
theorem u64_43 {z : P0} {ls : Lcs} {st : List Value} {K : Nat → Nat × Nat} {I : Nat → Nat → Int32} {R : Nat → Nat → Option Nat} {L : Nat → Nat → Int64} {sz : Nat} {ex : Bool} {Q : Res → Mem → Prop} {x : Nat} {a0 : Nat} : X z 64 43 ls (.ref a0 :: .ref x :: st) (0, 0) (K, I, R, L, sz, ex) Q = ((K x).1 = 103 ∧ wsum st ≤ 8 ∧ X z 24 0 [some (.ref x), some (.ref a0)] [] (0, 0) (K, I, R, L, sz, ex) (aftr (X z) mT 64 43 ls st (0, 0) Q)) := v64_43 (c := 0) (n := 0)
theorem v64_46 {z : P0} {st : List Value} {cu : Nat × Nat} {Q : Res → Mem → Prop} {σ : Mem} {x1 x2 x3 : Option Value} {u : Nat} : X z 64 46 [some (.ref u), x1, x2, x3] (st) cu σ Q = (X z 64 47 [some (.ref u), x1, x2, x3] (.ref u :: st) cu σ Q) := by
  rw [x64_46]
  rfl
theorem v64_47 {z : P0} {st : List Value} {cu : Nat × Nat} {Q : Res → Mem → Prop} {K : Nat → Nat × Nat} {I : Nat → Nat → Int32} {R : Nat → Nat → Option Nat} {L : Nat → Nat → Int64} {sz : Nat} {ex : Bool} {x0 x1 x2 x3 : Option Value} {u : Nat} : X z 64 47 [x0, x1, x2, x3] (.ref u :: st) cu (K, I, R, L, sz, ex) Q = ((K u).1 = 110 ∧ X z 64 50 [x0, x1, x2, x3] (va_rf (R u 0) :: st) cu (K, I, R, L, sz, ex) Q) := by
  rw [x64_47]
  rfl
theorem v64_50 {z : P0} {st : List Value} {cu : Nat × Nat} {Q : Res → Mem → Prop} {K : Nat → Nat × Nat} {I : Nat → Nat → Int32} {R : Nat → Nat → Option Nat} {L : Nat → Nat → Int64} {sz : Nat} {ex : Bool} {x0 x1 x2 x3 : Option Value} {u : Nat} : X z 64 50 [x0, x1, x2, x3] (.ref u :: st) cu (K, I, R, L, sz, ex) Q = ((K u).1 = 108 ∧ X z 64 53 [x0, x1, x2, x3] (va_rf (R u 5) :: st) cu (K, I, R, L, sz, ex) Q) := by
  rw [x64_50]
  rfl
theorem v64_53 {z : P0} {st : List Value} {cu : Nat × Nat} {Q : Res → Mem → Prop} {σ : Mem} {x0 x2 x3 : Option Value} {u : Int32} : X z 64 53 [x0, some (.int u), x2, x3] (st) cu σ Q = (X z 64 54 [x0, some (.int u), x2, x3] (.int u :: st) cu σ Q) := by
  rw [x64_53]
  rfl
theorem v64_54 {z : P0} {st : List Value} {cu : Nat × Nat} {Q : Res → Mem → Prop} {K : Nat → Nat × Nat} {I : Nat → Nat → Int32} {R : Nat → Nat → Option Nat} {L : Nat → Nat → Int64} {sz : Nat} {ex : Bool} {x0 x1 x2 x3 : Option Value} {u : Nat} {v : Int32} : X z 64 54 [x0, x1, x2, x3] (.int v :: .ref u :: st) cu (K, I, R, L, sz, ex) Q = (((K u).1 = 20 ∨ (K u).1 = 50) ∧ vp_in v (K u).2 ∧ X z 64 55 [x0, x1, x2, x3] (.int (I u v.toNatClampNeg) :: st) cu (K, I, R, L, sz, ex) Q) := by
  rw [x64_54]
  rfl
theorem v64_55 {z : P0} {st : List Value} {cu : Nat × Nat} {Q : Res → Mem → Prop} {σ : Mem} {x0 x1 x2 x3 : Option Value} {u : Int32} : X z 64 55 [x0, x1, x2, x3] (.int u :: st) cu σ Q = (cat2 x2 = false ∧ X z 64 56 [x0, x1, x2, some (.int u)] (st) cu σ Q) := by
  rw [x64_55]
  obtain ⟨K, I, R, L, sz, ex⟩ := σ
  exact i_istore_n.trans sl_3
theorem v64_56 {z : P0} {st : List Value} {cu : Nat × Nat} {Q : Res → Mem → Prop} {σ : Mem} {x1 x2 x3 : Option Value} {u : Nat} : X z 64 56 [some (.ref u), x1, x2, x3] (st) cu σ Q = (X z 64 57 [some (.ref u), x1, x2, x3] (.ref u :: st) cu σ Q) := by
  rw [x64_56]
  rfl
theorem v64_57 {z : P0} {st : List Value} {cu : Nat × Nat} {Q : Res → Mem → Prop} {K : Nat → Nat × Nat} {I : Nat → Nat → Int32} {R : Nat → Nat → Option Nat} {L : Nat → Nat → Int64} {sz : Nat} {ex : Bool} {x0 x1 x2 x3 : Option Value} {u : Nat} : X z 64 57 [x0, x1, x2, x3] (.ref u :: st) cu (K, I, R, L, sz, ex) Q = ((K u).1 = 110 ∧ X z 64 60 [x0, x1, x2, x3] (va_rf (R u 0) :: st) cu (K, I, R, L, sz, ex) Q) := by
  rw [x64_57]
  rfl
theorem v64_60 {z : P0} {st : List Value} {cu : Nat × Nat} {Q : Res → Mem → Prop} {K : Nat → Nat × Nat} {I : Nat → Nat → Int32} {R : Nat → Nat → Option Nat} {L : Nat → Nat → Int64} {sz : Nat} {ex : Bool} {x0 x1 x2 x3 : Option Value} {u : Nat} : X z 64 60 [x0, x1, x2, x3] (.ref u :: st) cu (K, I, R, L, sz, ex) Q = ((K u).1 = 108 ∧ X z 64 63 [x0, x1, x2, x3] (va_rf (R u 5) :: st) cu (K, I, R, L, sz, ex) Q) := by
  rw [x64_60]
  rfl
theorem v64_63 {z : P0} {st : List Value} {cu : Nat × Nat} {Q : Res → Mem → Prop} {σ : Mem} {x0 x2 x3 : Option Value} {u : Int32} : X z 64 63 [x0, some (.int u), x2, x3] (st) cu σ Q = (X z 64 64 [x0, some (.int u), x2, x3] (.int u :: st) cu σ Q) := by
  rw [x64_63]
  rfl
theorem v64_64 {z : P0} {st : List Value} {cu : Nat × Nat} {Q : Res → Mem → Prop} {σ : Mem} {x0 x1 x3 : Option Value} {u : Int32} : X z 64 64 [x0, x1, some (.int u), x3] (st) cu σ Q = (X z 64 65 [x0, x1, some (.int u), x3] (.int u :: st) cu σ Q) := by
  rw [x64_64]
  rfl
theorem v64_65 {z : P0} {st : List Value} {cu : Nat × Nat} {Q : Res → Mem → Prop} {K : Nat → Nat × Nat} {I : Nat → Nat → Int32} {R : Nat → Nat → Option Nat} {L : Nat → Nat → Int64} {sz : Nat} {ex : Bool} {x0 x1 x2 x3 : Option Value} {u : Nat} {j v : Int32} : X z 64 65 [x0, x1, x2, x3] (.int v :: .int j :: .ref u :: st) cu (K, I, R, L, sz, ex) Q = ((K u).1 = 20 ∧ vp_in j (K u).2 ∧ X z 64 66 [x0, x1, x2, x3] (st) cu (K, up2 I u j.toNatClampNeg v, R, L, sz, ex) Q) := by
  rw [x64_65]
  rfl
theorem v64_66 {z : P0} {st : List Value} {cu : Nat × Nat} {Q : Res → Mem → Prop} {σ : Mem} {x0 x1 x2 : Option Value} {u : Int32} : X z 64 66 [x0, x1, x2, some (.int u)] (st) cu σ Q = (X z 64 67 [x0, x1, x2, some (.int u)] (.int u :: st) cu σ Q) := by
  rw [x64_66]
  rfl
theorem v64_67 {z : P0} {cu : Nat × Nat} {Q : Res → Mem → Prop} {σ : Mem} {x0 x1 x2 x3 : Option Value} {v : Int32} : X z 64 67 [x0, x1, x2, x3] ([.int v]) cu σ Q = (Q (.inl (some (.int v))) σ) := by
  rw [x64_67]
  exact propext ⟨fun h => h.2, fun h => ⟨trivial, h⟩⟩
theorem v65_0 {z : P0} {st : List Value} {cu : Nat × Nat} {Q : Res → Mem → Prop} {σ : Mem} {x1 : Option Value} {u : Nat} : X z 65 0 [some (.ref u), x1] (st) cu σ Q = (X z 65 1 [some (.ref u), x1] (.ref u :: st) cu σ Q) := by
  rw [x65_0]
  rfl
theorem v65_1 {z : P0} {st : List Value} {cu : Nat × Nat} {Q : Res → Mem → Prop} {K : Nat → Nat × Nat} {I : Nat → Nat → Int32} {R : Nat → Nat → Option Nat} {L : Nat → Nat → Int64} {sz : Nat} {ex : Bool} {x0 x1 : Option Value} {u : Nat} : X z 65 1 [x0, x1] (.ref u :: st) cu (K, I, R, L, sz, ex) Q = ((K u).1 = 110 ∧ X z 65 4 [x0, x1] (va_rf (R u 0) :: st) cu (K, I, R, L, sz, ex) Q) := by
  rw [x65_1]
  rfl
theorem v65_4 {z : P0} {st : List Value} {cu : Nat × Nat} {Q : Res → Mem → Prop} {K : Nat → Nat × Nat} {I : Nat → Nat → Int32} {R : Nat → Nat → Option Nat} {L : Nat → Nat → Int64} {sz : Nat} {ex : Bool} {x0 x1 : Option Value} {u : Nat} : X z 65 4 [x0, x1] (.ref u :: st) cu (K, I, R, L, sz, ex) Q = ((K u).1 = 108 ∧ X z 65 7 [x0, x1] (va_rf (R u 4) :: st) cu (K, I, R, L, sz, ex) Q) := by
  rw [x65_4]
  rfl
theorem v65_7 {z : P0} {st : List Value} {cu : Nat × Nat} {Q : Res → Mem → Prop} {K : Nat → Nat × Nat} {I : Nat → Nat → Int32} {R : Nat → Nat → Option Nat} {L : Nat → Nat → Int64} {sz : Nat} {ex : Bool} {x0 x1 : Option Value} {u : Nat} : X z 65 7 [x0, x1] (.ref u :: st) cu (K, I, R, L, sz, ex) Q = ((K u).1 = 104 ∧ X z 65 10 [x0, x1] (.int (I u 1) :: st) cu (K, I, R, L, sz, ex) Q) := by
  rw [x65_7]
  rfl
theorem v65_10 {z : P0} {st : List Value} {cu : Nat × Nat} {Q : Res → Mem → Prop} {σ : Mem} {x0 x1 : Option Value} {u : Int32} : X z 65 10 [x0, x1] (.int u :: st) cu σ Q = (if u = nI 0 then X z 65 13 [x0, x1] (st) cu σ Q else X z 65 23 [x0, x1] (st) cu σ Q) := by
  rw [x65_10]
  rw [nI_0]
  obtain ⟨K, I, R, L, sz, ex⟩ := σ
  exact br_ne
theorem v65_13 {z : P0} {st : List Value} {Q : Res → Mem → Prop} {K : Nat → Nat × Nat} {I : Nat → Nat → Int32} {R : Nat → Nat → Option Nat} {L : Nat → Nat → Int64} {sz : Nat} {ex : Bool} {x0 x1 : Option Value} : X z 65 13 [x0, x1] (st) (0, 0) (K, I, R, L, sz, ex) Q = (wsum st ≤ 8 ∧ Q (.inr 1) (K, I, R, L, sz, false)) := by
  rw [x65_13]
  exact i_throw (i := 0) (j := 0)
theorem v65_16 {z : P0} {st : List Value} {cu : Nat × Nat} {Q : Res → Mem → Prop} {σ : Mem} {x0 x1 : Option Value} {u : Nat} : X z 65 16 [x0, x1] (.ref u :: st) cu σ Q = (X z 65 17 [x0, x1] (.ref u :: .ref u :: st) cu σ Q) := by
  rw [x65_16]
  exact propext ⟨fun h => h.2, fun h => ⟨rfl, h⟩⟩
theorem v65_16i {z : P0} {st : List Value} {cu : Nat × Nat} {Q : Res → Mem → Prop} {σ : Mem} {x0 x1 : Option Value} {u : Int32} : X z 65 16 [x0, x1] (.int u :: st) cu σ Q = (X z 65 17 [x0, x1] (.int u :: .int u :: st) cu σ Q) := by
  rw [x65_16]
  exact propext ⟨fun h => h.2, fun h => ⟨rfl, h⟩⟩
theorem v65_23 {z : P0} {st : List Value} {cu : Nat × Nat} {Q : Res → Mem → Prop} {σ : Mem} {x1 : Option Value} {u : Nat} : X z 65 23 [some (.ref u), x1] (st) cu σ Q = (X z 65 24 [some (.ref u), x1] (.ref u :: st) cu σ Q) := by
  rw [x65_23]
  rfl
theorem v65_24 {z : P0} {st : List Value} {cu : Nat × Nat} {Q : Res → Mem → Prop} {K : Nat → Nat × Nat} {I : Nat → Nat → Int32} {R : Nat → Nat → Option Nat} {L : Nat → Nat → Int64} {sz : Nat} {ex : Bool} {x0 x1 : Option Value} {u : Nat} : X z 65 24 [x0, x1] (.ref u :: st) cu (K, I, R, L, sz, ex) Q = ((K u).1 = 110 ∧ X z 65 27 [x0, x1] (va_rf (R u 3) :: st) cu (K, I, R, L, sz, ex) Q) := by
  rw [x65_24]
  rfl
theorem v65_27 {z : P0} {st : List Value} {cu : Nat × Nat} {Q : Res → Mem → Prop} {σ : Mem} {x1 : Option Value} {u : Nat} : X z 65 27 [some (.ref u), x1] (st) cu σ Q = (X z 65 28 [some (.ref u), x1] (.ref u :: st) cu σ Q) := by
  rw [x65_27]
  rfl
theorem v65_28 {z : P0} {st : List Value} {cu : Nat × Nat} {Q : Res → Mem → Prop} {K : Nat → Nat × Nat} {I : Nat → Nat → Int32} {R : Nat → Nat → Option Nat} {L : Nat → Nat → Int64} {sz : Nat} {ex : Bool} {x0 x1 : Option Value} {u : Nat} : X z 65 28 [x0, x1] (.ref u :: st) cu (K, I, R, L, sz, ex) Q = ((K u).1 = 110 ∧ X z 65 31 [x0, x1] (va_rf (R u 0) :: st) cu (K, I, R, L, sz, ex) Q) := by
  rw [x65_28]
  rfl
theorem v65_31 {z : P0} {st : List Value} {cu : Nat × Nat} {Q : Res → Mem → Prop} {σ : Mem} {x1 : Option Value} {u : Nat} : X z 65 31 [some (.ref u), x1] (st) cu σ Q = (X z 65 32 [some (.ref u), x1] (.ref u :: st) cu σ Q) := by
  rw [x65_31]
  rfl
theorem v65_32 {z : P0} {st : List Value} {cu : Nat × Nat} {Q : Res → Mem → Prop} {K : Nat → Nat × Nat} {I : Nat → Nat → Int32} {R : Nat → Nat → Option Nat} {L : Nat → Nat → Int64} {sz : Nat} {ex : Bool} {x0 x1 : Option Value} {u : Nat} : X z 65 32 [x0, x1] (.ref u :: st) cu (K, I, R, L, sz, ex) Q = ((K u).1 = 110 ∧ X z 65 35 [x0, x1] (va_rf (R u 0) :: st) cu (K, I, R, L, sz, ex) Q) := by
  rw [x65_32]
  rfl
theorem v65_35 {z : P0} {st : List Value} {cu : Nat × Nat} {Q : Res → Mem → Prop} {K : Nat → Nat × Nat} {I : Nat → Nat → Int32} {R : Nat → Nat → Option Nat} {L : Nat → Nat → Int64} {sz : Nat} {ex : Bool} {x0 x1 : Option Value} {u : Nat} : X z 65 35 [x0, x1] (.ref u :: st) cu (K, I, R, L, sz, ex) Q = ((K u).1 = 108 ∧ X z 65 38 [x0, x1] (va_rf (R u 5) :: st) cu (K, I, R, L, sz, ex) Q) := by
  rw [x65_35]
  rfl
theorem u65_38 {z : P0} {ls : Lcs} {st : List Value} {K : Nat → Nat × Nat} {I : Nat → Nat → Int32} {R : Nat → Nat → Option Nat} {L : Nat → Nat → Int64} {sz : Nat} {ex : Bool} {Q : Res → Mem → Prop} {x : Nat} {a0 : Nat} {a1 : Nat} : X z 65 38 ls (.ref a1 :: .ref a0 :: .ref x :: st) (0, 0) (K, I, R, L, sz, ex) Q = ((K x).1 = 106 ∧ wsum st ≤ 8 ∧ X z 38 0 [some (.ref x), some (.ref a0), some (.ref a1), none, none] [] (0, 0) (K, I, R, L, sz, ex) (aftr (X z) mT 65 38 ls st (0, 0) Q)) := v65_38 (c := 0) (n := 0)
theorem v65_41 {z : P0} {st : List Value} {cu : Nat × Nat} {Q : Res → Mem → Prop} {σ : Mem} {x1 : Option Value} {u : Nat} : X z 65 41 [some (.ref u), x1] (st) cu σ Q = (X z 65 42 [some (.ref u), x1] (.ref u :: st) cu σ Q) := by
  rw [x65_41]
  rfl
theorem v65_42 {z : P0} {st : List Value} {cu : Nat × Nat} {Q : Res → Mem → Prop} {K : Nat → Nat × Nat} {I : Nat → Nat → Int32} {R : Nat → Nat → Option Nat} {L : Nat → Nat → Int64} {sz : Nat} {ex : Bool} {x0 x1 : Option Value} {u : Nat} : X z 65 42 [x0, x1] (.ref u :: st) cu (K, I, R, L, sz, ex) Q = ((K u).1 = 110 ∧ X z 65 45 [x0, x1] (va_rf (R u 3) :: st) cu (K, I, R, L, sz, ex) Q) := by
  rw [x65_42]
  rfl
theorem v65_45 {z : P0} {st : List Value} {cu : Nat × Nat} {Q : Res → Mem → Prop} {K : Nat → Nat × Nat} {I : Nat → Nat → Int32} {R : Nat → Nat → Option Nat} {L : Nat → Nat → Int64} {sz : Nat} {ex : Bool} {x0 x1 : Option Value} {u : Nat} : X z 65 45 [x0, x1] (.ref u :: st) cu (K, I, R, L, sz, ex) Q = ((K u).1 = 106 ∧ X z 65 48 [x0, x1] (.int (I u 8) :: st) cu (K, I, R, L, sz, ex) Q) := by
  rw [x65_45]
  rfl
theorem v65_48 {z : P0} {st : List Value} {cu : Nat × Nat} {Q : Res → Mem → Prop} {σ : Mem} {x0 x1 : Option Value} {u : Int32} : X z 65 48 [x0, x1] (.int u :: st) cu σ Q = (if u = nI 0 then X z 65 51 [x0, x1] (st) cu σ Q else X z 65 61 [x0, x1] (st) cu σ Q) := by
  rw [x65_48]
  rw [nI_0]
  obtain ⟨K, I, R, L, sz, ex⟩ := σ
  exact br_ne
theorem v65_51 {z : P0} {st : List Value} {Q : Res → Mem → Prop} {K : Nat → Nat × Nat} {I : Nat → Nat → Int32} {R : Nat → Nat → Option Nat} {L : Nat → Nat → Int64} {sz : Nat} {ex : Bool} {x0 x1 : Option Value} : X z 65 51 [x0, x1] (st) (0, 0) (K, I, R, L, sz, ex) Q = (wsum st ≤ 8 ∧ Q (.inr 1) (K, I, R, L, sz, false)) := by
  rw [x65_51]
  exact i_throw (i := 0) (j := 0)
theorem v65_54 {z : P0} {st : List Value} {cu : Nat × Nat} {Q : Res → Mem → Prop} {σ : Mem} {x0 x1 : Option Value} {u : Nat} : X z 65 54 [x0, x1] (.ref u :: st) cu σ Q = (X z 65 55 [x0, x1] (.ref u :: .ref u :: st) cu σ Q) := by
  rw [x65_54]
  exact propext ⟨fun h => h.2, fun h => ⟨rfl, h⟩⟩
theorem v65_54i {z : P0} {st : List Value} {cu : Nat × Nat} {Q : Res → Mem → Prop} {σ : Mem} {x0 x1 : Option Value} {u : Int32} : X z 65 54 [x0, x1] (.int u :: st) cu σ Q = (X z 65 55 [x0, x1] (.int u :: .int u :: st) cu σ Q) := by
  rw [x65_54]
  exact propext ⟨fun h => h.2, fun h => ⟨rfl, h⟩⟩
theorem v65_61 {z : P0} {st : List Value} {cu : Nat × Nat} {Q : Res → Mem → Prop} {σ : Mem} {x1 : Option Value} {u : Nat} : X z 65 61 [some (.ref u), x1] (st) cu σ Q = (X z 65 62 [some (.ref u), x1] (.ref u :: st) cu σ Q) := by
  rw [x65_61]
  rfl
theorem v65_62 {z : P0} {st : List Value} {cu : Nat × Nat} {Q : Res → Mem → Prop} {K : Nat → Nat × Nat} {I : Nat → Nat → Int32} {R : Nat → Nat → Option Nat} {L : Nat → Nat → Int64} {sz : Nat} {ex : Bool} {x0 x1 : Option Value} {u : Nat} : X z 65 62 [x0, x1] (.ref u :: st) cu (K, I, R, L, sz, ex) Q = ((K u).1 = 110 ∧ X z 65 65 [x0, x1] (va_rf (R u 1) :: st) cu (K, I, R, L, sz, ex) Q) := by
  rw [x65_62]
  rfl
theorem v65_65 {z : P0} {st : List Value} {cu : Nat × Nat} {Q : Res → Mem → Prop} {σ : Mem} {x1 : Option Value} {u : Nat} : X z 65 65 [some (.ref u), x1] (st) cu σ Q = (X z 65 66 [some (.ref u), x1] (.ref u :: st) cu σ Q) := by
  rw [x65_65]
  rfl
theorem v65_66 {z : P0} {st : List Value} {cu : Nat × Nat} {Q : Res → Mem → Prop} {K : Nat → Nat × Nat} {I : Nat → Nat → Int32} {R : Nat → Nat → Option Nat} {L : Nat → Nat → Int64} {sz : Nat} {ex : Bool} {x0 x1 : Option Value} {u : Nat} : X z 65 66 [x0, x1] (.ref u :: st) cu (K, I, R, L, sz, ex) Q = ((K u).1 = 110 ∧ X z 65 69 [x0, x1] (va_rf (R u 0) :: st) cu (K, I, R, L, sz, ex) Q) := by
  rw [x65_66]
  rfl
theorem u65_69 {z : P0} {ls : Lcs} {st : List Value} {K : Nat → Nat × Nat} {I : Nat → Nat → Int32} {R : Nat → Nat → Option Nat} {L : Nat → Nat → Int64} {sz : Nat} {ex : Bool} {Q : Res → Mem → Prop} {x : Nat} {a0 : Nat} : X z 65 69 ls (.ref a0 :: .ref x :: st) (0, 0) (K, I, R, L, sz, ex) Q = ((K x).1 = 103 ∧ wsum st ≤ 8 ∧ X z 24 0 [some (.ref x), some (.ref a0)] [] (0, 0) (K, I, R, L, sz, ex) (aftr (X z) mT 65 69 ls st (0, 0) Q)) := v65_69 (c := 0) (n := 0)
theorem v65_72 {z : P0} {st : List Value} {cu : Nat × Nat} {Q : Res → Mem → Prop} {σ : Mem} {x0 x1 : Option Value} : X z 65 72 [x0, x1] (st) cu σ Q = (X z 65 73 [x0, x1] (.int (nI 0) :: st) cu σ Q) := by
  rw [x65_72]
  rfl
theorem v65_73 {z : P0} {st : List Value} {cu : Nat × Nat} {Q : Res → Mem → Prop} {σ : Mem} {x0 x1 : Option Value} {u : Int32} : X z 65 73 [x0, x1] (.int u :: st) cu σ Q = (cat2 x0 = false ∧ X z 65 74 [x0, some (.int u)] (st) cu σ Q) := by
  rw [x65_73]
  obtain ⟨K, I, R, L, sz, ex⟩ := σ
  exact i_istore_n.trans sl_1
theorem v65_74 {z : P0} {st : List Value} {cu : Nat × Nat} {Q : Res → Mem → Prop} {σ : Mem} {x0 : Option Value} {u : Int32} : X z 65 74 [x0, some (.int u)] (st) cu σ Q = (X z 65 75 [x0, some (.int u)] (.int u :: st) cu σ Q) := by
  rw [x65_74]
  rfl
theorem v65_75 {z : P0} {st : List Value} {cu : Nat × Nat} {Q : Res → Mem → Prop} {σ : Mem} {x1 : Option Value} {u : Nat} : X z 65 75 [some (.ref u), x1] (st) cu σ Q = (X z 65 76 [some (.ref u), x1] (.ref u :: st) cu σ Q) := by
  rw [x65_75]
  rfl
theorem v65_76 {z : P0} {st : List Value} {cu : Nat × Nat} {Q : Res → Mem → Prop} {K : Nat → Nat × Nat} {I : Nat → Nat → Int32} {R : Nat → Nat → Option Nat} {L : Nat → Nat → Int64} {sz : Nat} {ex : Bool} {x0 x1 : Option Value} {u : Nat} : X z 65 76 [x0, x1] (.ref u :: st) cu (K, I, R, L, sz, ex) Q = ((K u).1 = 110 ∧ X z 65 79 [x0, x1] (va_rf (R u 0) :: st) cu (K, I, R, L, sz, ex) Q) := by
  rw [x65_76]
  rfl
theorem v65_79 {z : P0} {st : List Value} {cu : Nat × Nat} {Q : Res → Mem → Prop} {K : Nat → Nat × Nat} {I : Nat → Nat → Int32} {R : Nat → Nat → Option Nat} {L : Nat → Nat → Int64} {sz : Nat} {ex : Bool} {x0 x1 : Option Value} {u : Nat} : X z 65 79 [x0, x1] (.ref u :: st) cu (K, I, R, L, sz, ex) Q = ((K u).1 = 108 ∧ X z 65 82 [x0, x1] (.int (I u 1) :: st) cu (K, I, R, L, sz, ex) Q) := by
  rw [x65_79]
  rfl
theorem v65_82 {z : P0} {st : List Value} {cu : Nat × Nat} {Q : Res → Mem → Prop} {σ : Mem} {x0 x1 : Option Value} {u v : Int32} : X z 65 82 [x0, x1] (.int v :: .int u :: st) cu σ Q = (if u < v then X z 65 85 [x0, x1] (st) cu σ Q else X z 65 140 [x0, x1] (st) cu σ Q) := by
  rw [x65_82]
  obtain ⟨K, I, R, L, sz, ex⟩ := σ
  exact br_ge
theorem v65_85 {z : P0} {st : List Value} {cu : Nat × Nat} {Q : Res → Mem → Prop} {σ : Mem} {x1 : Option Value} {u : Nat} : X z 65 85 [some (.ref u), x1] (st) cu σ Q = (X z 65 86 [some (.ref u), x1] (.ref u :: st) cu σ Q) := by
  rw [x65_85]
  rfl
theorem v65_86 {z : P0} {st : List Value} {cu : Nat × Nat} {Q : Res → Mem → Prop} {K : Nat → Nat × Nat} {I : Nat → Nat → Int32} {R : Nat → Nat → Option Nat} {L : Nat → Nat → Int64} {sz : Nat} {ex : Bool} {x0 x1 : Option Value} {u : Nat} : X z 65 86 [x0, x1] (.ref u :: st) cu (K, I, R, L, sz, ex) Q = ((K u).1 = 110 ∧ X z 65 89 [x0, x1] (va_rf (R u 3) :: st) cu (K, I, R, L, sz, ex) Q) := by
  rw [x65_86]
  rfl
theorem v65_89 {z : P0} {st : List Value} {cu : Nat × Nat} {Q : Res → Mem → Prop} {K : Nat → Nat × Nat} {I : Nat → Nat → Int32} {R : Nat → Nat → Option Nat} {L : Nat → Nat → Int64} {sz : Nat} {ex : Bool} {x0 x1 : Option Value} {u : Nat} : X z 65 89 [x0, x1] (.ref u :: st) cu (K, I, R, L, sz, ex) Q = ((K u).1 = 106 ∧ X z 65 92 [x0, x1] (va_rf (R u 2) :: st) cu (K, I, R, L, sz, ex) Q) := by
  rw [x65_89]
  rfl
theorem v65_92 {z : P0} {st : List Value} {cu : Nat × Nat} {Q : Res → Mem → Prop} {σ : Mem} {x0 : Option Value} {u : Int32} : X z 65 92 [x0, some (.int u)] (st) cu σ Q = (X z 65 93 [x0, some (.int u)] (.int u :: st) cu σ Q) := by
  rw [x65_92]
  rfl
theorem v65_93 {z : P0} {st : List Value} {cu : Nat × Nat} {Q : Res → Mem → Prop} {K : Nat → Nat × Nat} {I : Nat → Nat → Int32} {R : Nat → Nat → Option Nat} {L : Nat → Nat → Int64} {sz : Nat} {ex : Bool} {x0 x1 : Option Value} {u : Nat} {v : Int32} : X z 65 93 [x0, x1] (.int v :: .ref u :: st) cu (K, I, R, L, sz, ex) Q = (((K u).1 = 20 ∨ (K u).1 = 50) ∧ vp_in v (K u).2 ∧ X z 65 94 [x0, x1] (.int (I u v.toNatClampNeg) :: st) cu (K, I, R, L, sz, ex) Q) := by
  rw [x65_93]
  rfl
theorem v65_94 {z : P0} {st : List Value} {cu : Nat × Nat} {Q : Res → Mem → Prop} {σ : Mem} {x0 x1 : Option Value} {u : Int32} : X z 65 94 [x0, x1] (.int u :: st) cu σ Q = (if u = nI 0 then X z 65 97 [x0, x1] (st) cu σ Q else X z 65 134 [x0, x1] (st) cu σ Q) := by
  rw [x65_94]
  rw [nI_0]
  obtain ⟨K, I, R, L, sz, ex⟩ := σ
  exact br_ne
theorem v65_97 {z : P0} {st : List Value} {cu : Nat × Nat} {Q : Res → Mem → Prop} {σ : Mem} {x1 : Option Value} {u : Nat} : X z 65 97 [some (.ref u), x1] (st) cu σ Q = (X z 65 98 [some (.ref u), x1] (.ref u :: st) cu σ Q) := by
  rw [x65_97]
  rfl
theorem v65_98 {z : P0} {st : List Value} {cu : Nat × Nat} {Q : Res → Mem → Prop} {K : Nat → Nat × Nat} {I : Nat → Nat → Int32} {R : Nat → Nat → Option Nat} {L : Nat → Nat → Int64} {sz : Nat} {ex : Bool} {x0 x1 : Option Value} {u : Nat} : X z 65 98 [x0, x1] (.ref u :: st) cu (K, I, R, L, sz, ex) Q = ((K u).1 = 110 ∧ X z 65 101 [x0, x1] (va_rf (R u 0) :: st) cu (K, I, R, L, sz, ex) Q) := by
  rw [x65_98]
  rfl
theorem v65_101 {z : P0} {st : List Value} {cu : Nat × Nat} {Q : Res → Mem → Prop} {K : Nat → Nat × Nat} {I : Nat → Nat → Int32} {R : Nat → Nat → Option Nat} {L : Nat → Nat → Int64} {sz : Nat} {ex : Bool} {x0 x1 : Option Value} {u : Nat} : X z 65 101 [x0, x1] (.ref u :: st) cu (K, I, R, L, sz, ex) Q = ((K u).1 = 108 ∧ X z 65 104 [x0, x1] (va_rf (R u 0) :: st) cu (K, I, R, L, sz, ex) Q) := by
  rw [x65_101]
  rfl
theorem v65_104 {z : P0} {st : List Value} {cu : Nat × Nat} {Q : Res → Mem → Prop} {σ : Mem} {x0 : Option Value} {u : Int32} : X z 65 104 [x0, some (.int u)] (st) cu σ Q = (X z 65 105 [x0, some (.int u)] (.int u :: st) cu σ Q) := by
  rw [x65_104]
  rfl
theorem v65_105 {z : P0} {st : List Value} {cu : Nat × Nat} {Q : Res → Mem → Prop} {K : Nat → Nat × Nat} {I : Nat → Nat → Int32} {R : Nat → Nat → Option Nat} {L : Nat → Nat → Int64} {sz : Nat} {ex : Bool} {x0 x1 : Option Value} {u : Nat} {v : Int32} : X z 65 105 [x0, x1] (.int v :: .ref u :: st) cu (K, I, R, L, sz, ex) Q = (((K u).1 = 22 ∨ (K u).1 = 23 ∨ (K u).1 = 24 ∨ (K u).1 = 25) ∧ vp_in v (K u).2 ∧ X z 65 106 [x0, x1] (va_rf (R u v.toNatClampNeg) :: st) cu (K, I, R, L, sz, ex) Q) := by
  rw [x65_105]
  rfl
theorem v65_106 {z : P0} {st : List Value} {cu : Nat × Nat} {Q : Res → Mem → Prop} {σ : Mem} {x1 : Option Value} {u : Nat} : X z 65 106 [some (.ref u), x1] (st) cu σ Q = (X z 65 107 [some (.ref u), x1] (.ref u :: st) cu σ Q) := by
  rw [x65_106]
  rfl
theorem v65_107 {z : P0} {st : List Value} {cu : Nat × Nat} {Q : Res → Mem → Prop} {K : Nat → Nat × Nat} {I : Nat → Nat → Int32} {R : Nat → Nat → Option Nat} {L : Nat → Nat → Int64} {sz : Nat} {ex : Bool} {x0 x1 : Option Value} {u : Nat} : X z 65 107 [x0, x1] (.ref u :: st) cu (K, I, R, L, sz, ex) Q = ((K u).1 = 110 ∧ X z 65 110 [x0, x1] (va_rf (R u 0) :: st) cu (K, I, R, L, sz, ex) Q) := by
  rw [x65_107]
  rfl
theorem v65_110 {z : P0} {st : List Value} {cu : Nat × Nat} {Q : Res → Mem → Prop} {K : Nat → Nat × Nat} {I : Nat → Nat → Int32} {R : Nat → Nat → Option Nat} {L : Nat → Nat → Int64} {sz : Nat} {ex : Bool} {x0 x1 : Option Value} {u : Nat} : X z 65 110 [x0, x1] (.ref u :: st) cu (K, I, R, L, sz, ex) Q = ((K u).1 = 108 ∧ X z 65 113 [x0, x1] (.int (I u 6) :: st) cu (K, I, R, L, sz, ex) Q) := by
  rw [x65_110]
  rfl
theorem v65_113 {z : P0} {st : List Value} {cu : Nat × Nat} {Q : Res → Mem → Prop} {K : Nat → Nat × Nat} {I : Nat → Nat → Int32} {R : Nat → Nat → Option Nat} {L : Nat → Nat → Int64} {sz : Nat} {ex : Bool} {x0 x1 : Option Value} {u : Nat} {v : Int32} : X z 65 113 [x0, x1] (.int v :: .ref u :: st) cu (K, I, R, L, sz, ex) Q = ((K u).1 = 107 ∧ X z 65 116 [x0, x1] (st) cu (K, up2 I u 6 v, R, L, sz, ex) Q) := by
  rw [x65_113]
  exact i_putI
theorem v65_116 {z : P0} {st : List Value} {cu : Nat × Nat} {Q : Res → Mem → Prop} {σ : Mem} {x1 : Option Value} {u : Nat} : X z 65 116 [some (.ref u), x1] (st) cu σ Q = (X z 65 117 [some (.ref u), x1] (.ref u :: st) cu σ Q) := by
  rw [x65_116]
  rfl
theorem v65_117 {z : P0} {st : List Value} {cu : Nat × Nat} {Q : Res → Mem → Prop} {K : Nat → Nat × Nat} {I : Nat → Nat → Int32} {R : Nat → Nat → Option Nat} {L : Nat → Nat → Int64} {sz : Nat} {ex : Bool} {x0 x1 : Option Value} {u : Nat} : X z 65 117 [x0, x1] (.ref u :: st) cu (K, I, R, L, sz, ex) Q = ((K u).1 = 110 ∧ X z 65 120 [x0, x1] (va_rf (R u 0) :: st) cu (K, I, R, L, sz, ex) Q) := by
  rw [x65_117]
  rfl
theorem v65_120 {z : P0} {st : List Value} {cu : Nat × Nat} {Q : Res → Mem → Prop} {K : Nat → Nat × Nat} {I : Nat → Nat → Int32} {R : Nat → Nat → Option Nat} {L : Nat → Nat → Int64} {sz : Nat} {ex : Bool} {x0 x1 : Option Value} {u : Nat} : X z 65 120 [x0, x1] (.ref u :: st) cu (K, I, R, L, sz, ex) Q = ((K u).1 = 108 ∧ X z 65 123 [x0, x1] (va_rf (R u 0) :: st) cu (K, I, R, L, sz, ex) Q) := by
  rw [x65_120]
  rfl
theorem v65_123 {z : P0} {st : List Value} {cu : Nat × Nat} {Q : Res → Mem → Prop} {σ : Mem} {x0 : Option Value} {u : Int32} : X z 65 123 [x0, some (.int u)] (st) cu σ Q = (X z 65 124 [x0, some (.int u)] (.int u :: st) cu σ Q) := by
  rw [x65_123]
  rfl
theorem v65_124 {z : P0} {st : List Value} {cu : Nat × Nat} {Q : Res → Mem → Prop} {K : Nat → Nat × Nat} {I : Nat → Nat → Int32} {R : Nat → Nat → Option Nat} {L : Nat → Nat → Int64} {sz : Nat} {ex : Bool} {x0 x1 : Option Value} {u : Nat} {v : Int32} : X z 65 124 [x0, x1] (.int v :: .ref u :: st) cu (K, I, R, L, sz, ex) Q = (((K u).1 = 22 ∨ (K u).1 = 23 ∨ (K u).1 = 24 ∨ (K u).1 = 25) ∧ vp_in v (K u).2 ∧ X z 65 125 [x0, x1] (va_rf (R u v.toNatClampNeg) :: st) cu (K, I, R, L, sz, ex) Q) := by
  rw [x65_124]
  rfl
theorem v65_125 {z : P0} {st : List Value} {cu : Nat × Nat} {Q : Res → Mem → Prop} {σ : Mem} {x0 x1 : Option Value} {u : Nat} : X z 65 125 [x0, x1] (.ref u :: st) cu σ Q = (X z 65 126 [x0, x1] (.ref u :: .ref u :: st) cu σ Q) := by
  rw [x65_125]
  exact propext ⟨fun h => h.2, fun h => ⟨rfl, h⟩⟩
theorem v65_125i {z : P0} {st : List Value} {cu : Nat × Nat} {Q : Res → Mem → Prop} {σ : Mem} {x0 x1 : Option Value} {u : Int32} : X z 65 125 [x0, x1] (.int u :: st) cu σ Q = (X z 65 126 [x0, x1] (.int u :: .int u :: st) cu σ Q) := by
  rw [x65_125]
  exact propext ⟨fun h => h.2, fun h => ⟨rfl, h⟩⟩
theorem v65_126 {z : P0} {st : List Value} {cu : Nat × Nat} {Q : Res → Mem → Prop} {K : Nat → Nat × Nat} {I : Nat → Nat → Int32} {R : Nat → Nat → Option Nat} {L : Nat → Nat → Int64} {sz : Nat} {ex : Bool} {x0 x1 : Option Value} {u : Nat} : X z 65 126 [x0, x1] (.ref u :: st) cu (K, I, R, L, sz, ex) Q = ((K u).1 = 107 ∧ X z 65 129 [x0, x1] (.int (I u 7) :: st) cu (K, I, R, L, sz, ex) Q) := by
  rw [x65_126]
  rfl
theorem v65_129 {z : P0} {st : List Value} {cu : Nat × Nat} {Q : Res → Mem → Prop} {σ : Mem} {x0 x1 : Option Value} : X z 65 129 [x0, x1] (st) cu σ Q = (X z 65 130 [x0, x1] (.int (nI 1) :: st) cu σ Q) := by
  rw [x65_129]
  rfl
theorem v65_130 {z : P0} {st : List Value} {cu : Nat × Nat} {Q : Res → Mem → Prop} {σ : Mem} {x0 x1 : Option Value} {u v : Int32} : X z 65 130 [x0, x1] (.int v :: .int u :: st) cu σ Q = (X z 65 131 [x0, x1] (.int (u + v) :: st) cu σ Q) := by
  rw [x65_130]
  rfl
theorem v65_131 {z : P0} {st : List Value} {cu : Nat × Nat} {Q : Res → Mem → Prop} {K : Nat → Nat × Nat} {I : Nat → Nat → Int32} {R : Nat → Nat → Option Nat} {L : Nat → Nat → Int64} {sz : Nat} {ex : Bool} {x0 x1 : Option Value} {u : Nat} {v : Int32} : X z 65 131 [x0, x1] (.int v :: .ref u :: st) cu (K, I, R, L, sz, ex) Q = ((K u).1 = 107 ∧ X z 65 134 [x0, x1] (st) cu (K, up2 I u 7 v, R, L, sz, ex) Q) := by
  rw [x65_131]
  exact i_putI
theorem v65_134 {z : P0} {st : List Value} {cu : Nat × Nat} {Q : Res → Mem → Prop} {σ : Mem} {x0 : Option Value} {u : Int32} : X z 65 134 [x0, some (.int u)] (st) cu σ Q = (cat2 x0 = false ∧ X z 65 137 [x0, some (.int (u + nI 1))] (st) cu σ Q) := by
  rw [x65_134]
  obtain ⟨K, I, R, L, sz, ex⟩ := σ
  exact i_iinc.trans (gl_1.trans (ldI_i.trans sl_1))
theorem v65_137 {z : P0} {st : List Value} {cu : Nat × Nat} {Q : Res → Mem → Prop} {σ : Mem} {x0 x1 : Option Value} : X z 65 137 [x0, x1] (st) cu σ Q = (X z 65 74 [x0, x1] (st) cu σ Q) := by
  rw [x65_137]
  rfl
theorem v65_140 {z : P0} {st : List Value} {cu : Nat × Nat} {Q : Res → Mem → Prop} {σ : Mem} {x1 : Option Value} {u : Nat} : X z 65 140 [some (.ref u), x1] (st) cu σ Q = (X z 65 141 [some (.ref u), x1] (.ref u :: st) cu σ Q) := by
  rw [x65_140]
  rfl
theorem v65_141 {z : P0} {st : List Value} {cu : Nat × Nat} {Q : Res → Mem → Prop} {K : Nat → Nat × Nat} {I : Nat → Nat → Int32} {R : Nat → Nat → Option Nat} {L : Nat → Nat → Int64} {sz : Nat} {ex : Bool} {x0 x1 : Option Value} {u : Nat} : X z 65 141 [x0, x1] (.ref u :: st) cu (K, I, R, L, sz, ex) Q = ((K u).1 = 110 ∧ X z 65 144 [x0, x1] (va_rf (R u 0) :: st) cu (K, I, R, L, sz, ex) Q) := by
  rw [x65_141]
  rfl
theorem v65_144 {z : P0} {st : List Value} {cu : Nat × Nat} {Q : Res → Mem → Prop} {σ : Mem} {x0 x1 : Option Value} {u : Nat} : X z 65 144 [x0, x1] (.ref u :: st) cu σ Q = (X z 65 145 [x0, x1] (.ref u :: .ref u :: st) cu σ Q) := by
  rw [x65_144]
  exact propext ⟨fun h => h.2, fun h => ⟨rfl, h⟩⟩
theorem v65_144i {z : P0} {st : List Value} {cu : Nat × Nat} {Q : Res → Mem → Prop} {σ : Mem} {x0 x1 : Option Value} {u : Int32} : X z 65 144 [x0, x1] (.int u :: st) cu σ Q = (X z 65 145 [x0, x1] (.int u :: .int u :: st) cu σ Q) := by
  rw [x65_144]
  exact propext ⟨fun h => h.2, fun h => ⟨rfl, h⟩⟩
theorem v65_145 {z : P0} {st : List Value} {cu : Nat × Nat} {Q : Res → Mem → Prop} {K : Nat → Nat × Nat} {I : Nat → Nat → Int32} {R : Nat → Nat → Option Nat} {L : Nat → Nat → Int64} {sz : Nat} {ex : Bool} {x0 x1 : Option Value} {u : Nat} : X z 65 145 [x0, x1] (.ref u :: st) cu (K, I, R, L, sz, ex) Q = ((K u).1 = 108 ∧ X z 65 148 [x0, x1] (.int (I u 7) :: st) cu (K, I, R, L, sz, ex) Q) := by
  rw [x65_145]
  rfl
theorem v65_148 {z : P0} {st : List Value} {cu : Nat × Nat} {Q : Res → Mem → Prop} {σ : Mem} {x1 : Option Value} {u : Nat} : X z 65 148 [some (.ref u), x1] (st) cu σ Q = (X z 65 149 [some (.ref u), x1] (.ref u :: st) cu σ Q) := by
  rw [x65_148]
  rfl
theorem v65_149 {z : P0} {st : List Value} {cu : Nat × Nat} {Q : Res → Mem → Prop} {K : Nat → Nat × Nat} {I : Nat → Nat → Int32} {R : Nat → Nat → Option Nat} {L : Nat → Nat → Int64} {sz : Nat} {ex : Bool} {x0 x1 : Option Value} {u : Nat} : X z 65 149 [x0, x1] (.ref u :: st) cu (K, I, R, L, sz, ex) Q = ((K u).1 = 110 ∧ X z 65 152 [x0, x1] (va_rf (R u 3) :: st) cu (K, I, R, L, sz, ex) Q) := by
  rw [x65_149]
  rfl
theorem v65_152 {z : P0} {st : List Value} {cu : Nat × Nat} {Q : Res → Mem → Prop} {K : Nat → Nat × Nat} {I : Nat → Nat → Int32} {R : Nat → Nat → Option Nat} {L : Nat → Nat → Int64} {sz : Nat} {ex : Bool} {x0 x1 : Option Value} {u : Nat} : X z 65 152 [x0, x1] (.ref u :: st) cu (K, I, R, L, sz, ex) Q = ((K u).1 = 106 ∧ X z 65 155 [x0, x1] (.int (I u 8) :: st) cu (K, I, R, L, sz, ex) Q) := by
  rw [x65_152]
  rfl
theorem v65_155 {z : P0} {st : List Value} {cu : Nat × Nat} {Q : Res → Mem → Prop} {σ : Mem} {x0 x1 : Option Value} {u v : Int32} : X z 65 155 [x0, x1] (.int v :: .int u :: st) cu σ Q = (X z 65 156 [x0, x1] (.int (u + v) :: st) cu σ Q) := by
  rw [x65_155]
  rfl
theorem v65_156 {z : P0} {st : List Value} {cu : Nat × Nat} {Q : Res → Mem → Prop} {K : Nat → Nat × Nat} {I : Nat → Nat → Int32} {R : Nat → Nat → Option Nat} {L : Nat → Nat → Int64} {sz : Nat} {ex : Bool} {x0 x1 : Option Value} {u : Nat} {v : Int32} : X z 65 156 [x0, x1] (.int v :: .ref u :: st) cu (K, I, R, L, sz, ex) Q = ((K u).1 = 108 ∧ X z 65 159 [x0, x1] (st) cu (K, up2 I u 7 v, R, L, sz, ex) Q) := by
  rw [x65_156]
  exact i_putI
theorem v65_159 {z : P0} {st : List Value} {cu : Nat × Nat} {Q : Res → Mem → Prop} {σ : Mem} {x1 : Option Value} {u : Nat} : X z 65 159 [some (.ref u), x1] (st) cu σ Q = (X z 65 160 [some (.ref u), x1] (.ref u :: st) cu σ Q) := by
  rw [x65_159]
  rfl
theorem v65_160 {z : P0} {st : List Value} {cu : Nat × Nat} {Q : Res → Mem → Prop} {K : Nat → Nat × Nat} {I : Nat → Nat → Int32} {R : Nat → Nat → Option Nat} {L : Nat → Nat → Int64} {sz : Nat} {ex : Bool} {x0 x1 : Option Value} {u : Nat} : X z 65 160 [x0, x1] (.ref u :: st) cu (K, I, R, L, sz, ex) Q = ((K u).1 = 110 ∧ X z 65 163 [x0, x1] (va_rf (R u 0) :: st) cu (K, I, R, L, sz, ex) Q) := by
  rw [x65_160]
  rfl
theorem v65_163 {z : P0} {st : List Value} {cu : Nat × Nat} {Q : Res → Mem → Prop} {σ : Mem} {x0 x1 : Option Value} {u : Nat} : X z 65 163 [x0, x1] (.ref u :: st) cu σ Q = (X z 65 164 [x0, x1] (.ref u :: .ref u :: st) cu σ Q) := by
  rw [x65_163]
  exact propext ⟨fun h => h.2, fun h => ⟨rfl, h⟩⟩
theorem v65_163i {z : P0} {st : List Value} {cu : Nat × Nat} {Q : Res → Mem → Prop} {σ : Mem} {x0 x1 : Option Value} {u : Int32} : X z 65 163 [x0, x1] (.int u :: st) cu σ Q = (X z 65 164 [x0, x1] (.int u :: .int u :: st) cu σ Q) := by
  rw [x65_163]
  exact propext ⟨fun h => h.2, fun h => ⟨rfl, h⟩⟩
theorem v65_164 {z : P0} {st : List Value} {cu : Nat × Nat} {Q : Res → Mem → Prop} {K : Nat → Nat × Nat} {I : Nat → Nat → Int32} {R : Nat → Nat → Option Nat} {L : Nat → Nat → Int64} {sz : Nat} {ex : Bool} {x0 x1 : Option Value} {u : Nat} : X z 65 164 [x0, x1] (.ref u :: st) cu (K, I, R, L, sz, ex) Q = ((K u).1 = 108 ∧ X z 65 167 [x0, x1] (.int (I u 8) :: st) cu (K, I, R, L, sz, ex) Q) := by
  rw [x65_164]
  rfl
theorem v65_167 {z : P0} {st : List Value} {cu : Nat × Nat} {Q : Res → Mem → Prop} {σ : Mem} {x1 : Option Value} {u : Nat} : X z 65 167 [some (.ref u), x1] (st) cu σ Q = (X z 65 168 [some (.ref u), x1] (.ref u :: st) cu σ Q) := by
  rw [x65_167]
  rfl
theorem v65_168 {z : P0} {st : List Value} {cu : Nat × Nat} {Q : Res → Mem → Prop} {K : Nat → Nat × Nat} {I : Nat → Nat → Int32} {R : Nat → Nat → Option Nat} {L : Nat → Nat → Int64} {sz : Nat} {ex : Bool} {x0 x1 : Option Value} {u : Nat} : X z 65 168 [x0, x1] (.ref u :: st) cu (K, I, R, L, sz, ex) Q = ((K u).1 = 110 ∧ X z 65 171 [x0, x1] (va_rf (R u 3) :: st) cu (K, I, R, L, sz, ex) Q) := by
  rw [x65_168]
  rfl
theorem v65_171 {z : P0} {st : List Value} {cu : Nat × Nat} {Q : Res → Mem → Prop} {K : Nat → Nat × Nat} {I : Nat → Nat → Int32} {R : Nat → Nat → Option Nat} {L : Nat → Nat → Int64} {sz : Nat} {ex : Bool} {x0 x1 : Option Value} {u : Nat} : X z 65 171 [x0, x1] (.ref u :: st) cu (K, I, R, L, sz, ex) Q = ((K u).1 = 106 ∧ X z 65 174 [x0, x1] (.int (I u 10) :: st) cu (K, I, R, L, sz, ex) Q) := by
  rw [x65_171]
  rfl
theorem v65_174 {z : P0} {st : List Value} {cu : Nat × Nat} {Q : Res → Mem → Prop} {σ : Mem} {x0 x1 : Option Value} {u v : Int32} : X z 65 174 [x0, x1] (.int v :: .int u :: st) cu σ Q = (X z 65 175 [x0, x1] (.int (u + v) :: st) cu σ Q) := by
  rw [x65_174]
  rfl
theorem v65_175 {z : P0} {st : List Value} {cu : Nat × Nat} {Q : Res → Mem → Prop} {K : Nat → Nat × Nat} {I : Nat → Nat → Int32} {R : Nat → Nat → Option Nat} {L : Nat → Nat → Int64} {sz : Nat} {ex : Bool} {x0 x1 : Option Value} {u : Nat} {v : Int32} : X z 65 175 [x0, x1] (.int v :: .ref u :: st) cu (K, I, R, L, sz, ex) Q = ((K u).1 = 108 ∧ X z 65 178 [x0, x1] (st) cu (K, up2 I u 8 v, R, L, sz, ex) Q) := by
  rw [x65_175]
  exact i_putI
theorem v65_178 {z : P0} {st : List Value} {cu : Nat × Nat} {Q : Res → Mem → Prop} {σ : Mem} {x1 : Option Value} {u : Nat} : X z 65 178 [some (.ref u), x1] (st) cu σ Q = (X z 65 179 [some (.ref u), x1] (.ref u :: st) cu σ Q) := by
  rw [x65_178]
  rfl
theorem v65_179 {z : P0} {st : List Value} {cu : Nat × Nat} {Q : Res → Mem → Prop} {K : Nat → Nat × Nat} {I : Nat → Nat → Int32} {R : Nat → Nat → Option Nat} {L : Nat → Nat → Int64} {sz : Nat} {ex : Bool} {x0 x1 : Option Value} {u : Nat} : X z 65 179 [x0, x1] (.ref u :: st) cu (K, I, R, L, sz, ex) Q = ((K u).1 = 110 ∧ X z 65 182 [x0, x1] (va_rf (R u 0) :: st) cu (K, I, R, L, sz, ex) Q) := by
  rw [x65_179]
  rfl
theorem v65_182 {z : P0} {st : List Value} {cu : Nat × Nat} {Q : Res → Mem → Prop} {σ : Mem} {x0 x1 : Option Value} {u : Nat} : X z 65 182 [x0, x1] (.ref u :: st) cu σ Q = (X z 65 183 [x0, x1] (.ref u :: .ref u :: st) cu σ Q) := by
  rw [x65_182]
  exact propext ⟨fun h => h.2, fun h => ⟨rfl, h⟩⟩
theorem v65_182i {z : P0} {st : List Value} {cu : Nat × Nat} {Q : Res → Mem → Prop} {σ : Mem} {x0 x1 : Option Value} {u : Int32} : X z 65 182 [x0, x1] (.int u :: st) cu σ Q = (X z 65 183 [x0, x1] (.int u :: .int u :: st) cu σ Q) := by
  rw [x65_182]
  exact propext ⟨fun h => h.2, fun h => ⟨rfl, h⟩⟩
theorem v65_183 {z : P0} {st : List Value} {cu : Nat × Nat} {Q : Res → Mem → Prop} {K : Nat → Nat × Nat} {I : Nat → Nat → Int32} {R : Nat → Nat → Option Nat} {L : Nat → Nat → Int64} {sz : Nat} {ex : Bool} {x0 x1 : Option Value} {u : Nat} : X z 65 183 [x0, x1] (.ref u :: st) cu (K, I, R, L, sz, ex) Q = ((K u).1 = 108 ∧ X z 65 186 [x0, x1] (.int (I u 9) :: st) cu (K, I, R, L, sz, ex) Q) := by
  rw [x65_183]
  rfl
theorem v65_186 {z : P0} {st : List Value} {cu : Nat × Nat} {Q : Res → Mem → Prop} {σ : Mem} {x1 : Option Value} {u : Nat} : X z 65 186 [some (.ref u), x1] (st) cu σ Q = (X z 65 187 [some (.ref u), x1] (.ref u :: st) cu σ Q) := by
  rw [x65_186]
  rfl
theorem v65_187 {z : P0} {st : List Value} {cu : Nat × Nat} {Q : Res → Mem → Prop} {K : Nat → Nat × Nat} {I : Nat → Nat → Int32} {R : Nat → Nat → Option Nat} {L : Nat → Nat → Int64} {sz : Nat} {ex : Bool} {x0 x1 : Option Value} {u : Nat} : X z 65 187 [x0, x1] (.ref u :: st) cu (K, I, R, L, sz, ex) Q = ((K u).1 = 110 ∧ X z 65 190 [x0, x1] (va_rf (R u 3) :: st) cu (K, I, R, L, sz, ex) Q) := by
  rw [x65_187]
  rfl
theorem v65_190 {z : P0} {st : List Value} {cu : Nat × Nat} {Q : Res → Mem → Prop} {K : Nat → Nat × Nat} {I : Nat → Nat → Int32} {R : Nat → Nat → Option Nat} {L : Nat → Nat → Int64} {sz : Nat} {ex : Bool} {x0 x1 : Option Value} {u : Nat} : X z 65 190 [x0, x1] (.ref u :: st) cu (K, I, R, L, sz, ex) Q = ((K u).1 = 106 ∧ X z 65 193 [x0, x1] (.int (I u 11) :: st) cu (K, I, R, L, sz, ex) Q) := by
  rw [x65_190]
  rfl
theorem v65_193 {z : P0} {st : List Value} {cu : Nat × Nat} {Q : Res → Mem → Prop} {σ : Mem} {x0 x1 : Option Value} {u v : Int32} : X z 65 193 [x0, x1] (.int v :: .int u :: st) cu σ Q = (X z 65 194 [x0, x1] (.int (u + v) :: st) cu σ Q) := by
  rw [x65_193]
  rfl
theorem v65_194 {z : P0} {st : List Value} {cu : Nat × Nat} {Q : Res → Mem → Prop} {K : Nat → Nat × Nat} {I : Nat → Nat → Int32} {R : Nat → Nat → Option Nat} {L : Nat → Nat → Int64} {sz : Nat} {ex : Bool} {x0 x1 : Option Value} {u : Nat} {v : Int32} : X z 65 194 [x0, x1] (.int v :: .ref u :: st) cu (K, I, R, L, sz, ex) Q = ((K u).1 = 108 ∧ X z 65 197 [x0, x1] (st) cu (K, up2 I u 9 v, R, L, sz, ex) Q) := by
  rw [x65_194]
  exact i_putI
theorem v65_197 {z : P0} {st : List Value} {cu : Nat × Nat} {Q : Res → Mem → Prop} {σ : Mem} {x1 : Option Value} {u : Nat} : X z 65 197 [some (.ref u), x1] (st) cu σ Q = (X z 65 198 [some (.ref u), x1] (.ref u :: st) cu σ Q) := by
  rw [x65_197]
  rfl
theorem v65_198 {z : P0} {st : List Value} {cu : Nat × Nat} {Q : Res → Mem → Prop} {K : Nat → Nat × Nat} {I : Nat → Nat → Int32} {R : Nat → Nat → Option Nat} {L : Nat → Nat → Int64} {sz : Nat} {ex : Bool} {x0 x1 : Option Value} {u : Nat} : X z 65 198 [x0, x1] (.ref u :: st) cu (K, I, R, L, sz, ex) Q = ((K u).1 = 110 ∧ X z 65 201 [x0, x1] (va_rf (R u 3) :: st) cu (K, I, R, L, sz, ex) Q) := by
  rw [x65_198]
  rfl
theorem v65_201 {z : P0} {st : List Value} {cu : Nat × Nat} {Q : Res → Mem → Prop} {K : Nat → Nat × Nat} {I : Nat → Nat → Int32} {R : Nat → Nat → Option Nat} {L : Nat → Nat → Int64} {sz : Nat} {ex : Bool} {x0 x1 : Option Value} {u : Nat} : X z 65 201 [x0, x1] (.ref u :: st) cu (K, I, R, L, sz, ex) Q = ((K u).1 = 106 ∧ X z 65 204 [x0, x1] (.int (I u 8) :: st) cu (K, I, R, L, sz, ex) Q) := by
  rw [x65_201]
  rfl
theorem v65_204 {z : P0} {cu : Nat × Nat} {Q : Res → Mem → Prop} {σ : Mem} {x0 x1 : Option Value} {v : Int32} : X z 65 204 [x0, x1] ([.int v]) cu σ Q = (Q (.inl (some (.int v))) σ) := by
  rw [x65_204]
  exact propext ⟨fun h => h.2, fun h => ⟨trivial, h⟩⟩
theorem v66_0 {z : P0} {st : List Value} {cu : Nat × Nat} {Q : Res → Mem → Prop} {σ : Mem} {x0 : Option Value} {u : Int32} : X z 66 0 [x0, some (.int u)] (st) cu σ Q = (X z 66 1 [x0, some (.int u)] (.int u :: st) cu σ Q) := by
  rw [x66_0]
  rfl
theorem v66_1 {z : P0} {st : List Value} {cu : Nat × Nat} {Q : Res → Mem → Prop} {σ : Mem} {x0 x1 : Option Value} : X z 66 1 [x0, x1] (st) cu σ Q = (X z 66 2 [x0, x1] (.int (nI 1) :: st) cu σ Q) := by
  rw [x66_1]
  rfl
theorem v66_2 {z : P0} {st : List Value} {cu : Nat × Nat} {Q : Res → Mem → Prop} {σ : Mem} {x0 x1 : Option Value} {u v : Int32} : X z 66 2 [x0, x1] (.int v :: .int u :: st) cu σ Q = (if u < v then X z 66 11 [x0, x1] (st) cu σ Q else X z 66 5 [x0, x1] (st) cu σ Q) := by
  rw [x66_2]
  obtain ⟨K, I, R, L, sz, ex⟩ := σ
  exact br_ite
theorem v66_5 {z : P0} {st : List Value} {cu : Nat × Nat} {Q : Res → Mem → Prop} {σ : Mem} {x0 : Option Value} {u : Int32} : X z 66 5 [x0, some (.int u)] (st) cu σ Q = (X z 66 6 [x0, some (.int u)] (.int u :: st) cu σ Q) := by
  rw [x66_5]
  rfl
theorem v66_6 {z : P0} {st : List Value} {cu : Nat × Nat} {Q : Res → Mem → Prop} {σ : Mem} {x0 x1 : Option Value} : X z 66 6 [x0, x1] (st) cu σ Q = (X z 66 8 [x0, x1] (.int (nI 100) :: st) cu σ Q) := by
  rw [x66_6]
  rfl
theorem v66_8 {z : P0} {st : List Value} {cu : Nat × Nat} {Q : Res → Mem → Prop} {σ : Mem} {x0 x1 : Option Value} {u v : Int32} : X z 66 8 [x0, x1] (.int v :: .int u :: st) cu σ Q = (if v < u then X z 66 11 [x0, x1] (st) cu σ Q else X z 66 21 [x0, x1] (st) cu σ Q) := by
  rw [x66_8]
  obtain ⟨K, I, R, L, sz, ex⟩ := σ
  exact br_ge
theorem v66_11 {z : P0} {st : List Value} {Q : Res → Mem → Prop} {K : Nat → Nat × Nat} {I : Nat → Nat → Int32} {R : Nat → Nat → Option Nat} {L : Nat → Nat → Int64} {sz : Nat} {ex : Bool} {x0 x1 : Option Value} : X z 66 11 [x0, x1] (st) (0, 0) (K, I, R, L, sz, ex) Q = (wsum st ≤ 8 ∧ Q (.inr 0) (K, I, R, L, sz, false)) := by
  rw [x66_11]
  exact i_throw (i := 0) (j := 0)
theorem v66_14 {z : P0} {st : List Value} {cu : Nat × Nat} {Q : Res → Mem → Prop} {σ : Mem} {x0 x1 : Option Value} {u : Nat} : X z 66 14 [x0, x1] (.ref u :: st) cu σ Q = (X z 66 15 [x0, x1] (.ref u :: .ref u :: st) cu σ Q) := by
  rw [x66_14]
  exact propext ⟨fun h => h.2, fun h => ⟨rfl, h⟩⟩
theorem v66_14i {z : P0} {st : List Value} {cu : Nat × Nat} {Q : Res → Mem → Prop} {σ : Mem} {x0 x1 : Option Value} {u : Int32} : X z 66 14 [x0, x1] (.int u :: st) cu σ Q = (X z 66 15 [x0, x1] (.int u :: .int u :: st) cu σ Q) := by
  rw [x66_14]
  exact propext ⟨fun h => h.2, fun h => ⟨rfl, h⟩⟩
theorem v66_21 {z : P0} {st : List Value} {cu : Nat × Nat} {Q : Res → Mem → Prop} {σ : Mem} {x1 : Option Value} {u : Nat} : X z 66 21 [some (.ref u), x1] (st) cu σ Q = (X z 66 22 [some (.ref u), x1] (.ref u :: st) cu σ Q) := by
  rw [x66_21]
  rfl
theorem v66_22 {z : P0} {st : List Value} {cu : Nat × Nat} {Q : Res → Mem → Prop} {K : Nat → Nat × Nat} {I : Nat → Nat → Int32} {R : Nat → Nat → Option Nat} {L : Nat → Nat → Int64} {sz : Nat} {ex : Bool} {x0 x1 : Option Value} {u : Nat} : X z 66 22 [x0, x1] (.ref u :: st) cu (K, I, R, L, sz, ex) Q = ((K u).1 = 110 ∧ X z 66 25 [x0, x1] (va_rf (R u 0) :: st) cu (K, I, R, L, sz, ex) Q) := by
  rw [x66_22]
  rfl
theorem v66_25 {z : P0} {st : List Value} {cu : Nat × Nat} {Q : Res → Mem → Prop} {K : Nat → Nat × Nat} {I : Nat → Nat → Int32} {R : Nat → Nat → Option Nat} {L : Nat → Nat → Int64} {sz : Nat} {ex : Bool} {x0 x1 : Option Value} {u : Nat} : X z 66 25 [x0, x1] (.ref u :: st) cu (K, I, R, L, sz, ex) Q = ((K u).1 = 108 ∧ X z 66 28 [x0, x1] (.int (I u 6) :: st) cu (K, I, R, L, sz, ex) Q) := by
  rw [x66_25]
  rfl
theorem v66_28 {z : P0} {st : List Value} {cu : Nat × Nat} {Q : Res → Mem → Prop} {σ : Mem} {x0 : Option Value} {u : Int32} : X z 66 28 [x0, some (.int u)] (st) cu σ Q = (X z 66 29 [x0, some (.int u)] (.int u :: st) cu σ Q) := by
  rw [x66_28]
  rfl
theorem v66_29 {z : P0} {st : List Value} {cu : Nat × Nat} {Q : Res → Mem → Prop} {σ : Mem} {x0 x1 : Option Value} {u v : Int32} : X z 66 29 [x0, x1] (.int v :: .int u :: st) cu σ Q = (X z 66 30 [x0, x1] (.int (u + v) :: st) cu σ Q) := by
  rw [x66_29]
  rfl
theorem v66_30 {z : P0} {st : List Value} {cu : Nat × Nat} {Q : Res → Mem → Prop} {σ : Mem} {x0 x1 : Option Value} : X z 66 30 [x0, x1] (st) cu σ Q = (X z 66 33 [x0, x1] (.int (nI 10000) :: st) cu σ Q) := by
  rw [x66_30]
  rfl
theorem v66_33 {z : P0} {st : List Value} {cu : Nat × Nat} {Q : Res → Mem → Prop} {σ : Mem} {x0 x1 : Option Value} {u v : Int32} : X z 66 33 [x0, x1] (.int v :: .int u :: st) cu σ Q = (if v < u then X z 66 36 [x0, x1] (st) cu σ Q else X z 66 46 [x0, x1] (st) cu σ Q) := by
  rw [x66_33]
  obtain ⟨K, I, R, L, sz, ex⟩ := σ
  exact br_ge
theorem v66_36 {z : P0} {st : List Value} {Q : Res → Mem → Prop} {K : Nat → Nat × Nat} {I : Nat → Nat → Int32} {R : Nat → Nat → Option Nat} {L : Nat → Nat → Int64} {sz : Nat} {ex : Bool} {x0 x1 : Option Value} : X z 66 36 [x0, x1] (st) (0, 0) (K, I, R, L, sz, ex) Q = (wsum st ≤ 8 ∧ Q (.inr 1) (K, I, R, L, sz, false)) := by
  rw [x66_36]
  exact i_throw (i := 0) (j := 0)
theorem v66_39 {z : P0} {st : List Value} {cu : Nat × Nat} {Q : Res → Mem → Prop} {σ : Mem} {x0 x1 : Option Value} {u : Nat} : X z 66 39 [x0, x1] (.ref u :: st) cu σ Q = (X z 66 40 [x0, x1] (.ref u :: .ref u :: st) cu σ Q) := by
  rw [x66_39]
  exact propext ⟨fun h => h.2, fun h => ⟨rfl, h⟩⟩
theorem v66_39i {z : P0} {st : List Value} {cu : Nat × Nat} {Q : Res → Mem → Prop} {σ : Mem} {x0 x1 : Option Value} {u : Int32} : X z 66 39 [x0, x1] (.int u :: st) cu σ Q = (X z 66 40 [x0, x1] (.int u :: .int u :: st) cu σ Q) := by
  rw [x66_39]
  exact propext ⟨fun h => h.2, fun h => ⟨rfl, h⟩⟩
theorem v66_46 {z : P0} {st : List Value} {cu : Nat × Nat} {Q : Res → Mem → Prop} {σ : Mem} {x1 : Option Value} {u : Nat} : X z 66 46 [some (.ref u), x1] (st) cu σ Q = (X z 66 47 [some (.ref u), x1] (.ref u :: st) cu σ Q) := by
  rw [x66_46]
  rfl
theorem v66_47 {z : P0} {st : List Value} {cu : Nat × Nat} {Q : Res → Mem → Prop} {K : Nat → Nat × Nat} {I : Nat → Nat → Int32} {R : Nat → Nat → Option Nat} {L : Nat → Nat → Int64} {sz : Nat} {ex : Bool} {x0 x1 : Option Value} {u : Nat} : X z 66 47 [x0, x1] (.ref u :: st) cu (K, I, R, L, sz, ex) Q = ((K u).1 = 110 ∧ X z 66 50 [x0, x1] (va_rf (R u 1) :: st) cu (K, I, R, L, sz, ex) Q) := by
  rw [x66_47]
  rfl
theorem v66_50 {z : P0} {st : List Value} {cu : Nat × Nat} {Q : Res → Mem → Prop} {σ : Mem} {x1 : Option Value} {u : Nat} : X z 66 50 [some (.ref u), x1] (st) cu σ Q = (X z 66 51 [some (.ref u), x1] (.ref u :: st) cu σ Q) := by
  rw [x66_50]
  rfl
theorem v66_51 {z : P0} {st : List Value} {cu : Nat × Nat} {Q : Res → Mem → Prop} {K : Nat → Nat × Nat} {I : Nat → Nat → Int32} {R : Nat → Nat → Option Nat} {L : Nat → Nat → Int64} {sz : Nat} {ex : Bool} {x0 x1 : Option Value} {u : Nat} : X z 66 51 [x0, x1] (.ref u :: st) cu (K, I, R, L, sz, ex) Q = ((K u).1 = 110 ∧ X z 66 54 [x0, x1] (va_rf (R u 0) :: st) cu (K, I, R, L, sz, ex) Q) := by
  rw [x66_51]
  rfl
theorem u66_54 {z : P0} {ls : Lcs} {st : List Value} {K : Nat → Nat × Nat} {I : Nat → Nat → Int32} {R : Nat → Nat → Option Nat} {L : Nat → Nat → Int64} {sz : Nat} {ex : Bool} {Q : Res → Mem → Prop} {x : Nat} {a0 : Nat} : X z 66 54 ls (.ref a0 :: .ref x :: st) (0, 0) (K, I, R, L, sz, ex) Q = ((K x).1 = 103 ∧ wsum st ≤ 8 ∧ X z 24 0 [some (.ref x), some (.ref a0)] [] (0, 0) (K, I, R, L, sz, ex) (aftr (X z) mT 66 54 ls st (0, 0) Q)) := v66_54 (c := 0) (n := 0)
theorem v66_57 {z : P0} {st : List Value} {cu : Nat × Nat} {Q : Res → Mem → Prop} {σ : Mem} {x1 : Option Value} {u : Nat} : X z 66 57 [some (.ref u), x1] (st) cu σ Q = (X z 66 58 [some (.ref u), x1] (.ref u :: st) cu σ Q) := by
  rw [x66_57]
  rfl
theorem v66_58 {z : P0} {st : List Value} {cu : Nat × Nat} {Q : Res → Mem → Prop} {K : Nat → Nat × Nat} {I : Nat → Nat → Int32} {R : Nat → Nat → Option Nat} {L : Nat → Nat → Int64} {sz : Nat} {ex : Bool} {x0 x1 : Option Value} {u : Nat} : X z 66 58 [x0, x1] (.ref u :: st) cu (K, I, R, L, sz, ex) Q = ((K u).1 = 110 ∧ X z 66 61 [x0, x1] (va_rf (R u 0) :: st) cu (K, I, R, L, sz, ex) Q) := by
  rw [x66_58]
  rfl
theorem v66_61 {z : P0} {st : List Value} {cu : Nat × Nat} {Q : Res → Mem → Prop} {σ : Mem} {x0 x1 : Option Value} {u : Nat} : X z 66 61 [x0, x1] (.ref u :: st) cu σ Q = (X z 66 62 [x0, x1] (.ref u :: .ref u :: st) cu σ Q) := by
  rw [x66_61]
  exact propext ⟨fun h => h.2, fun h => ⟨rfl, h⟩⟩
theorem v66_61i {z : P0} {st : List Value} {cu : Nat × Nat} {Q : Res → Mem → Prop} {σ : Mem} {x0 x1 : Option Value} {u : Int32} : X z 66 61 [x0, x1] (.int u :: st) cu σ Q = (X z 66 62 [x0, x1] (.int u :: .int u :: st) cu σ Q) := by
  rw [x66_61]
  exact propext ⟨fun h => h.2, fun h => ⟨rfl, h⟩⟩
theorem v66_62 {z : P0} {st : List Value} {cu : Nat × Nat} {Q : Res → Mem → Prop} {K : Nat → Nat × Nat} {I : Nat → Nat → Int32} {R : Nat → Nat → Option Nat} {L : Nat → Nat → Int64} {sz : Nat} {ex : Bool} {x0 x1 : Option Value} {u : Nat} : X z 66 62 [x0, x1] (.ref u :: st) cu (K, I, R, L, sz, ex) Q = ((K u).1 = 108 ∧ X z 66 65 [x0, x1] (.int (I u 6) :: st) cu (K, I, R, L, sz, ex) Q) := by
  rw [x66_62]
  rfl
theorem v66_65 {z : P0} {st : List Value} {cu : Nat × Nat} {Q : Res → Mem → Prop} {σ : Mem} {x0 : Option Value} {u : Int32} : X z 66 65 [x0, some (.int u)] (st) cu σ Q = (X z 66 66 [x0, some (.int u)] (.int u :: st) cu σ Q) := by
  rw [x66_65]
  rfl
theorem v66_66 {z : P0} {st : List Value} {cu : Nat × Nat} {Q : Res → Mem → Prop} {σ : Mem} {x0 x1 : Option Value} {u v : Int32} : X z 66 66 [x0, x1] (.int v :: .int u :: st) cu σ Q = (X z 66 67 [x0, x1] (.int (u + v) :: st) cu σ Q) := by
  rw [x66_66]
  rfl
theorem v66_67 {z : P0} {st : List Value} {cu : Nat × Nat} {Q : Res → Mem → Prop} {K : Nat → Nat × Nat} {I : Nat → Nat → Int32} {R : Nat → Nat → Option Nat} {L : Nat → Nat → Int64} {sz : Nat} {ex : Bool} {x0 x1 : Option Value} {u : Nat} {v : Int32} : X z 66 67 [x0, x1] (.int v :: .ref u :: st) cu (K, I, R, L, sz, ex) Q = ((K u).1 = 108 ∧ X z 66 70 [x0, x1] (st) cu (K, up2 I u 6 v, R, L, sz, ex) Q) := by
  rw [x66_67]
  exact i_putI
theorem v66_70 {z : P0} {st : List Value} {cu : Nat × Nat} {Q : Res → Mem → Prop} {σ : Mem} {x1 : Option Value} {u : Nat} : X z 66 70 [some (.ref u), x1] (st) cu σ Q = (X z 66 71 [some (.ref u), x1] (.ref u :: st) cu σ Q) := by
  rw [x66_70]
  rfl
theorem v66_71 {z : P0} {st : List Value} {cu : Nat × Nat} {Q : Res → Mem → Prop} {K : Nat → Nat × Nat} {I : Nat → Nat → Int32} {R : Nat → Nat → Option Nat} {L : Nat → Nat → Int64} {sz : Nat} {ex : Bool} {x0 x1 : Option Value} {u : Nat} : X z 66 71 [x0, x1] (.ref u :: st) cu (K, I, R, L, sz, ex) Q = ((K u).1 = 110 ∧ X z 66 74 [x0, x1] (va_rf (R u 0) :: st) cu (K, I, R, L, sz, ex) Q) := by
  rw [x66_71]
  rfl
theorem v66_74 {z : P0} {st : List Value} {cu : Nat × Nat} {Q : Res → Mem → Prop} {K : Nat → Nat × Nat} {I : Nat → Nat → Int32} {R : Nat → Nat → Option Nat} {L : Nat → Nat → Int64} {sz : Nat} {ex : Bool} {x0 x1 : Option Value} {u : Nat} : X z 66 74 [x0, x1] (.ref u :: st) cu (K, I, R, L, sz, ex) Q = ((K u).1 = 108 ∧ X z 66 77 [x0, x1] (.int (I u 6) :: st) cu (K, I, R, L, sz, ex) Q) := by
  rw [x66_74]
  rfl
theorem v66_77 {z : P0} {cu : Nat × Nat} {Q : Res → Mem → Prop} {σ : Mem} {x0 x1 : Option Value} {v : Int32} : X z 66 77 [x0, x1] ([.int v]) cu σ Q = (Q (.inl (some (.int v))) σ) := by
  rw [x66_77]
  exact propext ⟨fun h => h.2, fun h => ⟨trivial, h⟩⟩
theorem v67_0 {z : P0} {st : List Value} {cu : Nat × Nat} {Q : Res → Mem → Prop} {σ : Mem} {x0 : Option Value} {u : Int32} : X z 67 0 [x0, some (.int u)] (st) cu σ Q = (X z 67 1 [x0, some (.int u)] (.int u :: st) cu σ Q) := by
  rw [x67_0]
  rfl
theorem v67_1 {z : P0} {st : List Value} {cu : Nat × Nat} {Q : Res → Mem → Prop} {σ : Mem} {x0 x1 : Option Value} : X z 67 1 [x0, x1] (st) cu σ Q = (X z 67 3 [x0, x1] (.int (nI 33) :: st) cu σ Q) := by
  rw [x67_1]
  rfl
theorem v67_3 {z : P0} {st : List Value} {cu : Nat × Nat} {Q : Res → Mem → Prop} {σ : Mem} {x0 x1 : Option Value} {u v : Int32} : X z 67 3 [x0, x1] (.int v :: .int u :: st) cu σ Q = (if u < v then X z 67 12 [x0, x1] (st) cu σ Q else X z 67 6 [x0, x1] (st) cu σ Q) := by
  rw [x67_3]
  obtain ⟨K, I, R, L, sz, ex⟩ := σ
  exact br_ite
theorem v67_6 {z : P0} {st : List Value} {cu : Nat × Nat} {Q : Res → Mem → Prop} {σ : Mem} {x0 : Option Value} {u : Int32} : X z 67 6 [x0, some (.int u)] (st) cu σ Q = (X z 67 7 [x0, some (.int u)] (.int u :: st) cu σ Q) := by
  rw [x67_6]
  rfl
theorem v67_7 {z : P0} {st : List Value} {cu : Nat × Nat} {Q : Res → Mem → Prop} {σ : Mem} {x0 x1 : Option Value} : X z 67 7 [x0, x1] (st) cu σ Q = (X z 67 9 [x0, x1] (.int (nI 126) :: st) cu σ Q) := by
  rw [x67_7]
  rfl
theorem v67_9 {z : P0} {st : List Value} {cu : Nat × Nat} {Q : Res → Mem → Prop} {σ : Mem} {x0 x1 : Option Value} {u v : Int32} : X z 67 9 [x0, x1] (.int v :: .int u :: st) cu σ Q = (if v < u then X z 67 12 [x0, x1] (st) cu σ Q else X z 67 22 [x0, x1] (st) cu σ Q) := by
  rw [x67_9]
  obtain ⟨K, I, R, L, sz, ex⟩ := σ
  exact br_ge
theorem v67_12 {z : P0} {st : List Value} {Q : Res → Mem → Prop} {K : Nat → Nat × Nat} {I : Nat → Nat → Int32} {R : Nat → Nat → Option Nat} {L : Nat → Nat → Int64} {sz : Nat} {ex : Bool} {x0 x1 : Option Value} : X z 67 12 [x0, x1] (st) (0, 0) (K, I, R, L, sz, ex) Q = (wsum st ≤ 8 ∧ Q (.inr 0) (K, I, R, L, sz, false)) := by
  rw [x67_12]
  exact i_throw (i := 0) (j := 0)
theorem v67_15 {z : P0} {st : List Value} {cu : Nat × Nat} {Q : Res → Mem → Prop} {σ : Mem} {x0 x1 : Option Value} {u : Nat} : X z 67 15 [x0, x1] (.ref u :: st) cu σ Q = (X z 67 16 [x0, x1] (.ref u :: .ref u :: st) cu σ Q) := by
  rw [x67_15]
  exact propext ⟨fun h => h.2, fun h => ⟨rfl, h⟩⟩
theorem v67_15i {z : P0} {st : List Value} {cu : Nat × Nat} {Q : Res → Mem → Prop} {σ : Mem} {x0 x1 : Option Value} {u : Int32} : X z 67 15 [x0, x1] (.int u :: st) cu σ Q = (X z 67 16 [x0, x1] (.int u :: .int u :: st) cu σ Q) := by
  rw [x67_15]
  exact propext ⟨fun h => h.2, fun h => ⟨rfl, h⟩⟩
theorem v67_22 {z : P0} {st : List Value} {cu : Nat × Nat} {Q : Res → Mem → Prop} {σ : Mem} {x1 : Option Value} {u : Nat} : X z 67 22 [some (.ref u), x1] (st) cu σ Q = (X z 67 23 [some (.ref u), x1] (.ref u :: st) cu σ Q) := by
  rw [x67_22]
  rfl
theorem v67_23 {z : P0} {st : List Value} {cu : Nat × Nat} {Q : Res → Mem → Prop} {K : Nat → Nat × Nat} {I : Nat → Nat → Int32} {R : Nat → Nat → Option Nat} {L : Nat → Nat → Int64} {sz : Nat} {ex : Bool} {x0 x1 : Option Value} {u : Nat} : X z 67 23 [x0, x1] (.ref u :: st) cu (K, I, R, L, sz, ex) Q = ((K u).1 = 110 ∧ X z 67 26 [x0, x1] (va_rf (R u 2) :: st) cu (K, I, R, L, sz, ex) Q) := by
  rw [x67_23]
  rfl
theorem v67_26 {z : P0} {st : List Value} {cu : Nat × Nat} {Q : Res → Mem → Prop} {K : Nat → Nat × Nat} {I : Nat → Nat → Int32} {R : Nat → Nat → Option Nat} {L : Nat → Nat → Int64} {sz : Nat} {ex : Bool} {x0 x1 : Option Value} {u : Nat} : X z 67 26 [x0, x1] (.ref u :: st) cu (K, I, R, L, sz, ex) Q = ((K u).1 = 100 ∧ X z 67 29 [x0, x1] (.int (I u 1) :: st) cu (K, I, R, L, sz, ex) Q) := by
  rw [x67_26]
  rfl
theorem v67_29 {z : P0} {st : List Value} {cu : Nat × Nat} {Q : Res → Mem → Prop} {σ : Mem} {x0 x1 : Option Value} : X z 67 29 [x0, x1] (st) cu σ Q = (X z 67 31 [x0, x1] (.int (nI 60) :: st) cu σ Q) := by
  rw [x67_29]
  rfl
theorem v67_31 {z : P0} {st : List Value} {cu : Nat × Nat} {Q : Res → Mem → Prop} {σ : Mem} {x0 x1 : Option Value} {u v : Int32} : X z 67 31 [x0, x1] (.int v :: .int u :: st) cu σ Q = (if u < v then X z 67 44 [x0, x1] (st) cu σ Q else X z 67 34 [x0, x1] (st) cu σ Q) := by
  rw [x67_31]
  obtain ⟨K, I, R, L, sz, ex⟩ := σ
  exact br_ite
theorem v67_34 {z : P0} {st : List Value} {Q : Res → Mem → Prop} {K : Nat → Nat × Nat} {I : Nat → Nat → Int32} {R : Nat → Nat → Option Nat} {L : Nat → Nat → Int64} {sz : Nat} {ex : Bool} {x0 x1 : Option Value} : X z 67 34 [x0, x1] (st) (0, 0) (K, I, R, L, sz, ex) Q = (wsum st ≤ 8 ∧ Q (.inr 1) (K, I, R, L, sz, false)) := by
  rw [x67_34]
  exact i_throw (i := 0) (j := 0)
theorem v67_37 {z : P0} {st : List Value} {cu : Nat × Nat} {Q : Res → Mem → Prop} {σ : Mem} {x0 x1 : Option Value} {u : Nat} : X z 67 37 [x0, x1] (.ref u :: st) cu σ Q = (X z 67 38 [x0, x1] (.ref u :: .ref u :: st) cu σ Q) := by
  rw [x67_37]
  exact propext ⟨fun h => h.2, fun h => ⟨rfl, h⟩⟩
theorem v67_37i {z : P0} {st : List Value} {cu : Nat × Nat} {Q : Res → Mem → Prop} {σ : Mem} {x0 x1 : Option Value} {u : Int32} : X z 67 37 [x0, x1] (.int u :: st) cu σ Q = (X z 67 38 [x0, x1] (.int u :: .int u :: st) cu σ Q) := by
  rw [x67_37]
  exact propext ⟨fun h => h.2, fun h => ⟨rfl, h⟩⟩
theorem v67_44 {z : P0} {st : List Value} {cu : Nat × Nat} {Q : Res → Mem → Prop} {σ : Mem} {x1 : Option Value} {u : Nat} : X z 67 44 [some (.ref u), x1] (st) cu σ Q = (X z 67 45 [some (.ref u), x1] (.ref u :: st) cu σ Q) := by
  rw [x67_44]
  rfl
theorem v67_45 {z : P0} {st : List Value} {cu : Nat × Nat} {Q : Res → Mem → Prop} {K : Nat → Nat × Nat} {I : Nat → Nat → Int32} {R : Nat → Nat → Option Nat} {L : Nat → Nat → Int64} {sz : Nat} {ex : Bool} {x0 x1 : Option Value} {u : Nat} : X z 67 45 [x0, x1] (.ref u :: st) cu (K, I, R, L, sz, ex) Q = ((K u).1 = 110 ∧ X z 67 48 [x0, x1] (va_rf (R u 2) :: st) cu (K, I, R, L, sz, ex) Q) := by
  rw [x67_45]
  rfl
theorem v67_48 {z : P0} {st : List Value} {cu : Nat × Nat} {Q : Res → Mem → Prop} {K : Nat → Nat × Nat} {I : Nat → Nat → Int32} {R : Nat → Nat → Option Nat} {L : Nat → Nat → Int64} {sz : Nat} {ex : Bool} {x0 x1 : Option Value} {u : Nat} : X z 67 48 [x0, x1] (.ref u :: st) cu (K, I, R, L, sz, ex) Q = ((K u).1 = 100 ∧ X z 67 51 [x0, x1] (va_rf (R u 0) :: st) cu (K, I, R, L, sz, ex) Q) := by
  rw [x67_48]
  rfl
theorem v67_51 {z : P0} {st : List Value} {cu : Nat × Nat} {Q : Res → Mem → Prop} {σ : Mem} {x1 : Option Value} {u : Nat} : X z 67 51 [some (.ref u), x1] (st) cu σ Q = (X z 67 52 [some (.ref u), x1] (.ref u :: st) cu σ Q) := by
  rw [x67_51]
  rfl
theorem v67_52 {z : P0} {st : List Value} {cu : Nat × Nat} {Q : Res → Mem → Prop} {K : Nat → Nat × Nat} {I : Nat → Nat → Int32} {R : Nat → Nat → Option Nat} {L : Nat → Nat → Int64} {sz : Nat} {ex : Bool} {x0 x1 : Option Value} {u : Nat} : X z 67 52 [x0, x1] (.ref u :: st) cu (K, I, R, L, sz, ex) Q = ((K u).1 = 110 ∧ X z 67 55 [x0, x1] (va_rf (R u 2) :: st) cu (K, I, R, L, sz, ex) Q) := by
  rw [x67_52]
  rfl
theorem v67_55 {z : P0} {st : List Value} {cu : Nat × Nat} {Q : Res → Mem → Prop} {K : Nat → Nat × Nat} {I : Nat → Nat → Int32} {R : Nat → Nat → Option Nat} {L : Nat → Nat → Int64} {sz : Nat} {ex : Bool} {x0 x1 : Option Value} {u : Nat} : X z 67 55 [x0, x1] (.ref u :: st) cu (K, I, R, L, sz, ex) Q = ((K u).1 = 100 ∧ X z 67 58 [x0, x1] (.int (I u 1) :: st) cu (K, I, R, L, sz, ex) Q) := by
  rw [x67_55]
  rfl
theorem v67_58 {z : P0} {st : List Value} {cu : Nat × Nat} {Q : Res → Mem → Prop} {σ : Mem} {x0 : Option Value} {u : Int32} : X z 67 58 [x0, some (.int u)] (st) cu σ Q = (X z 67 59 [x0, some (.int u)] (.int u :: st) cu σ Q) := by
  rw [x67_58]
  rfl
theorem v67_59 {z : P0} {st : List Value} {cu : Nat × Nat} {Q : Res → Mem → Prop} {K : Nat → Nat × Nat} {I : Nat → Nat → Int32} {R : Nat → Nat → Option Nat} {L : Nat → Nat → Int64} {sz : Nat} {ex : Bool} {x0 x1 : Option Value} {u : Nat} {j v : Int32} : X z 67 59 [x0, x1] (.int v :: .int j :: .ref u :: st) cu (K, I, R, L, sz, ex) Q = ((K u).1 = 20 ∧ vp_in j (K u).2 ∧ X z 67 60 [x0, x1] (st) cu (K, up2 I u j.toNatClampNeg v, R, L, sz, ex) Q) := by
  rw [x67_59]
  rfl
theorem v67_60 {z : P0} {st : List Value} {cu : Nat × Nat} {Q : Res → Mem → Prop} {σ : Mem} {x1 : Option Value} {u : Nat} : X z 67 60 [some (.ref u), x1] (st) cu σ Q = (X z 67 61 [some (.ref u), x1] (.ref u :: st) cu σ Q) := by
  rw [x67_60]
  rfl
theorem v67_61 {z : P0} {st : List Value} {cu : Nat × Nat} {Q : Res → Mem → Prop} {K : Nat → Nat × Nat} {I : Nat → Nat → Int32} {R : Nat → Nat → Option Nat} {L : Nat → Nat → Int64} {sz : Nat} {ex : Bool} {x0 x1 : Option Value} {u : Nat} : X z 67 61 [x0, x1] (.ref u :: st) cu (K, I, R, L, sz, ex) Q = ((K u).1 = 110 ∧ X z 67 64 [x0, x1] (va_rf (R u 2) :: st) cu (K, I, R, L, sz, ex) Q) := by
  rw [x67_61]
  rfl
theorem v67_64 {z : P0} {st : List Value} {cu : Nat × Nat} {Q : Res → Mem → Prop} {σ : Mem} {x0 x1 : Option Value} {u : Nat} : X z 67 64 [x0, x1] (.ref u :: st) cu σ Q = (X z 67 65 [x0, x1] (.ref u :: .ref u :: st) cu σ Q) := by
  rw [x67_64]
  exact propext ⟨fun h => h.2, fun h => ⟨rfl, h⟩⟩
theorem v67_64i {z : P0} {st : List Value} {cu : Nat × Nat} {Q : Res → Mem → Prop} {σ : Mem} {x0 x1 : Option Value} {u : Int32} : X z 67 64 [x0, x1] (.int u :: st) cu σ Q = (X z 67 65 [x0, x1] (.int u :: .int u :: st) cu σ Q) := by
  rw [x67_64]
  exact propext ⟨fun h => h.2, fun h => ⟨rfl, h⟩⟩
theorem v67_65 {z : P0} {st : List Value} {cu : Nat × Nat} {Q : Res → Mem → Prop} {K : Nat → Nat × Nat} {I : Nat → Nat → Int32} {R : Nat → Nat → Option Nat} {L : Nat → Nat → Int64} {sz : Nat} {ex : Bool} {x0 x1 : Option Value} {u : Nat} : X z 67 65 [x0, x1] (.ref u :: st) cu (K, I, R, L, sz, ex) Q = ((K u).1 = 100 ∧ X z 67 68 [x0, x1] (.int (I u 1) :: st) cu (K, I, R, L, sz, ex) Q) := by
  rw [x67_65]
  rfl
theorem v67_68 {z : P0} {st : List Value} {cu : Nat × Nat} {Q : Res → Mem → Prop} {σ : Mem} {x0 x1 : Option Value} : X z 67 68 [x0, x1] (st) cu σ Q = (X z 67 69 [x0, x1] (.int (nI 1) :: st) cu σ Q) := by
  rw [x67_68]
  rfl
theorem v67_69 {z : P0} {st : List Value} {cu : Nat × Nat} {Q : Res → Mem → Prop} {σ : Mem} {x0 x1 : Option Value} {u v : Int32} : X z 67 69 [x0, x1] (.int v :: .int u :: st) cu σ Q = (X z 67 70 [x0, x1] (.int (u + v) :: st) cu σ Q) := by
  rw [x67_69]
  rfl
theorem v67_70 {z : P0} {st : List Value} {cu : Nat × Nat} {Q : Res → Mem → Prop} {K : Nat → Nat × Nat} {I : Nat → Nat → Int32} {R : Nat → Nat → Option Nat} {L : Nat → Nat → Int64} {sz : Nat} {ex : Bool} {x0 x1 : Option Value} {u : Nat} {v : Int32} : X z 67 70 [x0, x1] (.int v :: .ref u :: st) cu (K, I, R, L, sz, ex) Q = ((K u).1 = 100 ∧ X z 67 73 [x0, x1] (st) cu (K, up2 I u 1 v, R, L, sz, ex) Q) := by
  rw [x67_70]
  exact i_putI
theorem v67_73 {z : P0} {st : List Value} {cu : Nat × Nat} {Q : Res → Mem → Prop} {σ : Mem} {x1 : Option Value} {u : Nat} : X z 67 73 [some (.ref u), x1] (st) cu σ Q = (X z 67 74 [some (.ref u), x1] (.ref u :: st) cu σ Q) := by
  rw [x67_73]
  rfl
theorem v67_74 {z : P0} {st : List Value} {cu : Nat × Nat} {Q : Res → Mem → Prop} {K : Nat → Nat × Nat} {I : Nat → Nat → Int32} {R : Nat → Nat → Option Nat} {L : Nat → Nat → Int64} {sz : Nat} {ex : Bool} {x0 x1 : Option Value} {u : Nat} : X z 67 74 [x0, x1] (.ref u :: st) cu (K, I, R, L, sz, ex) Q = ((K u).1 = 110 ∧ X z 67 77 [x0, x1] (va_rf (R u 2) :: st) cu (K, I, R, L, sz, ex) Q) := by
  rw [x67_74]
  rfl
theorem v67_77 {z : P0} {st : List Value} {cu : Nat × Nat} {Q : Res → Mem → Prop} {K : Nat → Nat × Nat} {I : Nat → Nat → Int32} {R : Nat → Nat → Option Nat} {L : Nat → Nat → Int64} {sz : Nat} {ex : Bool} {x0 x1 : Option Value} {u : Nat} : X z 67 77 [x0, x1] (.ref u :: st) cu (K, I, R, L, sz, ex) Q = ((K u).1 = 100 ∧ X z 67 80 [x0, x1] (.int (I u 1) :: st) cu (K, I, R, L, sz, ex) Q) := by
  rw [x67_77]
  rfl
theorem v67_80 {z : P0} {cu : Nat × Nat} {Q : Res → Mem → Prop} {σ : Mem} {x0 x1 : Option Value} {v : Int32} : X z 67 80 [x0, x1] ([.int v]) cu σ Q = (Q (.inl (some (.int v))) σ) := by
  rw [x67_80]
  exact propext ⟨fun h => h.2, fun h => ⟨trivial, h⟩⟩
theorem v68_0 {z : P0} {st : List Value} {cu : Nat × Nat} {Q : Res → Mem → Prop} {σ : Mem} {x1 : Option Value} {u : Nat} : X z 68 0 [some (.ref u), x1] (st) cu σ Q = (X z 68 1 [some (.ref u), x1] (.ref u :: st) cu σ Q) := by
  rw [x68_0]
  rfl
theorem v68_1 {z : P0} {st : List Value} {cu : Nat × Nat} {Q : Res → Mem → Prop} {K : Nat → Nat × Nat} {I : Nat → Nat → Int32} {R : Nat → Nat → Option Nat} {L : Nat → Nat → Int64} {sz : Nat} {ex : Bool} {x0 x1 : Option Value} {u : Nat} : X z 68 1 [x0, x1] (.ref u :: st) cu (K, I, R, L, sz, ex) Q = ((K u).1 = 110 ∧ X z 68 4 [x0, x1] (va_rf (R u 2) :: st) cu (K, I, R, L, sz, ex) Q) := by
  rw [x68_1]
  rfl
theorem v68_4 {z : P0} {st : List Value} {cu : Nat × Nat} {Q : Res → Mem → Prop} {K : Nat → Nat × Nat} {I : Nat → Nat → Int32} {R : Nat → Nat → Option Nat} {L : Nat → Nat → Int64} {sz : Nat} {ex : Bool} {x0 x1 : Option Value} {u : Nat} : X z 68 4 [x0, x1] (.ref u :: st) cu (K, I, R, L, sz, ex) Q = ((K u).1 = 100 ∧ X z 68 7 [x0, x1] (.int (I u 1) :: st) cu (K, I, R, L, sz, ex) Q) := by
  rw [x68_4]
  rfl
theorem v68_7 {z : P0} {st : List Value} {cu : Nat × Nat} {Q : Res → Mem → Prop} {σ : Mem} {x0 x1 : Option Value} {u : Int32} : X z 68 7 [x0, x1] (.int u :: st) cu σ Q = (cat2 x0 = false ∧ X z 68 8 [x0, some (.int u)] (st) cu σ Q) := by
  rw [x68_7]
  obtain ⟨K, I, R, L, sz, ex⟩ := σ
  exact i_istore_n.trans sl_1
theorem v68_8 {z : P0} {st : List Value} {cu : Nat × Nat} {Q : Res → Mem → Prop} {σ : Mem} {x1 : Option Value} {u : Nat} : X z 68 8 [some (.ref u), x1] (st) cu σ Q = (X z 68 9 [some (.ref u), x1] (.ref u :: st) cu σ Q) := by
  rw [x68_8]
  rfl
theorem v68_9 {z : P0} {st : List Value} {cu : Nat × Nat} {Q : Res → Mem → Prop} {K : Nat → Nat × Nat} {I : Nat → Nat → Int32} {R : Nat → Nat → Option Nat} {L : Nat → Nat → Int64} {sz : Nat} {ex : Bool} {x0 x1 : Option Value} {u : Nat} : X z 68 9 [x0, x1] (.ref u :: st) cu (K, I, R, L, sz, ex) Q = ((K u).1 = 110 ∧ X z 68 12 [x0, x1] (va_rf (R u 2) :: st) cu (K, I, R, L, sz, ex) Q) := by
  rw [x68_9]
  rfl
theorem v68_12 {z : P0} {st : List Value} {cu : Nat × Nat} {Q : Res → Mem → Prop} {σ : Mem} {x0 x1 : Option Value} : X z 68 12 [x0, x1] (st) cu σ Q = (X z 68 13 [x0, x1] (.int (nI 0) :: st) cu σ Q) := by
  rw [x68_12]
  rfl
theorem v68_13 {z : P0} {st : List Value} {cu : Nat × Nat} {Q : Res → Mem → Prop} {K : Nat → Nat × Nat} {I : Nat → Nat → Int32} {R : Nat → Nat → Option Nat} {L : Nat → Nat → Int64} {sz : Nat} {ex : Bool} {x0 x1 : Option Value} {u : Nat} {v : Int32} : X z 68 13 [x0, x1] (.int v :: .ref u :: st) cu (K, I, R, L, sz, ex) Q = ((K u).1 = 100 ∧ X z 68 16 [x0, x1] (st) cu (K, up2 I u 1 v, R, L, sz, ex) Q) := by
  rw [x68_13]
  exact i_putI
theorem v68_16 {z : P0} {st : List Value} {cu : Nat × Nat} {Q : Res → Mem → Prop} {σ : Mem} {x0 : Option Value} {u : Int32} : X z 68 16 [x0, some (.int u)] (st) cu σ Q = (X z 68 17 [x0, some (.int u)] (.int u :: st) cu σ Q) := by
  rw [x68_16]
  rfl
theorem v68_17 {z : P0} {cu : Nat × Nat} {Q : Res → Mem → Prop} {σ : Mem} {x0 x1 : Option Value} {v : Int32} : X z 68 17 [x0, x1] ([.int v]) cu σ Q = (Q (.inl (some (.int v))) σ) := by
  rw [x68_17]
  exact propext ⟨fun h => h.2, fun h => ⟨trivial, h⟩⟩
theorem v69_0 {z : P0} {st : List Value} {cu : Nat × Nat} {Q : Res → Mem → Prop} {σ : Mem} {x0 : Option Value} {u : Int32} : X z 69 0 [x0, some (.int u)] (st) cu σ Q = (X z 69 1 [x0, some (.int u)] (.int u :: st) cu σ Q) := by
  rw [x69_0]
  rfl
theorem v69_1 {z : P0} {st : List Value} {cu : Nat × Nat} {Q : Res → Mem → Prop} {σ : Mem} {x0 x1 : Option Value} {u : Int32} : X z 69 1 [x0, x1] (.int u :: st) cu σ Q = (if u < nI 0 then X z 69 9 [x0, x1] (st) cu σ Q else X z 69 4 [x0, x1] (st) cu σ Q) := by
  rw [x69_1]
  rw [nI_0]
  obtain ⟨K, I, R, L, sz, ex⟩ := σ
  exact br_ite
theorem v69_4 {z : P0} {st : List Value} {cu : Nat × Nat} {Q : Res → Mem → Prop} {σ : Mem} {x0 : Option Value} {u : Int32} : X z 69 4 [x0, some (.int u)] (st) cu σ Q = (X z 69 5 [x0, some (.int u)] (.int u :: st) cu σ Q) := by
  rw [x69_4]
  rfl
theorem v69_5 {z : P0} {st : List Value} {cu : Nat × Nat} {Q : Res → Mem → Prop} {σ : Mem} {x0 x1 : Option Value} : X z 69 5 [x0, x1] (st) cu σ Q = (X z 69 6 [x0, x1] (.int (nI 2) :: st) cu σ Q) := by
  rw [x69_5]
  rfl
theorem v69_6 {z : P0} {st : List Value} {cu : Nat × Nat} {Q : Res → Mem → Prop} {σ : Mem} {x0 x1 : Option Value} {u v : Int32} : X z 69 6 [x0, x1] (.int v :: .int u :: st) cu σ Q = (if v < u then X z 69 9 [x0, x1] (st) cu σ Q else X z 69 19 [x0, x1] (st) cu σ Q) := by
  rw [x69_6]
  obtain ⟨K, I, R, L, sz, ex⟩ := σ
  exact br_ge
theorem v69_9 {z : P0} {st : List Value} {Q : Res → Mem → Prop} {K : Nat → Nat × Nat} {I : Nat → Nat → Int32} {R : Nat → Nat → Option Nat} {L : Nat → Nat → Int64} {sz : Nat} {ex : Bool} {x0 x1 : Option Value} : X z 69 9 [x0, x1] (st) (0, 0) (K, I, R, L, sz, ex) Q = (wsum st ≤ 8 ∧ Q (.inr 0) (K, I, R, L, sz, false)) := by
  rw [x69_9]
  exact i_throw (i := 0) (j := 0)
theorem v69_12 {z : P0} {st : List Value} {cu : Nat × Nat} {Q : Res → Mem → Prop} {σ : Mem} {x0 x1 : Option Value} {u : Nat} : X z 69 12 [x0, x1] (.ref u :: st) cu σ Q = (X z 69 13 [x0, x1] (.ref u :: .ref u :: st) cu σ Q) := by
  rw [x69_12]
  exact propext ⟨fun h => h.2, fun h => ⟨rfl, h⟩⟩
theorem v69_12i {z : P0} {st : List Value} {cu : Nat × Nat} {Q : Res → Mem → Prop} {σ : Mem} {x0 x1 : Option Value} {u : Int32} : X z 69 12 [x0, x1] (.int u :: st) cu σ Q = (X z 69 13 [x0, x1] (.int u :: .int u :: st) cu σ Q) := by
  rw [x69_12]
  exact propext ⟨fun h => h.2, fun h => ⟨rfl, h⟩⟩
theorem v69_19 {z : P0} {st : List Value} {cu : Nat × Nat} {Q : Res → Mem → Prop} {σ : Mem} {x1 : Option Value} {u : Nat} : X z 69 19 [some (.ref u), x1] (st) cu σ Q = (X z 69 20 [some (.ref u), x1] (.ref u :: st) cu σ Q) := by
  rw [x69_19]
  rfl
theorem v69_20 {z : P0} {st : List Value} {cu : Nat × Nat} {Q : Res → Mem → Prop} {K : Nat → Nat × Nat} {I : Nat → Nat → Int32} {R : Nat → Nat → Option Nat} {L : Nat → Nat → Int64} {sz : Nat} {ex : Bool} {x0 x1 : Option Value} {u : Nat} : X z 69 20 [x0, x1] (.ref u :: st) cu (K, I, R, L, sz, ex) Q = ((K u).1 = 110 ∧ X z 69 23 [x0, x1] (va_rf (R u 2) :: st) cu (K, I, R, L, sz, ex) Q) := by
  rw [x69_20]
  rfl
theorem v69_23 {z : P0} {st : List Value} {cu : Nat × Nat} {Q : Res → Mem → Prop} {σ : Mem} {x0 : Option Value} {u : Int32} : X z 69 23 [x0, some (.int u)] (st) cu σ Q = (X z 69 24 [x0, some (.int u)] (.int u :: st) cu σ Q) := by
  rw [x69_23]
  rfl
theorem u69_24 {z : P0} {ls : Lcs} {st : List Value} {K : Nat → Nat × Nat} {I : Nat → Nat → Int32} {R : Nat → Nat → Option Nat} {L : Nat → Nat → Int64} {sz : Nat} {ex : Bool} {Q : Res → Mem → Prop} {x : Nat} {a0 : Int32} : X z 69 24 ls (.int a0 :: .ref x :: st) (0, 0) (K, I, R, L, sz, ex) Q = ((K x).1 = 100 ∧ wsum st ≤ 8 ∧ X z 1 0 [some (.ref x), some (.int a0), none, none] [] (0, 0) (K, I, R, L, sz, ex) (aftr (X z) mT 69 24 ls st (0, 0) Q)) := v69_24 (c := 0) (n := 0)
theorem v69_27 {z : P0} {cu : Nat × Nat} {Q : Res → Mem → Prop} {σ : Mem} {x0 x1 : Option Value} {v : Int32} : X z 69 27 [x0, x1] ([.int v]) cu σ Q = (Q (.inl (some (.int v))) σ) := by
  rw [x69_27]
  exact propext ⟨fun h => h.2, fun h => ⟨trivial, h⟩⟩
theorem v71_0 {z : P0} {st : List Value} {cu : Nat × Nat} {Q : Res → Mem → Prop} {σ : Mem} {x1 x2 : Option Value} {u : Nat} : X z 71 0 [some (.ref u), x1, x2] (st) cu σ Q = (X z 71 1 [some (.ref u), x1, x2] (.ref u :: st) cu σ Q) := by
  rw [x71_0]
  rfl
theorem v71_1 {z : P0} {st : List Value} {cu : Nat × Nat} {Q : Res → Mem → Prop} {σ : Mem} {x0 x2 : Option Value} {u : Int32} : X z 71 1 [x0, some (.int u), x2] (st) cu σ Q = (X z 71 2 [x0, some (.int u), x2] (.int u :: st) cu σ Q) := by
  rw [x71_1]
  rfl
theorem u71_2 {z : P0} {ls : Lcs} {st : List Value} {K : Nat → Nat × Nat} {I : Nat → Nat → Int32} {R : Nat → Nat → Option Nat} {L : Nat → Nat → Int64} {sz : Nat} {ex : Bool} {Q : Res → Mem → Prop} {x : Nat} {a0 : Int32} : X z 71 2 ls (.int a0 :: .ref x :: st) (0, 0) (K, I, R, L, sz, ex) Q = ((K x).1 = 110 ∧ wsum st ≤ 8 ∧ X z 89 0 [some (.ref x), some (.int a0)] [] (0, 0) (K, I, R, L, sz, ex) (aftr (X z) mT 71 2 ls st (0, 0) Q)) := v71_2 (c := 0) (n := 0)
theorem v71_5 {z : P0} {st : List Value} {cu : Nat × Nat} {Q : Res → Mem → Prop} {σ : Mem} {x0 x1 x2 : Option Value} {u : Int32} : X z 71 5 [x0, x1, x2] (.int u :: st) cu σ Q = (if u = nI 0 then X z 71 8 [x0, x1, x2] (st) cu σ Q else X z 71 18 [x0, x1, x2] (st) cu σ Q) := by
  rw [x71_5]
  rw [nI_0]
  obtain ⟨K, I, R, L, sz, ex⟩ := σ
  exact br_ne
theorem v71_8 {z : P0} {st : List Value} {Q : Res → Mem → Prop} {K : Nat → Nat × Nat} {I : Nat → Nat → Int32} {R : Nat → Nat → Option Nat} {L : Nat → Nat → Int64} {sz : Nat} {ex : Bool} {x0 x1 x2 : Option Value} : X z 71 8 [x0, x1, x2] (st) (0, 0) (K, I, R, L, sz, ex) Q = (wsum st ≤ 8 ∧ Q (.inr 2) (K, I, R, L, sz, false)) := by
  rw [x71_8]
  exact i_throw (i := 0) (j := 0)
theorem v71_11 {z : P0} {st : List Value} {cu : Nat × Nat} {Q : Res → Mem → Prop} {σ : Mem} {x0 x1 x2 : Option Value} {u : Nat} : X z 71 11 [x0, x1, x2] (.ref u :: st) cu σ Q = (X z 71 12 [x0, x1, x2] (.ref u :: .ref u :: st) cu σ Q) := by
  rw [x71_11]
  exact propext ⟨fun h => h.2, fun h => ⟨rfl, h⟩⟩
theorem v71_11i {z : P0} {st : List Value} {cu : Nat × Nat} {Q : Res → Mem → Prop} {σ : Mem} {x0 x1 x2 : Option Value} {u : Int32} : X z 71 11 [x0, x1, x2] (.int u :: st) cu σ Q = (X z 71 12 [x0, x1, x2] (.int u :: .int u :: st) cu σ Q) := by
  rw [x71_11]
  exact propext ⟨fun h => h.2, fun h => ⟨rfl, h⟩⟩
theorem v71_18 {z : P0} {st : List Value} {cu : Nat × Nat} {Q : Res → Mem → Prop} {σ : Mem} {x0 x1 : Option Value} {u : Int32} : X z 71 18 [x0, x1, some (.int u)] (st) cu σ Q = (X z 71 19 [x0, x1, some (.int u)] (.int u :: st) cu σ Q) := by
  rw [x71_18]
  rfl
theorem v71_19 {z : P0} {st : List Value} {cu : Nat × Nat} {Q : Res → Mem → Prop} {σ : Mem} {x0 x1 x2 : Option Value} {u : Int32} : X z 71 19 [x0, x1, x2] (.int u :: st) cu σ Q = (if u < nI 0 then X z 71 28 [x0, x1, x2] (st) cu σ Q else X z 71 22 [x0, x1, x2] (st) cu σ Q) := by
  rw [x71_19]
  rw [nI_0]
  obtain ⟨K, I, R, L, sz, ex⟩ := σ
  exact br_ite
theorem v71_22 {z : P0} {st : List Value} {cu : Nat × Nat} {Q : Res → Mem → Prop} {σ : Mem} {x0 x1 : Option Value} {u : Int32} : X z 71 22 [x0, x1, some (.int u)] (st) cu σ Q = (X z 71 23 [x0, x1, some (.int u)] (.int u :: st) cu σ Q) := by
  rw [x71_22]
  rfl
theorem v71_23 {z : P0} {st : List Value} {cu : Nat × Nat} {Q : Res → Mem → Prop} {σ : Mem} {x0 x1 x2 : Option Value} : X z 71 23 [x0, x1, x2] (st) cu σ Q = (X z 71 25 [x0, x1, x2] (.int (nI 8) :: st) cu σ Q) := by
  rw [x71_23]
  rfl
theorem v71_25 {z : P0} {st : List Value} {cu : Nat × Nat} {Q : Res → Mem → Prop} {σ : Mem} {x0 x1 x2 : Option Value} {u v : Int32} : X z 71 25 [x0, x1, x2] (.int v :: .int u :: st) cu σ Q = (if v < u then X z 71 28 [x0, x1, x2] (st) cu σ Q else X z 71 38 [x0, x1, x2] (st) cu σ Q) := by
  rw [x71_25]
  obtain ⟨K, I, R, L, sz, ex⟩ := σ
  exact br_ge
theorem v71_28 {z : P0} {st : List Value} {Q : Res → Mem → Prop} {K : Nat → Nat × Nat} {I : Nat → Nat → Int32} {R : Nat → Nat → Option Nat} {L : Nat → Nat → Int64} {sz : Nat} {ex : Bool} {x0 x1 x2 : Option Value} : X z 71 28 [x0, x1, x2] (st) (0, 0) (K, I, R, L, sz, ex) Q = (wsum st ≤ 8 ∧ Q (.inr 0) (K, I, R, L, sz, false)) := by
  rw [x71_28]
  exact i_throw (i := 0) (j := 0)
theorem v71_31 {z : P0} {st : List Value} {cu : Nat × Nat} {Q : Res → Mem → Prop} {σ : Mem} {x0 x1 x2 : Option Value} {u : Nat} : X z 71 31 [x0, x1, x2] (.ref u :: st) cu σ Q = (X z 71 32 [x0, x1, x2] (.ref u :: .ref u :: st) cu σ Q) := by
  rw [x71_31]
  exact propext ⟨fun h => h.2, fun h => ⟨rfl, h⟩⟩
theorem v71_31i {z : P0} {st : List Value} {cu : Nat × Nat} {Q : Res → Mem → Prop} {σ : Mem} {x0 x1 x2 : Option Value} {u : Int32} : X z 71 31 [x0, x1, x2] (.int u :: st) cu σ Q = (X z 71 32 [x0, x1, x2] (.int u :: .int u :: st) cu σ Q) := by
  rw [x71_31]
  exact propext ⟨fun h => h.2, fun h => ⟨rfl, h⟩⟩
theorem v71_38 {z : P0} {st : List Value} {cu : Nat × Nat} {Q : Res → Mem → Prop} {σ : Mem} {x1 x2 : Option Value} {u : Nat} : X z 71 38 [some (.ref u), x1, x2] (st) cu σ Q = (X z 71 39 [some (.ref u), x1, x2] (.ref u :: st) cu σ Q) := by
  rw [x71_38]
  rfl
theorem v71_39 {z : P0} {st : List Value} {cu : Nat × Nat} {Q : Res → Mem → Prop} {K : Nat → Nat × Nat} {I : Nat → Nat → Int32} {R : Nat → Nat → Option Nat} {L : Nat → Nat → Int64} {sz : Nat} {ex : Bool} {x0 x1 x2 : Option Value} {u : Nat} : X z 71 39 [x0, x1, x2] (.ref u :: st) cu (K, I, R, L, sz, ex) Q = ((K u).1 = 110 ∧ X z 71 42 [x0, x1, x2] (va_rf (R u 3) :: st) cu (K, I, R, L, sz, ex) Q) := by
  rw [x71_39]
  rfl
theorem v71_42 {z : P0} {st : List Value} {cu : Nat × Nat} {Q : Res → Mem → Prop} {σ : Mem} {x1 x2 : Option Value} {u : Nat} : X z 71 42 [some (.ref u), x1, x2] (st) cu σ Q = (X z 71 43 [some (.ref u), x1, x2] (.ref u :: st) cu σ Q) := by
  rw [x71_42]
  rfl
theorem v71_43 {z : P0} {st : List Value} {cu : Nat × Nat} {Q : Res → Mem → Prop} {K : Nat → Nat × Nat} {I : Nat → Nat → Int32} {R : Nat → Nat → Option Nat} {L : Nat → Nat → Int64} {sz : Nat} {ex : Bool} {x0 x1 x2 : Option Value} {u : Nat} : X z 71 43 [x0, x1, x2] (.ref u :: st) cu (K, I, R, L, sz, ex) Q = ((K u).1 = 110 ∧ X z 71 46 [x0, x1, x2] (va_rf (R u 0) :: st) cu (K, I, R, L, sz, ex) Q) := by
  rw [x71_43]
  rfl
theorem v71_46 {z : P0} {st : List Value} {cu : Nat × Nat} {Q : Res → Mem → Prop} {σ : Mem} {x1 x2 : Option Value} {u : Nat} : X z 71 46 [some (.ref u), x1, x2] (st) cu σ Q = (X z 71 47 [some (.ref u), x1, x2] (.ref u :: st) cu σ Q) := by
  rw [x71_46]
  rfl
theorem v71_47 {z : P0} {st : List Value} {cu : Nat × Nat} {Q : Res → Mem → Prop} {K : Nat → Nat × Nat} {I : Nat → Nat → Int32} {R : Nat → Nat → Option Nat} {L : Nat → Nat → Int64} {sz : Nat} {ex : Bool} {x0 x1 x2 : Option Value} {u : Nat} : X z 71 47 [x0, x1, x2] (.ref u :: st) cu (K, I, R, L, sz, ex) Q = ((K u).1 = 110 ∧ X z 71 50 [x0, x1, x2] (va_rf (R u 0) :: st) cu (K, I, R, L, sz, ex) Q) := by
  rw [x71_47]
  rfl
theorem v71_50 {z : P0} {st : List Value} {cu : Nat × Nat} {Q : Res → Mem → Prop} {K : Nat → Nat × Nat} {I : Nat → Nat → Int32} {R : Nat → Nat → Option Nat} {L : Nat → Nat → Int64} {sz : Nat} {ex : Bool} {x0 x1 x2 : Option Value} {u : Nat} : X z 71 50 [x0, x1, x2] (.ref u :: st) cu (K, I, R, L, sz, ex) Q = ((K u).1 = 108 ∧ X z 71 53 [x0, x1, x2] (va_rf (R u 5) :: st) cu (K, I, R, L, sz, ex) Q) := by
  rw [x71_50]
  rfl
theorem u71_53 {z : P0} {ls : Lcs} {st : List Value} {K : Nat → Nat × Nat} {I : Nat → Nat → Int32} {R : Nat → Nat → Option Nat} {L : Nat → Nat → Int64} {sz : Nat} {ex : Bool} {Q : Res → Mem → Prop} {x : Nat} {a0 : Nat} {a1 : Nat} : X z 71 53 ls (.ref a1 :: .ref a0 :: .ref x :: st) (0, 0) (K, I, R, L, sz, ex) Q = ((K x).1 = 106 ∧ wsum st ≤ 8 ∧ X z 38 0 [some (.ref x), some (.ref a0), some (.ref a1), none, none] [] (0, 0) (K, I, R, L, sz, ex) (aftr (X z) mT 71 53 ls st (0, 0) Q)) := v71_53 (c := 0) (n := 0)
theorem v71_56 {z : P0} {st : List Value} {cu : Nat × Nat} {Q : Res → Mem → Prop} {σ : Mem} {x1 x2 : Option Value} {u : Nat} : X z 71 56 [some (.ref u), x1, x2] (st) cu σ Q = (X z 71 57 [some (.ref u), x1, x2] (.ref u :: st) cu σ Q) := by
  rw [x71_56]
  rfl
theorem v71_57 {z : P0} {st : List Value} {cu : Nat × Nat} {Q : Res → Mem → Prop} {σ : Mem} {x0 x2 : Option Value} {u : Int32} : X z 71 57 [x0, some (.int u), x2] (st) cu σ Q = (X z 71 58 [x0, some (.int u), x2] (.int u :: st) cu σ Q) := by
  rw [x71_57]
  rfl
theorem v71_58 {z : P0} {st : List Value} {cu : Nat × Nat} {Q : Res → Mem → Prop} {σ : Mem} {x0 x1 : Option Value} {u : Int32} : X z 71 58 [x0, x1, some (.int u)] (st) cu σ Q = (X z 71 59 [x0, x1, some (.int u)] (.int u :: st) cu σ Q) := by
  rw [x71_58]
  rfl
theorem u71_59 {z : P0} {ls : Lcs} {st : List Value} {K : Nat → Nat × Nat} {I : Nat → Nat → Int32} {R : Nat → Nat → Option Nat} {L : Nat → Nat → Int64} {sz : Nat} {ex : Bool} {Q : Res → Mem → Prop} {x : Nat} {a0 : Int32} {a1 : Int32} : X z 71 59 ls (.int a1 :: .int a0 :: .ref x :: st) (0, 0) (K, I, R, L, sz, ex) Q = ((K x).1 = 110 ∧ wsum st ≤ 8 ∧ X z 93 0 [some (.ref x), some (.int a0), some (.int a1), none] [] (0, 0) (K, I, R, L, sz, ex) (aftr (X z) mT 71 59 ls st (0, 0) Q)) := v71_59 (c := 0) (n := 0)
theorem v71_62 {z : P0} {cu : Nat × Nat} {Q : Res → Mem → Prop} {σ : Mem} {x0 x1 x2 : Option Value} {v : Int32} : X z 71 62 [x0, x1, x2] ([.int v]) cu σ Q = (Q (.inl (some (.int v))) σ) := by
  rw [x71_62]
  exact propext ⟨fun h => h.2, fun h => ⟨trivial, h⟩⟩
theorem v74_0 {z : P0} {st : List Value} {cu : Nat × Nat} {Q : Res → Mem → Prop} {σ : Mem} {x1 x2 : Option Value} {u : Nat} : X z 74 0 [some (.ref u), x1, x2] (st) cu σ Q = (X z 74 1 [some (.ref u), x1, x2] (.ref u :: st) cu σ Q) := by
  rw [x74_0]
  rfl
theorem v74_1 {z : P0} {st : List Value} {cu : Nat × Nat} {Q : Res → Mem → Prop} {K : Nat → Nat × Nat} {I : Nat → Nat → Int32} {R : Nat → Nat → Option Nat} {L : Nat → Nat → Int64} {sz : Nat} {ex : Bool} {x0 x1 x2 : Option Value} {u : Nat} : X z 74 1 [x0, x1, x2] (.ref u :: st) cu (K, I, R, L, sz, ex) Q = ((K u).1 = 110 ∧ X z 74 4 [x0, x1, x2] (va_rf (R u 3) :: st) cu (K, I, R, L, sz, ex) Q) := by
  rw [x74_1]
  rfl
theorem v74_4 {z : P0} {st : List Value} {cu : Nat × Nat} {Q : Res → Mem → Prop} {σ : Mem} {x1 x2 : Option Value} {u : Nat} : X z 74 4 [some (.ref u), x1, x2] (st) cu σ Q = (X z 74 5 [some (.ref u), x1, x2] (.ref u :: st) cu σ Q) := by
  rw [x74_4]
  rfl
theorem v74_5 {z : P0} {st : List Value} {cu : Nat × Nat} {Q : Res → Mem → Prop} {K : Nat → Nat × Nat} {I : Nat → Nat → Int32} {R : Nat → Nat → Option Nat} {L : Nat → Nat → Int64} {sz : Nat} {ex : Bool} {x0 x1 x2 : Option Value} {u : Nat} : X z 74 5 [x0, x1, x2] (.ref u :: st) cu (K, I, R, L, sz, ex) Q = ((K u).1 = 110 ∧ X z 74 8 [x0, x1, x2] (va_rf (R u 0) :: st) cu (K, I, R, L, sz, ex) Q) := by
  rw [x74_5]
  rfl
theorem v74_8 {z : P0} {st : List Value} {cu : Nat × Nat} {Q : Res → Mem → Prop} {σ : Mem} {x1 x2 : Option Value} {u : Nat} : X z 74 8 [some (.ref u), x1, x2] (st) cu σ Q = (X z 74 9 [some (.ref u), x1, x2] (.ref u :: st) cu σ Q) := by
  rw [x74_8]
  rfl
theorem v74_9 {z : P0} {st : List Value} {cu : Nat × Nat} {Q : Res → Mem → Prop} {K : Nat → Nat × Nat} {I : Nat → Nat → Int32} {R : Nat → Nat → Option Nat} {L : Nat → Nat → Int64} {sz : Nat} {ex : Bool} {x0 x1 x2 : Option Value} {u : Nat} : X z 74 9 [x0, x1, x2] (.ref u :: st) cu (K, I, R, L, sz, ex) Q = ((K u).1 = 110 ∧ X z 74 12 [x0, x1, x2] (va_rf (R u 0) :: st) cu (K, I, R, L, sz, ex) Q) := by
  rw [x74_9]
  rfl
theorem v74_12 {z : P0} {st : List Value} {cu : Nat × Nat} {Q : Res → Mem → Prop} {K : Nat → Nat × Nat} {I : Nat → Nat → Int32} {R : Nat → Nat → Option Nat} {L : Nat → Nat → Int64} {sz : Nat} {ex : Bool} {x0 x1 x2 : Option Value} {u : Nat} : X z 74 12 [x0, x1, x2] (.ref u :: st) cu (K, I, R, L, sz, ex) Q = ((K u).1 = 108 ∧ X z 74 15 [x0, x1, x2] (va_rf (R u 5) :: st) cu (K, I, R, L, sz, ex) Q) := by
  rw [x74_12]
  rfl
theorem u74_15 {z : P0} {ls : Lcs} {st : List Value} {K : Nat → Nat × Nat} {I : Nat → Nat → Int32} {R : Nat → Nat → Option Nat} {L : Nat → Nat → Int64} {sz : Nat} {ex : Bool} {Q : Res → Mem → Prop} {x : Nat} {a0 : Nat} {a1 : Nat} : X z 74 15 ls (.ref a1 :: .ref a0 :: .ref x :: st) (0, 0) (K, I, R, L, sz, ex) Q = ((K x).1 = 106 ∧ wsum st ≤ 8 ∧ X z 38 0 [some (.ref x), some (.ref a0), some (.ref a1), none, none] [] (0, 0) (K, I, R, L, sz, ex) (aftr (X z) mT 74 15 ls st (0, 0) Q)) := v74_15 (c := 0) (n := 0)
theorem v74_18 {z : P0} {st : List Value} {cu : Nat × Nat} {Q : Res → Mem → Prop} {σ : Mem} {x1 x2 : Option Value} {u : Nat} : X z 74 18 [some (.ref u), x1, x2] (st) cu σ Q = (X z 74 19 [some (.ref u), x1, x2] (.ref u :: st) cu σ Q) := by
  rw [x74_18]
  rfl
theorem v74_19 {z : P0} {st : List Value} {cu : Nat × Nat} {Q : Res → Mem → Prop} {K : Nat → Nat × Nat} {I : Nat → Nat → Int32} {R : Nat → Nat → Option Nat} {L : Nat → Nat → Int64} {sz : Nat} {ex : Bool} {x0 x1 x2 : Option Value} {u : Nat} : X z 74 19 [x0, x1, x2] (.ref u :: st) cu (K, I, R, L, sz, ex) Q = ((K u).1 = 110 ∧ X z 74 22 [x0, x1, x2] (va_rf (R u 3) :: st) cu (K, I, R, L, sz, ex) Q) := by
  rw [x74_19]
  rfl
theorem v74_22 {z : P0} {st : List Value} {cu : Nat × Nat} {Q : Res → Mem → Prop} {σ : Mem} {x0 x2 : Option Value} {u : Int32} : X z 74 22 [x0, some (.int u), x2] (st) cu σ Q = (X z 74 23 [x0, some (.int u), x2] (.int u :: st) cu σ Q) := by
  rw [x74_22]
  rfl
theorem u74_23 {z : P0} {ls : Lcs} {st : List Value} {K : Nat → Nat × Nat} {I : Nat → Nat → Int32} {R : Nat → Nat → Option Nat} {L : Nat → Nat → Int64} {sz : Nat} {ex : Bool} {Q : Res → Mem → Prop} {x : Nat} {a0 : Int32} : X z 74 23 ls (.int a0 :: .ref x :: st) (0, 0) (K, I, R, L, sz, ex) Q = ((K x).1 = 106 ∧ wsum st ≤ 8 ∧ X z 37 0 [some (.ref x), some (.int a0)] [] (0, 0) (K, I, R, L, sz, ex) (aftr (X z) mT 74 23 ls st (0, 0) Q)) := v74_23 (c := 0) (n := 0)
theorem v74_26 {z : P0} {st : List Value} {cu : Nat × Nat} {Q : Res → Mem → Prop} {σ : Mem} {x0 x1 x2 : Option Value} {u : Int32} : X z 74 26 [x0, x1, x2] (.int u :: st) cu σ Q = (if u = nI 0 then X z 74 29 [x0, x1, x2] (st) cu σ Q else X z 74 40 [x0, x1, x2] (st) cu σ Q) := by
  rw [x74_26]
  rw [nI_0]
  obtain ⟨K, I, R, L, sz, ex⟩ := σ
  exact br_ne
theorem v74_29 {z : P0} {st : List Value} {Q : Res → Mem → Prop} {K : Nat → Nat × Nat} {I : Nat → Nat → Int32} {R : Nat → Nat → Option Nat} {L : Nat → Nat → Int64} {sz : Nat} {ex : Bool} {x0 x1 x2 : Option Value} : X z 74 29 [x0, x1, x2] (st) (0, 0) (K, I, R, L, sz, ex) Q = (wsum st ≤ 8 ∧ Q (.inr 2) (K, I, R, L, sz, false)) := by
  rw [x74_29]
  exact i_throw (i := 0) (j := 0)
theorem v74_32 {z : P0} {st : List Value} {cu : Nat × Nat} {Q : Res → Mem → Prop} {σ : Mem} {x0 x1 x2 : Option Value} {u : Nat} : X z 74 32 [x0, x1, x2] (.ref u :: st) cu σ Q = (X z 74 33 [x0, x1, x2] (.ref u :: .ref u :: st) cu σ Q) := by
  rw [x74_32]
  exact propext ⟨fun h => h.2, fun h => ⟨rfl, h⟩⟩
theorem v74_32i {z : P0} {st : List Value} {cu : Nat × Nat} {Q : Res → Mem → Prop} {σ : Mem} {x0 x1 x2 : Option Value} {u : Int32} : X z 74 32 [x0, x1, x2] (.int u :: st) cu σ Q = (X z 74 33 [x0, x1, x2] (.int u :: .int u :: st) cu σ Q) := by
  rw [x74_32]
  exact propext ⟨fun h => h.2, fun h => ⟨rfl, h⟩⟩
theorem v74_40 {z : P0} {st : List Value} {cu : Nat × Nat} {Q : Res → Mem → Prop} {σ : Mem} {x0 x1 : Option Value} {u : Int32} : X z 74 40 [x0, x1, some (.int u)] (st) cu σ Q = (X z 74 41 [x0, x1, some (.int u)] (.int u :: st) cu σ Q) := by
  rw [x74_40]
  rfl
theorem v74_41 {z : P0} {st : List Value} {cu : Nat × Nat} {Q : Res → Mem → Prop} {σ : Mem} {x0 x1 x2 : Option Value} {u : Int32} : X z 74 41 [x0, x1, x2] (.int u :: st) cu σ Q = (if u < nI 0 then X z 74 50 [x0, x1, x2] (st) cu σ Q else X z 74 44 [x0, x1, x2] (st) cu σ Q) := by
  rw [x74_41]
  rw [nI_0]
  obtain ⟨K, I, R, L, sz, ex⟩ := σ
  exact br_ite
theorem v74_44 {z : P0} {st : List Value} {cu : Nat × Nat} {Q : Res → Mem → Prop} {σ : Mem} {x0 x1 : Option Value} {u : Int32} : X z 74 44 [x0, x1, some (.int u)] (st) cu σ Q = (X z 74 45 [x0, x1, some (.int u)] (.int u :: st) cu σ Q) := by
  rw [x74_44]
  rfl
theorem v74_45 {z : P0} {st : List Value} {cu : Nat × Nat} {Q : Res → Mem → Prop} {σ : Mem} {x0 x1 x2 : Option Value} : X z 74 45 [x0, x1, x2] (st) cu σ Q = (X z 74 47 [x0, x1, x2] (.int (nI 7) :: st) cu σ Q) := by
  rw [x74_45]
  rfl
theorem v74_47 {z : P0} {st : List Value} {cu : Nat × Nat} {Q : Res → Mem → Prop} {σ : Mem} {x0 x1 x2 : Option Value} {u v : Int32} : X z 74 47 [x0, x1, x2] (.int v :: .int u :: st) cu σ Q = (if v < u then X z 74 50 [x0, x1, x2] (st) cu σ Q else X z 74 61 [x0, x1, x2] (st) cu σ Q) := by
  rw [x74_47]
  obtain ⟨K, I, R, L, sz, ex⟩ := σ
  exact br_ge
theorem v74_50 {z : P0} {st : List Value} {Q : Res → Mem → Prop} {K : Nat → Nat × Nat} {I : Nat → Nat → Int32} {R : Nat → Nat → Option Nat} {L : Nat → Nat → Int64} {sz : Nat} {ex : Bool} {x0 x1 x2 : Option Value} : X z 74 50 [x0, x1, x2] (st) (0, 0) (K, I, R, L, sz, ex) Q = (wsum st ≤ 8 ∧ Q (.inr 0) (K, I, R, L, sz, false)) := by
  rw [x74_50]
  exact i_throw (i := 0) (j := 0)
theorem v74_53 {z : P0} {st : List Value} {cu : Nat × Nat} {Q : Res → Mem → Prop} {σ : Mem} {x0 x1 x2 : Option Value} {u : Nat} : X z 74 53 [x0, x1, x2] (.ref u :: st) cu σ Q = (X z 74 54 [x0, x1, x2] (.ref u :: .ref u :: st) cu σ Q) := by
  rw [x74_53]
  exact propext ⟨fun h => h.2, fun h => ⟨rfl, h⟩⟩
theorem v74_53i {z : P0} {st : List Value} {cu : Nat × Nat} {Q : Res → Mem → Prop} {σ : Mem} {x0 x1 x2 : Option Value} {u : Int32} : X z 74 53 [x0, x1, x2] (.int u :: st) cu σ Q = (X z 74 54 [x0, x1, x2] (.int u :: .int u :: st) cu σ Q) := by
  rw [x74_53]
  exact propext ⟨fun h => h.2, fun h => ⟨rfl, h⟩⟩
theorem v74_61 {z : P0} {st : List Value} {cu : Nat × Nat} {Q : Res → Mem → Prop} {σ : Mem} {x1 x2 : Option Value} {u : Nat} : X z 74 61 [some (.ref u), x1, x2] (st) cu σ Q = (X z 74 62 [some (.ref u), x1, x2] (.ref u :: st) cu σ Q) := by
  rw [x74_61]
  rfl
theorem v74_62 {z : P0} {st : List Value} {cu : Nat × Nat} {Q : Res → Mem → Prop} {σ : Mem} {x0 x2 : Option Value} {u : Int32} : X z 74 62 [x0, some (.int u), x2] (st) cu σ Q = (X z 74 63 [x0, some (.int u), x2] (.int u :: st) cu σ Q) := by
  rw [x74_62]
  rfl
theorem v74_63 {z : P0} {st : List Value} {cu : Nat × Nat} {Q : Res → Mem → Prop} {σ : Mem} {x0 x1 : Option Value} {u : Int32} : X z 74 63 [x0, x1, some (.int u)] (st) cu σ Q = (X z 74 64 [x0, x1, some (.int u)] (.int u :: st) cu σ Q) := by
  rw [x74_63]
  rfl
theorem u74_64 {z : P0} {ls : Lcs} {st : List Value} {K : Nat → Nat × Nat} {I : Nat → Nat → Int32} {R : Nat → Nat → Option Nat} {L : Nat → Nat → Int64} {sz : Nat} {ex : Bool} {Q : Res → Mem → Prop} {x : Nat} {a0 : Int32} {a1 : Int32} : X z 74 64 ls (.int a1 :: .int a0 :: .ref x :: st) (0, 0) (K, I, R, L, sz, ex) Q = ((K x).1 = 110 ∧ wsum st ≤ 8 ∧ X z 95 0 [some (.ref x), some (.int a0), some (.int a1), none] [] (0, 0) (K, I, R, L, sz, ex) (aftr (X z) mT 74 64 ls st (0, 0) Q)) := v74_64 (c := 0) (n := 0)
theorem v74_67 {z : P0} {cu : Nat × Nat} {Q : Res → Mem → Prop} {σ : Mem} {x0 x1 x2 : Option Value} {v : Int32} : X z 74 67 [x0, x1, x2] ([.int v]) cu σ Q = (Q (.inl (some (.int v))) σ) := by
  rw [x74_67]
  exact propext ⟨fun h => h.2, fun h => ⟨trivial, h⟩⟩
theorem v75_0 {z : P0} {st : List Value} {cu : Nat × Nat} {Q : Res → Mem → Prop} {σ : Mem} {x1 x2 : Option Value} {u : Nat} : X z 75 0 [some (.ref u), x1, x2] (st) cu σ Q = (X z 75 1 [some (.ref u), x1, x2] (.ref u :: st) cu σ Q) := by
  rw [x75_0]
  rfl
theorem v75_1 {z : P0} {st : List Value} {cu : Nat × Nat} {Q : Res → Mem → Prop} {K : Nat → Nat × Nat} {I : Nat → Nat → Int32} {R : Nat → Nat → Option Nat} {L : Nat → Nat → Int64} {sz : Nat} {ex : Bool} {x0 x1 x2 : Option Value} {u : Nat} : X z 75 1 [x0, x1, x2] (.ref u :: st) cu (K, I, R, L, sz, ex) Q = ((K u).1 = 110 ∧ X z 75 4 [x0, x1, x2] (va_rf (R u 3) :: st) cu (K, I, R, L, sz, ex) Q) := by
  rw [x75_1]
  rfl
theorem v75_4 {z : P0} {st : List Value} {cu : Nat × Nat} {Q : Res → Mem → Prop} {σ : Mem} {x1 x2 : Option Value} {u : Nat} : X z 75 4 [some (.ref u), x1, x2] (st) cu σ Q = (X z 75 5 [some (.ref u), x1, x2] (.ref u :: st) cu σ Q) := by
  rw [x75_4]
  rfl
theorem v75_5 {z : P0} {st : List Value} {cu : Nat × Nat} {Q : Res → Mem → Prop} {K : Nat → Nat × Nat} {I : Nat → Nat → Int32} {R : Nat → Nat → Option Nat} {L : Nat → Nat → Int64} {sz : Nat} {ex : Bool} {x0 x1 x2 : Option Value} {u : Nat} : X z 75 5 [x0, x1, x2] (.ref u :: st) cu (K, I, R, L, sz, ex) Q = ((K u).1 = 110 ∧ X z 75 8 [x0, x1, x2] (va_rf (R u 0) :: st) cu (K, I, R, L, sz, ex) Q) := by
  rw [x75_5]
  rfl
theorem v75_8 {z : P0} {st : List Value} {cu : Nat × Nat} {Q : Res → Mem → Prop} {σ : Mem} {x1 x2 : Option Value} {u : Nat} : X z 75 8 [some (.ref u), x1, x2] (st) cu σ Q = (X z 75 9 [some (.ref u), x1, x2] (.ref u :: st) cu σ Q) := by
  rw [x75_8]
  rfl
theorem v75_9 {z : P0} {st : List Value} {cu : Nat × Nat} {Q : Res → Mem → Prop} {K : Nat → Nat × Nat} {I : Nat → Nat → Int32} {R : Nat → Nat → Option Nat} {L : Nat → Nat → Int64} {sz : Nat} {ex : Bool} {x0 x1 x2 : Option Value} {u : Nat} : X z 75 9 [x0, x1, x2] (.ref u :: st) cu (K, I, R, L, sz, ex) Q = ((K u).1 = 110 ∧ X z 75 12 [x0, x1, x2] (va_rf (R u 0) :: st) cu (K, I, R, L, sz, ex) Q) := by
  rw [x75_9]
  rfl
theorem v75_12 {z : P0} {st : List Value} {cu : Nat × Nat} {Q : Res → Mem → Prop} {K : Nat → Nat × Nat} {I : Nat → Nat → Int32} {R : Nat → Nat → Option Nat} {L : Nat → Nat → Int64} {sz : Nat} {ex : Bool} {x0 x1 x2 : Option Value} {u : Nat} : X z 75 12 [x0, x1, x2] (.ref u :: st) cu (K, I, R, L, sz, ex) Q = ((K u).1 = 108 ∧ X z 75 15 [x0, x1, x2] (va_rf (R u 5) :: st) cu (K, I, R, L, sz, ex) Q) := by
  rw [x75_12]
  rfl
theorem u75_15 {z : P0} {ls : Lcs} {st : List Value} {K : Nat → Nat × Nat} {I : Nat → Nat → Int32} {R : Nat → Nat → Option Nat} {L : Nat → Nat → Int64} {sz : Nat} {ex : Bool} {Q : Res → Mem → Prop} {x : Nat} {a0 : Nat} {a1 : Nat} : X z 75 15 ls (.ref a1 :: .ref a0 :: .ref x :: st) (0, 0) (K, I, R, L, sz, ex) Q = ((K x).1 = 106 ∧ wsum st ≤ 8 ∧ X z 38 0 [some (.ref x), some (.ref a0), some (.ref a1), none, none] [] (0, 0) (K, I, R, L, sz, ex) (aftr (X z) mT 75 15 ls st (0, 0) Q)) := v75_15 (c := 0) (n := 0)
theorem v75_18 {z : P0} {st : List Value} {cu : Nat × Nat} {Q : Res → Mem → Prop} {σ : Mem} {x1 x2 : Option Value} {u : Nat} : X z 75 18 [some (.ref u), x1, x2] (st) cu σ Q = (X z 75 19 [some (.ref u), x1, x2] (.ref u :: st) cu σ Q) := by
  rw [x75_18]
  rfl
theorem v75_19 {z : P0} {st : List Value} {cu : Nat × Nat} {Q : Res → Mem → Prop} {K : Nat → Nat × Nat} {I : Nat → Nat → Int32} {R : Nat → Nat → Option Nat} {L : Nat → Nat → Int64} {sz : Nat} {ex : Bool} {x0 x1 x2 : Option Value} {u : Nat} : X z 75 19 [x0, x1, x2] (.ref u :: st) cu (K, I, R, L, sz, ex) Q = ((K u).1 = 110 ∧ X z 75 22 [x0, x1, x2] (va_rf (R u 3) :: st) cu (K, I, R, L, sz, ex) Q) := by
  rw [x75_19]
  rfl
theorem v75_22 {z : P0} {st : List Value} {cu : Nat × Nat} {Q : Res → Mem → Prop} {σ : Mem} {x0 x2 : Option Value} {u : Int32} : X z 75 22 [x0, some (.int u), x2] (st) cu σ Q = (X z 75 23 [x0, some (.int u), x2] (.int u :: st) cu σ Q) := by
  rw [x75_22]
  rfl
theorem u75_23 {z : P0} {ls : Lcs} {st : List Value} {K : Nat → Nat × Nat} {I : Nat → Nat → Int32} {R : Nat → Nat → Option Nat} {L : Nat → Nat → Int64} {sz : Nat} {ex : Bool} {Q : Res → Mem → Prop} {x : Nat} {a0 : Int32} : X z 75 23 ls (.int a0 :: .ref x :: st) (0, 0) (K, I, R, L, sz, ex) Q = ((K x).1 = 106 ∧ wsum st ≤ 8 ∧ X z 37 0 [some (.ref x), some (.int a0)] [] (0, 0) (K, I, R, L, sz, ex) (aftr (X z) mT 75 23 ls st (0, 0) Q)) := v75_23 (c := 0) (n := 0)
theorem v75_26 {z : P0} {st : List Value} {cu : Nat × Nat} {Q : Res → Mem → Prop} {σ : Mem} {x0 x1 x2 : Option Value} {u : Int32} : X z 75 26 [x0, x1, x2] (.int u :: st) cu σ Q = (if u = nI 0 then X z 75 49 [x0, x1, x2] (st) cu σ Q else X z 75 29 [x0, x1, x2] (st) cu σ Q) := by
  rw [x75_26]
  rw [nI_0]
  obtain ⟨K, I, R, L, sz, ex⟩ := σ
  exact br_ite
theorem v75_29 {z : P0} {st : List Value} {cu : Nat × Nat} {Q : Res → Mem → Prop} {σ : Mem} {x0 x1 : Option Value} {u : Int32} : X z 75 29 [x0, x1, some (.int u)] (st) cu σ Q = (X z 75 30 [x0, x1, some (.int u)] (.int u :: st) cu σ Q) := by
  rw [x75_29]
  rfl
theorem v75_30 {z : P0} {st : List Value} {cu : Nat × Nat} {Q : Res → Mem → Prop} {σ : Mem} {x0 x1 x2 : Option Value} {u : Int32} : X z 75 30 [x0, x1, x2] (.int u :: st) cu σ Q = (if u < nI 0 then X z 75 49 [x0, x1, x2] (st) cu σ Q else X z 75 33 [x0, x1, x2] (st) cu σ Q) := by
  rw [x75_30]
  rw [nI_0]
  obtain ⟨K, I, R, L, sz, ex⟩ := σ
  exact br_ite
theorem v75_33 {z : P0} {st : List Value} {cu : Nat × Nat} {Q : Res → Mem → Prop} {σ : Mem} {x0 x1 : Option Value} {u : Int32} : X z 75 33 [x0, x1, some (.int u)] (st) cu σ Q = (X z 75 34 [x0, x1, some (.int u)] (.int u :: st) cu σ Q) := by
  rw [x75_33]
  rfl
theorem v75_34 {z : P0} {st : List Value} {cu : Nat × Nat} {Q : Res → Mem → Prop} {σ : Mem} {x1 x2 : Option Value} {u : Nat} : X z 75 34 [some (.ref u), x1, x2] (st) cu σ Q = (X z 75 35 [some (.ref u), x1, x2] (.ref u :: st) cu σ Q) := by
  rw [x75_34]
  rfl
theorem v75_35 {z : P0} {st : List Value} {cu : Nat × Nat} {Q : Res → Mem → Prop} {K : Nat → Nat × Nat} {I : Nat → Nat → Int32} {R : Nat → Nat → Option Nat} {L : Nat → Nat → Int64} {sz : Nat} {ex : Bool} {x0 x1 x2 : Option Value} {u : Nat} : X z 75 35 [x0, x1, x2] (.ref u :: st) cu (K, I, R, L, sz, ex) Q = ((K u).1 = 110 ∧ X z 75 38 [x0, x1, x2] (va_rf (R u 3) :: st) cu (K, I, R, L, sz, ex) Q) := by
  rw [x75_35]
  rfl
theorem v75_38 {z : P0} {st : List Value} {cu : Nat × Nat} {Q : Res → Mem → Prop} {K : Nat → Nat × Nat} {I : Nat → Nat → Int32} {R : Nat → Nat → Option Nat} {L : Nat → Nat → Int64} {sz : Nat} {ex : Bool} {x0 x1 x2 : Option Value} {u : Nat} : X z 75 38 [x0, x1, x2] (.ref u :: st) cu (K, I, R, L, sz, ex) Q = ((K u).1 = 106 ∧ X z 75 41 [x0, x1, x2] (va_rf (R u 0) :: st) cu (K, I, R, L, sz, ex) Q) := by
  rw [x75_38]
  rfl
theorem v75_41 {z : P0} {st : List Value} {cu : Nat × Nat} {Q : Res → Mem → Prop} {σ : Mem} {x0 x2 : Option Value} {u : Int32} : X z 75 41 [x0, some (.int u), x2] (st) cu σ Q = (X z 75 42 [x0, some (.int u), x2] (.int u :: st) cu σ Q) := by
  rw [x75_41]
  rfl
theorem v75_42 {z : P0} {st : List Value} {cu : Nat × Nat} {Q : Res → Mem → Prop} {K : Nat → Nat × Nat} {I : Nat → Nat → Int32} {R : Nat → Nat → Option Nat} {L : Nat → Nat → Int64} {sz : Nat} {ex : Bool} {x0 x1 x2 : Option Value} {u : Nat} {v : Int32} : X z 75 42 [x0, x1, x2] (.int v :: .ref u :: st) cu (K, I, R, L, sz, ex) Q = (((K u).1 = 22 ∨ (K u).1 = 23 ∨ (K u).1 = 24 ∨ (K u).1 = 25) ∧ vp_in v (K u).2 ∧ X z 75 43 [x0, x1, x2] (va_rf (R u v.toNatClampNeg) :: st) cu (K, I, R, L, sz, ex) Q) := by
  rw [x75_42]
  rfl
theorem v75_43 {z : P0} {st : List Value} {cu : Nat × Nat} {Q : Res → Mem → Prop} {K : Nat → Nat × Nat} {I : Nat → Nat → Int32} {R : Nat → Nat → Option Nat} {L : Nat → Nat → Int64} {sz : Nat} {ex : Bool} {x0 x1 x2 : Option Value} {u : Nat} : X z 75 43 [x0, x1, x2] (.ref u :: st) cu (K, I, R, L, sz, ex) Q = ((K u).1 = 102 ∧ X z 75 46 [x0, x1, x2] (.int (I u 3) :: st) cu (K, I, R, L, sz, ex) Q) := by
  rw [x75_43]
  rfl
theorem v75_46 {z : P0} {st : List Value} {cu : Nat × Nat} {Q : Res → Mem → Prop} {σ : Mem} {x0 x1 x2 : Option Value} {u v : Int32} : X z 75 46 [x0, x1, x2] (.int v :: .int u :: st) cu σ Q = (if u < v then X z 75 60 [x0, x1, x2] (st) cu σ Q else X z 75 49 [x0, x1, x2] (st) cu σ Q) := by
  rw [x75_46]
  obtain ⟨K, I, R, L, sz, ex⟩ := σ
  exact br_ite
theorem v75_49 {z : P0} {st : List Value} {Q : Res → Mem → Prop} {K : Nat → Nat × Nat} {I : Nat → Nat → Int32} {R : Nat → Nat → Option Nat} {L : Nat → Nat → Int64} {sz : Nat} {ex : Bool} {x0 x1 x2 : Option Value} : X z 75 49 [x0, x1, x2] (st) (0, 0) (K, I, R, L, sz, ex) Q = (wsum st ≤ 8 ∧ Q (.inr 2) (K, I, R, L, sz, false)) := by
  rw [x75_49]
  exact i_throw (i := 0) (j := 0)
theorem v75_52 {z : P0} {st : List Value} {cu : Nat × Nat} {Q : Res → Mem → Prop} {σ : Mem} {x0 x1 x2 : Option Value} {u : Nat} : X z 75 52 [x0, x1, x2] (.ref u :: st) cu σ Q = (X z 75 53 [x0, x1, x2] (.ref u :: .ref u :: st) cu σ Q) := by
  rw [x75_52]
  exact propext ⟨fun h => h.2, fun h => ⟨rfl, h⟩⟩
theorem v75_52i {z : P0} {st : List Value} {cu : Nat × Nat} {Q : Res → Mem → Prop} {σ : Mem} {x0 x1 x2 : Option Value} {u : Int32} : X z 75 52 [x0, x1, x2] (.int u :: st) cu σ Q = (X z 75 53 [x0, x1, x2] (.int u :: .int u :: st) cu σ Q) := by
  rw [x75_52]
  exact propext ⟨fun h => h.2, fun h => ⟨rfl, h⟩⟩
theorem v75_60 {z : P0} {st : List Value} {cu : Nat × Nat} {Q : Res → Mem → Prop} {σ : Mem} {x1 x2 : Option Value} {u : Nat} : X z 75 60 [some (.ref u), x1, x2] (st) cu σ Q = (X z 75 61 [some (.ref u), x1, x2] (.ref u :: st) cu σ Q) := by
  rw [x75_60]
  rfl
theorem v75_61 {z : P0} {st : List Value} {cu : Nat × Nat} {Q : Res → Mem → Prop} {K : Nat → Nat × Nat} {I : Nat → Nat → Int32} {R : Nat → Nat → Option Nat} {L : Nat → Nat → Int64} {sz : Nat} {ex : Bool} {x0 x1 x2 : Option Value} {u : Nat} : X z 75 61 [x0, x1, x2] (.ref u :: st) cu (K, I, R, L, sz, ex) Q = ((K u).1 = 110 ∧ X z 75 64 [x0, x1, x2] (va_rf (R u 3) :: st) cu (K, I, R, L, sz, ex) Q) := by
  rw [x75_61]
  rfl
theorem v75_64 {z : P0} {st : List Value} {cu : Nat × Nat} {Q : Res → Mem → Prop} {K : Nat → Nat × Nat} {I : Nat → Nat → Int32} {R : Nat → Nat → Option Nat} {L : Nat → Nat → Int64} {sz : Nat} {ex : Bool} {x0 x1 x2 : Option Value} {u : Nat} : X z 75 64 [x0, x1, x2] (.ref u :: st) cu (K, I, R, L, sz, ex) Q = ((K u).1 = 106 ∧ X z 75 67 [x0, x1, x2] (va_rf (R u 4) :: st) cu (K, I, R, L, sz, ex) Q) := by
  rw [x75_64]
  rfl
theorem v75_67 {z : P0} {st : List Value} {cu : Nat × Nat} {Q : Res → Mem → Prop} {σ : Mem} {x1 x2 : Option Value} {u : Nat} : X z 75 67 [some (.ref u), x1, x2] (st) cu σ Q = (X z 75 68 [some (.ref u), x1, x2] (.ref u :: st) cu σ Q) := by
  rw [x75_67]
  rfl
theorem v75_68 {z : P0} {st : List Value} {cu : Nat × Nat} {Q : Res → Mem → Prop} {K : Nat → Nat × Nat} {I : Nat → Nat → Int32} {R : Nat → Nat → Option Nat} {L : Nat → Nat → Int64} {sz : Nat} {ex : Bool} {x0 x1 x2 : Option Value} {u : Nat} : X z 75 68 [x0, x1, x2] (.ref u :: st) cu (K, I, R, L, sz, ex) Q = ((K u).1 = 110 ∧ X z 75 71 [x0, x1, x2] (va_rf (R u 0) :: st) cu (K, I, R, L, sz, ex) Q) := by
  rw [x75_68]
  rfl
theorem v75_71 {z : P0} {st : List Value} {cu : Nat × Nat} {Q : Res → Mem → Prop} {σ : Mem} {x1 x2 : Option Value} {u : Nat} : X z 75 71 [some (.ref u), x1, x2] (st) cu σ Q = (X z 75 72 [some (.ref u), x1, x2] (.ref u :: st) cu σ Q) := by
  rw [x75_71]
  rfl
theorem v75_72 {z : P0} {st : List Value} {cu : Nat × Nat} {Q : Res → Mem → Prop} {K : Nat → Nat × Nat} {I : Nat → Nat → Int32} {R : Nat → Nat → Option Nat} {L : Nat → Nat → Int64} {sz : Nat} {ex : Bool} {x0 x1 x2 : Option Value} {u : Nat} : X z 75 72 [x0, x1, x2] (.ref u :: st) cu (K, I, R, L, sz, ex) Q = ((K u).1 = 110 ∧ X z 75 75 [x0, x1, x2] (va_rf (R u 3) :: st) cu (K, I, R, L, sz, ex) Q) := by
  rw [x75_72]
  rfl
theorem v75_75 {z : P0} {st : List Value} {cu : Nat × Nat} {Q : Res → Mem → Prop} {K : Nat → Nat × Nat} {I : Nat → Nat → Int32} {R : Nat → Nat → Option Nat} {L : Nat → Nat → Int64} {sz : Nat} {ex : Bool} {x0 x1 x2 : Option Value} {u : Nat} : X z 75 75 [x0, x1, x2] (.ref u :: st) cu (K, I, R, L, sz, ex) Q = ((K u).1 = 106 ∧ X z 75 78 [x0, x1, x2] (va_rf (R u 0) :: st) cu (K, I, R, L, sz, ex) Q) := by
  rw [x75_75]
  rfl
theorem v75_78 {z : P0} {st : List Value} {cu : Nat × Nat} {Q : Res → Mem → Prop} {σ : Mem} {x0 x2 : Option Value} {u : Int32} : X z 75 78 [x0, some (.int u), x2] (st) cu σ Q = (X z 75 79 [x0, some (.int u), x2] (.int u :: st) cu σ Q) := by
  rw [x75_78]
  rfl
theorem v75_79 {z : P0} {st : List Value} {cu : Nat × Nat} {Q : Res → Mem → Prop} {K : Nat → Nat × Nat} {I : Nat → Nat → Int32} {R : Nat → Nat → Option Nat} {L : Nat → Nat → Int64} {sz : Nat} {ex : Bool} {x0 x1 x2 : Option Value} {u : Nat} {v : Int32} : X z 75 79 [x0, x1, x2] (.int v :: .ref u :: st) cu (K, I, R, L, sz, ex) Q = (((K u).1 = 22 ∨ (K u).1 = 23 ∨ (K u).1 = 24 ∨ (K u).1 = 25) ∧ vp_in v (K u).2 ∧ X z 75 80 [x0, x1, x2] (va_rf (R u v.toNatClampNeg) :: st) cu (K, I, R, L, sz, ex) Q) := by
  rw [x75_79]
  rfl
theorem u75_80 {z : P0} {ls : Lcs} {st : List Value} {K : Nat → Nat × Nat} {I : Nat → Nat → Int32} {R : Nat → Nat → Option Nat} {L : Nat → Nat → Int64} {sz : Nat} {ex : Bool} {Q : Res → Mem → Prop} {x : Nat} {a0 : Nat} {a1 : Nat} : X z 75 80 ls (.ref a1 :: .ref a0 :: .ref x :: st) (0, 0) (K, I, R, L, sz, ex) Q = ((K x).1 = 101 ∧ wsum st ≤ 8 ∧ X z 10 0 [some (.ref x), some (.ref a0), some (.ref a1), none, none, none, none] [] (0, 0) (K, I, R, L, sz, ex) (aftr (X z) mT 75 80 ls st (0, 0) Q)) := v75_80 (c := 0) (n := 0)
theorem v75_83 {z : P0} {st : List Value} {cu : Nat × Nat} {Q : Res → Mem → Prop} {σ : Mem} {x1 x2 : Option Value} {u : Nat} : X z 75 83 [some (.ref u), x1, x2] (st) cu σ Q = (X z 75 84 [some (.ref u), x1, x2] (.ref u :: st) cu σ Q) := by
  rw [x75_83]
  rfl
theorem v75_84 {z : P0} {st : List Value} {cu : Nat × Nat} {Q : Res → Mem → Prop} {K : Nat → Nat × Nat} {I : Nat → Nat → Int32} {R : Nat → Nat → Option Nat} {L : Nat → Nat → Int64} {sz : Nat} {ex : Bool} {x0 x1 x2 : Option Value} {u : Nat} : X z 75 84 [x0, x1, x2] (.ref u :: st) cu (K, I, R, L, sz, ex) Q = ((K u).1 = 110 ∧ X z 75 87 [x0, x1, x2] (va_rf (R u 3) :: st) cu (K, I, R, L, sz, ex) Q) := by
  rw [x75_84]
  rfl
theorem v75_87 {z : P0} {st : List Value} {cu : Nat × Nat} {Q : Res → Mem → Prop} {K : Nat → Nat × Nat} {I : Nat → Nat → Int32} {R : Nat → Nat → Option Nat} {L : Nat → Nat → Int64} {sz : Nat} {ex : Bool} {x0 x1 x2 : Option Value} {u : Nat} : X z 75 87 [x0, x1, x2] (.ref u :: st) cu (K, I, R, L, sz, ex) Q = ((K u).1 = 106 ∧ X z 75 90 [x0, x1, x2] (va_rf (R u 4) :: st) cu (K, I, R, L, sz, ex) Q) := by
  rw [x75_87]
  rfl
theorem v75_90 {z : P0} {st : List Value} {cu : Nat × Nat} {Q : Res → Mem → Prop} {K : Nat → Nat × Nat} {I : Nat → Nat → Int32} {R : Nat → Nat → Option Nat} {L : Nat → Nat → Int64} {sz : Nat} {ex : Bool} {x0 x1 x2 : Option Value} {u : Nat} : X z 75 90 [x0, x1, x2] (.ref u :: st) cu (K, I, R, L, sz, ex) Q = ((K u).1 = 101 ∧ X z 75 93 [x0, x1, x2] (va_rf (R u 0) :: st) cu (K, I, R, L, sz, ex) Q) := by
  rw [x75_90]
  rfl
theorem v75_93 {z : P0} {st : List Value} {cu : Nat × Nat} {Q : Res → Mem → Prop} {σ : Mem} {x0 x1 : Option Value} {u : Int32} : X z 75 93 [x0, x1, some (.int u)] (st) cu σ Q = (X z 75 94 [x0, x1, some (.int u)] (.int u :: st) cu σ Q) := by
  rw [x75_93]
  rfl
theorem v75_94 {z : P0} {st : List Value} {cu : Nat × Nat} {Q : Res → Mem → Prop} {K : Nat → Nat × Nat} {I : Nat → Nat → Int32} {R : Nat → Nat → Option Nat} {L : Nat → Nat → Int64} {sz : Nat} {ex : Bool} {x0 x1 x2 : Option Value} {u : Nat} {v : Int32} : X z 75 94 [x0, x1, x2] (.int v :: .ref u :: st) cu (K, I, R, L, sz, ex) Q = (((K u).1 = 20 ∨ (K u).1 = 50) ∧ vp_in v (K u).2 ∧ X z 75 95 [x0, x1, x2] (.int (I u v.toNatClampNeg) :: st) cu (K, I, R, L, sz, ex) Q) := by
  rw [x75_94]
  rfl
theorem v75_95 {z : P0} {cu : Nat × Nat} {Q : Res → Mem → Prop} {σ : Mem} {x0 x1 x2 : Option Value} {v : Int32} : X z 75 95 [x0, x1, x2] ([.int v]) cu σ Q = (Q (.inl (some (.int v))) σ) := by
  rw [x75_95]
  exact propext ⟨fun h => h.2, fun h => ⟨trivial, h⟩⟩
theorem v76_0 {z : P0} {st : List Value} {cu : Nat × Nat} {Q : Res → Mem → Prop} {σ : Mem} {x1 : Option Value} {u : Nat} : X z 76 0 [some (.ref u), x1] (st) cu σ Q = (X z 76 1 [some (.ref u), x1] (.ref u :: st) cu σ Q) := by
  rw [x76_0]
  rfl
theorem v76_1 {z : P0} {st : List Value} {cu : Nat × Nat} {Q : Res → Mem → Prop} {K : Nat → Nat × Nat} {I : Nat → Nat → Int32} {R : Nat → Nat → Option Nat} {L : Nat → Nat → Int64} {sz : Nat} {ex : Bool} {x0 x1 : Option Value} {u : Nat} : X z 76 1 [x0, x1] (.ref u :: st) cu (K, I, R, L, sz, ex) Q = ((K u).1 = 110 ∧ X z 76 4 [x0, x1] (va_rf (R u 3) :: st) cu (K, I, R, L, sz, ex) Q) := by
  rw [x76_1]
  rfl
theorem v76_4 {z : P0} {st : List Value} {cu : Nat × Nat} {Q : Res → Mem → Prop} {σ : Mem} {x1 : Option Value} {u : Nat} : X z 76 4 [some (.ref u), x1] (st) cu σ Q = (X z 76 5 [some (.ref u), x1] (.ref u :: st) cu σ Q) := by
  rw [x76_4]
  rfl
theorem v76_5 {z : P0} {st : List Value} {cu : Nat × Nat} {Q : Res → Mem → Prop} {K : Nat → Nat × Nat} {I : Nat → Nat → Int32} {R : Nat → Nat → Option Nat} {L : Nat → Nat → Int64} {sz : Nat} {ex : Bool} {x0 x1 : Option Value} {u : Nat} : X z 76 5 [x0, x1] (.ref u :: st) cu (K, I, R, L, sz, ex) Q = ((K u).1 = 110 ∧ X z 76 8 [x0, x1] (va_rf (R u 0) :: st) cu (K, I, R, L, sz, ex) Q) := by
  rw [x76_5]
  rfl
theorem v76_8 {z : P0} {st : List Value} {cu : Nat × Nat} {Q : Res → Mem → Prop} {σ : Mem} {x1 : Option Value} {u : Nat} : X z 76 8 [some (.ref u), x1] (st) cu σ Q = (X z 76 9 [some (.ref u), x1] (.ref u :: st) cu σ Q) := by
  rw [x76_8]
  rfl
theorem v76_9 {z : P0} {st : List Value} {cu : Nat × Nat} {Q : Res → Mem → Prop} {K : Nat → Nat × Nat} {I : Nat → Nat → Int32} {R : Nat → Nat → Option Nat} {L : Nat → Nat → Int64} {sz : Nat} {ex : Bool} {x0 x1 : Option Value} {u : Nat} : X z 76 9 [x0, x1] (.ref u :: st) cu (K, I, R, L, sz, ex) Q = ((K u).1 = 110 ∧ X z 76 12 [x0, x1] (va_rf (R u 0) :: st) cu (K, I, R, L, sz, ex) Q) := by
  rw [x76_9]
  rfl
theorem v76_12 {z : P0} {st : List Value} {cu : Nat × Nat} {Q : Res → Mem → Prop} {K : Nat → Nat × Nat} {I : Nat → Nat → Int32} {R : Nat → Nat → Option Nat} {L : Nat → Nat → Int64} {sz : Nat} {ex : Bool} {x0 x1 : Option Value} {u : Nat} : X z 76 12 [x0, x1] (.ref u :: st) cu (K, I, R, L, sz, ex) Q = ((K u).1 = 108 ∧ X z 76 15 [x0, x1] (va_rf (R u 5) :: st) cu (K, I, R, L, sz, ex) Q) := by
  rw [x76_12]
  rfl
theorem u76_15 {z : P0} {ls : Lcs} {st : List Value} {K : Nat → Nat × Nat} {I : Nat → Nat → Int32} {R : Nat → Nat → Option Nat} {L : Nat → Nat → Int64} {sz : Nat} {ex : Bool} {Q : Res → Mem → Prop} {x : Nat} {a0 : Nat} {a1 : Nat} : X z 76 15 ls (.ref a1 :: .ref a0 :: .ref x :: st) (0, 0) (K, I, R, L, sz, ex) Q = ((K x).1 = 106 ∧ wsum st ≤ 8 ∧ X z 38 0 [some (.ref x), some (.ref a0), some (.ref a1), none, none] [] (0, 0) (K, I, R, L, sz, ex) (aftr (X z) mT 76 15 ls st (0, 0) Q)) := v76_15 (c := 0) (n := 0)
theorem v76_18 {z : P0} {st : List Value} {cu : Nat × Nat} {Q : Res → Mem → Prop} {σ : Mem} {x1 : Option Value} {u : Nat} : X z 76 18 [some (.ref u), x1] (st) cu σ Q = (X z 76 19 [some (.ref u), x1] (.ref u :: st) cu σ Q) := by
  rw [x76_18]
  rfl
theorem v76_19 {z : P0} {st : List Value} {cu : Nat × Nat} {Q : Res → Mem → Prop} {K : Nat → Nat × Nat} {I : Nat → Nat → Int32} {R : Nat → Nat → Option Nat} {L : Nat → Nat → Int64} {sz : Nat} {ex : Bool} {x0 x1 : Option Value} {u : Nat} : X z 76 19 [x0, x1] (.ref u :: st) cu (K, I, R, L, sz, ex) Q = ((K u).1 = 110 ∧ X z 76 22 [x0, x1] (va_rf (R u 3) :: st) cu (K, I, R, L, sz, ex) Q) := by
  rw [x76_19]
  rfl
theorem v76_22 {z : P0} {st : List Value} {cu : Nat × Nat} {Q : Res → Mem → Prop} {σ : Mem} {x0 : Option Value} {u : Int32} : X z 76 22 [x0, some (.int u)] (st) cu σ Q = (X z 76 23 [x0, some (.int u)] (.int u :: st) cu σ Q) := by
  rw [x76_22]
  rfl
theorem u76_23 {z : P0} {ls : Lcs} {st : List Value} {K : Nat → Nat × Nat} {I : Nat → Nat → Int32} {R : Nat → Nat → Option Nat} {L : Nat → Nat → Int64} {sz : Nat} {ex : Bool} {Q : Res → Mem → Prop} {x : Nat} {a0 : Int32} : X z 76 23 ls (.int a0 :: .ref x :: st) (0, 0) (K, I, R, L, sz, ex) Q = ((K x).1 = 106 ∧ wsum st ≤ 8 ∧ X z 37 0 [some (.ref x), some (.int a0)] [] (0, 0) (K, I, R, L, sz, ex) (aftr (X z) mT 76 23 ls st (0, 0) Q)) := v76_23 (c := 0) (n := 0)
theorem v76_26 {z : P0} {st : List Value} {cu : Nat × Nat} {Q : Res → Mem → Prop} {σ : Mem} {x0 x1 : Option Value} {u : Int32} : X z 76 26 [x0, x1] (.int u :: st) cu σ Q = (if u = nI 0 then X z 76 29 [x0, x1] (st) cu σ Q else X z 76 40 [x0, x1] (st) cu σ Q) := by
  rw [x76_26]
  rw [nI_0]
  obtain ⟨K, I, R, L, sz, ex⟩ := σ
  exact br_ne
theorem v76_29 {z : P0} {st : List Value} {Q : Res → Mem → Prop} {K : Nat → Nat × Nat} {I : Nat → Nat → Int32} {R : Nat → Nat → Option Nat} {L : Nat → Nat → Int64} {sz : Nat} {ex : Bool} {x0 x1 : Option Value} : X z 76 29 [x0, x1] (st) (0, 0) (K, I, R, L, sz, ex) Q = (wsum st ≤ 8 ∧ Q (.inr 2) (K, I, R, L, sz, false)) := by
  rw [x76_29]
  exact i_throw (i := 0) (j := 0)
theorem v76_32 {z : P0} {st : List Value} {cu : Nat × Nat} {Q : Res → Mem → Prop} {σ : Mem} {x0 x1 : Option Value} {u : Nat} : X z 76 32 [x0, x1] (.ref u :: st) cu σ Q = (X z 76 33 [x0, x1] (.ref u :: .ref u :: st) cu σ Q) := by
  rw [x76_32]
  exact propext ⟨fun h => h.2, fun h => ⟨rfl, h⟩⟩
theorem v76_32i {z : P0} {st : List Value} {cu : Nat × Nat} {Q : Res → Mem → Prop} {σ : Mem} {x0 x1 : Option Value} {u : Int32} : X z 76 32 [x0, x1] (.int u :: st) cu σ Q = (X z 76 33 [x0, x1] (.int u :: .int u :: st) cu σ Q) := by
  rw [x76_32]
  exact propext ⟨fun h => h.2, fun h => ⟨rfl, h⟩⟩
theorem v76_40 {z : P0} {st : List Value} {cu : Nat × Nat} {Q : Res → Mem → Prop} {σ : Mem} {x1 : Option Value} {u : Nat} : X z 76 40 [some (.ref u), x1] (st) cu σ Q = (X z 76 41 [some (.ref u), x1] (.ref u :: st) cu σ Q) := by
  rw [x76_40]
  rfl
theorem v76_41 {z : P0} {st : List Value} {cu : Nat × Nat} {Q : Res → Mem → Prop} {K : Nat → Nat × Nat} {I : Nat → Nat → Int32} {R : Nat → Nat → Option Nat} {L : Nat → Nat → Int64} {sz : Nat} {ex : Bool} {x0 x1 : Option Value} {u : Nat} : X z 76 41 [x0, x1] (.ref u :: st) cu (K, I, R, L, sz, ex) Q = ((K u).1 = 110 ∧ X z 76 44 [x0, x1] (va_rf (R u 3) :: st) cu (K, I, R, L, sz, ex) Q) := by
  rw [x76_41]
  rfl
theorem v76_44 {z : P0} {st : List Value} {cu : Nat × Nat} {Q : Res → Mem → Prop} {K : Nat → Nat × Nat} {I : Nat → Nat → Int32} {R : Nat → Nat → Option Nat} {L : Nat → Nat → Int64} {sz : Nat} {ex : Bool} {x0 x1 : Option Value} {u : Nat} : X z 76 44 [x0, x1] (.ref u :: st) cu (K, I, R, L, sz, ex) Q = ((K u).1 = 106 ∧ X z 76 47 [x0, x1] (va_rf (R u 0) :: st) cu (K, I, R, L, sz, ex) Q) := by
  rw [x76_44]
  rfl
theorem v76_47 {z : P0} {st : List Value} {cu : Nat × Nat} {Q : Res → Mem → Prop} {σ : Mem} {x0 : Option Value} {u : Int32} : X z 76 47 [x0, some (.int u)] (st) cu σ Q = (X z 76 48 [x0, some (.int u)] (.int u :: st) cu σ Q) := by
  rw [x76_47]
  rfl
theorem v76_48 {z : P0} {st : List Value} {cu : Nat × Nat} {Q : Res → Mem → Prop} {K : Nat → Nat × Nat} {I : Nat → Nat → Int32} {R : Nat → Nat → Option Nat} {L : Nat → Nat → Int64} {sz : Nat} {ex : Bool} {x0 x1 : Option Value} {u : Nat} {v : Int32} : X z 76 48 [x0, x1] (.int v :: .ref u :: st) cu (K, I, R, L, sz, ex) Q = (((K u).1 = 22 ∨ (K u).1 = 23 ∨ (K u).1 = 24 ∨ (K u).1 = 25) ∧ vp_in v (K u).2 ∧ X z 76 49 [x0, x1] (va_rf (R u v.toNatClampNeg) :: st) cu (K, I, R, L, sz, ex) Q) := by
  rw [x76_48]
  rfl
theorem u76_49 {z : P0} {ls : Lcs} {st : List Value} {K : Nat → Nat × Nat} {I : Nat → Nat → Int32} {R : Nat → Nat → Option Nat} {L : Nat → Nat → Int64} {sz : Nat} {ex : Bool} {Q : Res → Mem → Prop} {x : Nat} : X z 76 49 ls (.ref x :: st) (0, 0) (K, I, R, L, sz, ex) Q = ((K x).1 = 102 ∧ wsum st ≤ 8 ∧ X z 22 0 [some (.ref x), none, none] [] (0, 0) (K, I, R, L, sz, ex) (aftr (X z) mT 76 49 ls st (0, 0) Q)) := v76_49 (c := 0) (n := 0)
theorem v76_52 {z : P0} {cu : Nat × Nat} {Q : Res → Mem → Prop} {σ : Mem} {x0 x1 : Option Value} {v : Int32} : X z 76 52 [x0, x1] ([.int v]) cu σ Q = (Q (.inl (some (.int v))) σ) := by
  rw [x76_52]
  exact propext ⟨fun h => h.2, fun h => ⟨trivial, h⟩⟩
theorem v77_0 {z : P0} {st : List Value} {cu : Nat × Nat} {Q : Res → Mem → Prop} {σ : Mem} {x0 : Option Value} {u : Int32} : X z 77 0 [x0, some (.int u)] (st) cu σ Q = (X z 77 1 [x0, some (.int u)] (.int u :: st) cu σ Q) := by
  rw [x77_0]
  rfl
theorem v77_1 {z : P0} {st : List Value} {cu : Nat × Nat} {Q : Res → Mem → Prop} {σ : Mem} {x0 x1 : Option Value} {u : Int32} : X z 77 1 [x0, x1] (.int u :: st) cu σ Q = (if u < nI 0 then X z 77 10 [x0, x1] (st) cu σ Q else X z 77 4 [x0, x1] (st) cu σ Q) := by
  rw [x77_1]
  rw [nI_0]
  obtain ⟨K, I, R, L, sz, ex⟩ := σ
  exact br_ite
theorem v77_4 {z : P0} {st : List Value} {cu : Nat × Nat} {Q : Res → Mem → Prop} {σ : Mem} {x0 : Option Value} {u : Int32} : X z 77 4 [x0, some (.int u)] (st) cu σ Q = (X z 77 5 [x0, some (.int u)] (.int u :: st) cu σ Q) := by
  rw [x77_4]
  rfl
theorem v77_5 {z : P0} {st : List Value} {cu : Nat × Nat} {Q : Res → Mem → Prop} {σ : Mem} {x0 x1 : Option Value} : X z 77 5 [x0, x1] (st) cu σ Q = (X z 77 7 [x0, x1] (.int (nI 14) :: st) cu σ Q) := by
  rw [x77_5]
  rfl
theorem v77_7 {z : P0} {st : List Value} {cu : Nat × Nat} {Q : Res → Mem → Prop} {σ : Mem} {x0 x1 : Option Value} {u v : Int32} : X z 77 7 [x0, x1] (.int v :: .int u :: st) cu σ Q = (if v < u then X z 77 10 [x0, x1] (st) cu σ Q else X z 77 21 [x0, x1] (st) cu σ Q) := by
  rw [x77_7]
  obtain ⟨K, I, R, L, sz, ex⟩ := σ
  exact br_ge
theorem v77_10 {z : P0} {st : List Value} {Q : Res → Mem → Prop} {K : Nat → Nat × Nat} {I : Nat → Nat → Int32} {R : Nat → Nat → Option Nat} {L : Nat → Nat → Int64} {sz : Nat} {ex : Bool} {x0 x1 : Option Value} : X z 77 10 [x0, x1] (st) (0, 0) (K, I, R, L, sz, ex) Q = (wsum st ≤ 8 ∧ Q (.inr 0) (K, I, R, L, sz, false)) := by
  rw [x77_10]
  exact i_throw (i := 0) (j := 0)
theorem v77_13 {z : P0} {st : List Value} {cu : Nat × Nat} {Q : Res → Mem → Prop} {σ : Mem} {x0 x1 : Option Value} {u : Nat} : X z 77 13 [x0, x1] (.ref u :: st) cu σ Q = (X z 77 14 [x0, x1] (.ref u :: .ref u :: st) cu σ Q) := by
  rw [x77_13]
  exact propext ⟨fun h => h.2, fun h => ⟨rfl, h⟩⟩
theorem v77_13i {z : P0} {st : List Value} {cu : Nat × Nat} {Q : Res → Mem → Prop} {σ : Mem} {x0 x1 : Option Value} {u : Int32} : X z 77 13 [x0, x1] (.int u :: st) cu σ Q = (X z 77 14 [x0, x1] (.int u :: .int u :: st) cu σ Q) := by
  rw [x77_13]
  exact propext ⟨fun h => h.2, fun h => ⟨rfl, h⟩⟩
theorem v77_21 {z : P0} {st : List Value} {cu : Nat × Nat} {Q : Res → Mem → Prop} {σ : Mem} {x1 : Option Value} {u : Nat} : X z 77 21 [some (.ref u), x1] (st) cu σ Q = (X z 77 22 [some (.ref u), x1] (.ref u :: st) cu σ Q) := by
  rw [x77_21]
  rfl
theorem v77_22 {z : P0} {st : List Value} {cu : Nat × Nat} {Q : Res → Mem → Prop} {K : Nat → Nat × Nat} {I : Nat → Nat → Int32} {R : Nat → Nat → Option Nat} {L : Nat → Nat → Int64} {sz : Nat} {ex : Bool} {x0 x1 : Option Value} {u : Nat} : X z 77 22 [x0, x1] (.ref u :: st) cu (K, I, R, L, sz, ex) Q = ((K u).1 = 110 ∧ X z 77 25 [x0, x1] (va_rf (R u 3) :: st) cu (K, I, R, L, sz, ex) Q) := by
  rw [x77_22]
  rfl
theorem v77_25 {z : P0} {st : List Value} {cu : Nat × Nat} {Q : Res → Mem → Prop} {σ : Mem} {x1 : Option Value} {u : Nat} : X z 77 25 [some (.ref u), x1] (st) cu σ Q = (X z 77 26 [some (.ref u), x1] (.ref u :: st) cu σ Q) := by
  rw [x77_25]
  rfl
theorem v77_26 {z : P0} {st : List Value} {cu : Nat × Nat} {Q : Res → Mem → Prop} {K : Nat → Nat × Nat} {I : Nat → Nat → Int32} {R : Nat → Nat → Option Nat} {L : Nat → Nat → Int64} {sz : Nat} {ex : Bool} {x0 x1 : Option Value} {u : Nat} : X z 77 26 [x0, x1] (.ref u :: st) cu (K, I, R, L, sz, ex) Q = ((K u).1 = 110 ∧ X z 77 29 [x0, x1] (va_rf (R u 0) :: st) cu (K, I, R, L, sz, ex) Q) := by
  rw [x77_26]
  rfl
theorem v77_29 {z : P0} {st : List Value} {cu : Nat × Nat} {Q : Res → Mem → Prop} {σ : Mem} {x1 : Option Value} {u : Nat} : X z 77 29 [some (.ref u), x1] (st) cu σ Q = (X z 77 30 [some (.ref u), x1] (.ref u :: st) cu σ Q) := by
  rw [x77_29]
  rfl
theorem v77_30 {z : P0} {st : List Value} {cu : Nat × Nat} {Q : Res → Mem → Prop} {K : Nat → Nat × Nat} {I : Nat → Nat → Int32} {R : Nat → Nat → Option Nat} {L : Nat → Nat → Int64} {sz : Nat} {ex : Bool} {x0 x1 : Option Value} {u : Nat} : X z 77 30 [x0, x1] (.ref u :: st) cu (K, I, R, L, sz, ex) Q = ((K u).1 = 110 ∧ X z 77 33 [x0, x1] (va_rf (R u 0) :: st) cu (K, I, R, L, sz, ex) Q) := by
  rw [x77_30]
  rfl
theorem v77_33 {z : P0} {st : List Value} {cu : Nat × Nat} {Q : Res → Mem → Prop} {K : Nat → Nat × Nat} {I : Nat → Nat → Int32} {R : Nat → Nat → Option Nat} {L : Nat → Nat → Int64} {sz : Nat} {ex : Bool} {x0 x1 : Option Value} {u : Nat} : X z 77 33 [x0, x1] (.ref u :: st) cu (K, I, R, L, sz, ex) Q = ((K u).1 = 108 ∧ X z 77 36 [x0, x1] (va_rf (R u 5) :: st) cu (K, I, R, L, sz, ex) Q) := by
  rw [x77_33]
  rfl
theorem u77_36 {z : P0} {ls : Lcs} {st : List Value} {K : Nat → Nat × Nat} {I : Nat → Nat → Int32} {R : Nat → Nat → Option Nat} {L : Nat → Nat → Int64} {sz : Nat} {ex : Bool} {Q : Res → Mem → Prop} {x : Nat} {a0 : Nat} {a1 : Nat} : X z 77 36 ls (.ref a1 :: .ref a0 :: .ref x :: st) (0, 0) (K, I, R, L, sz, ex) Q = ((K x).1 = 106 ∧ wsum st ≤ 8 ∧ X z 38 0 [some (.ref x), some (.ref a0), some (.ref a1), none, none] [] (0, 0) (K, I, R, L, sz, ex) (aftr (X z) mT 77 36 ls st (0, 0) Q)) := v77_36 (c := 0) (n := 0)
theorem v77_39 {z : P0} {st : List Value} {cu : Nat × Nat} {Q : Res → Mem → Prop} {σ : Mem} {x1 : Option Value} {u : Nat} : X z 77 39 [some (.ref u), x1] (st) cu σ Q = (X z 77 40 [some (.ref u), x1] (.ref u :: st) cu σ Q) := by
  rw [x77_39]
  rfl
theorem v77_40 {z : P0} {st : List Value} {cu : Nat × Nat} {Q : Res → Mem → Prop} {σ : Mem} {x0 : Option Value} {u : Int32} : X z 77 40 [x0, some (.int u)] (st) cu σ Q = (X z 77 41 [x0, some (.int u)] (.int u :: st) cu σ Q) := by
  rw [x77_40]
  rfl
theorem u77_41 {z : P0} {ls : Lcs} {st : List Value} {K : Nat → Nat × Nat} {I : Nat → Nat → Int32} {R : Nat → Nat → Option Nat} {L : Nat → Nat → Int64} {sz : Nat} {ex : Bool} {Q : Res → Mem → Prop} {x : Nat} {a0 : Int32} : X z 77 41 ls (.int a0 :: .ref x :: st) (0, 0) (K, I, R, L, sz, ex) Q = ((K x).1 = 110 ∧ wsum st ≤ 8 ∧ X z 96 0 [some (.ref x), some (.int a0)] [] (0, 0) (K, I, R, L, sz, ex) (aftr (X z) mT 77 41 ls st (0, 0) Q)) := v77_41 (c := 0) (n := 0)
theorem v77_44 {z : P0} {cu : Nat × Nat} {Q : Res → Mem → Prop} {σ : Mem} {x0 x1 : Option Value} {v : Int32} : X z 77 44 [x0, x1] ([.int v]) cu σ Q = (Q (.inl (some (.int v))) σ) := by
  rw [x77_44]
  exact propext ⟨fun h => h.2, fun h => ⟨trivial, h⟩⟩
theorem v85_0 {z : P0} {st : List Value} {cu : Nat × Nat} {Q : Res → Mem → Prop} {σ : Mem} {u : Int32} : X z 85 0 [some (.int u)] (st) cu σ Q = (X z 85 1 [some (.int u)] (.int u :: st) cu σ Q) := by
  rw [x85_0]
  rfl
theorem v85_1 {z : P0} {st : List Value} {cu : Nat × Nat} {Q : Res → Mem → Prop} {σ : Mem} {x0 : Option Value} {u : Int32} : X z 85 1 [x0] (.int u :: st) cu σ Q = (if u < nI 0 then X z 85 14 [x0] (st) cu σ Q else X z 85 4 [x0] (st) cu σ Q) := by
  rw [x85_1]
  rw [nI_0]
  obtain ⟨K, I, R, L, sz, ex⟩ := σ
  exact br_ite
theorem v85_4 {z : P0} {st : List Value} {cu : Nat × Nat} {Q : Res → Mem → Prop} {σ : Mem} {u : Int32} : X z 85 4 [some (.int u)] (st) cu σ Q = (X z 85 5 [some (.int u)] (.int u :: st) cu σ Q) := by
  rw [x85_4]
  rfl
theorem v85_5 {z : P0} {st : List Value} {cu : Nat × Nat} {Q : Res → Mem → Prop} {σ : Mem} {x0 : Option Value} : X z 85 5 [x0] (st) cu σ Q = (X z 85 7 [x0] (.int (nI 20) :: st) cu σ Q) := by
  rw [x85_5]
  rfl
theorem v85_7 {z : P0} {st : List Value} {cu : Nat × Nat} {Q : Res → Mem → Prop} {σ : Mem} {x0 : Option Value} {u v : Int32} : X z 85 7 [x0] (.int v :: .int u :: st) cu σ Q = (if u < v then X z 85 10 [x0] (st) cu σ Q else X z 85 14 [x0] (st) cu σ Q) := by
  rw [x85_7]
  obtain ⟨K, I, R, L, sz, ex⟩ := σ
  exact br_ge
theorem v85_10 {z : P0} {st : List Value} {cu : Nat × Nat} {Q : Res → Mem → Prop} {σ : Mem} {x0 : Option Value} : X z 85 10 [x0] (st) cu σ Q = (X z 85 11 [x0] (.int (nI 1) :: st) cu σ Q) := by
  rw [x85_10]
  rfl
theorem v85_11 {z : P0} {st : List Value} {cu : Nat × Nat} {Q : Res → Mem → Prop} {σ : Mem} {x0 : Option Value} : X z 85 11 [x0] (st) cu σ Q = (X z 85 15 [x0] (st) cu σ Q) := by
  rw [x85_11]
  rfl
theorem v85_14 {z : P0} {st : List Value} {cu : Nat × Nat} {Q : Res → Mem → Prop} {σ : Mem} {x0 : Option Value} : X z 85 14 [x0] (st) cu σ Q = (X z 85 15 [x0] (.int (nI 0) :: st) cu σ Q) := by
  rw [x85_14]
  rfl
theorem v85_15 {z : P0} {cu : Nat × Nat} {Q : Res → Mem → Prop} {σ : Mem} {x0 : Option Value} {v : Int32} : X z 85 15 [x0] ([.int v]) cu σ Q = ((v = nI 0 ∨ v = nI 1) ∧ Q (.inl (some (.int v))) σ) := by
  rw [x85_15]
  rw [nI_0, one1]
  rfl
theorem v86_0 {z : P0} {st : List Value} {cu : Nat × Nat} {Q : Res → Mem → Prop} {σ : Mem} {u : Int32} : X z 86 0 [some (.int u)] (st) cu σ Q = (X z 86 1 [some (.int u)] (.int u :: st) cu σ Q) := by
  rw [x86_0]
  rfl
theorem v86_1 {z : P0} {st : List Value} {cu : Nat × Nat} {Q : Res → Mem → Prop} {σ : Mem} {x0 : Option Value} {u : Int32} : X z 86 1 [x0] (.int u :: st) cu σ Q = (if u < nI 0 then X z 86 14 [x0] (st) cu σ Q else X z 86 4 [x0] (st) cu σ Q) := by
  rw [x86_1]
  rw [nI_0]
  obtain ⟨K, I, R, L, sz, ex⟩ := σ
  exact br_ite
theorem v86_4 {z : P0} {st : List Value} {cu : Nat × Nat} {Q : Res → Mem → Prop} {σ : Mem} {u : Int32} : X z 86 4 [some (.int u)] (st) cu σ Q = (X z 86 5 [some (.int u)] (.int u :: st) cu σ Q) := by
  rw [x86_4]
  rfl
theorem v86_5 {z : P0} {st : List Value} {cu : Nat × Nat} {Q : Res → Mem → Prop} {σ : Mem} {x0 : Option Value} : X z 86 5 [x0] (st) cu σ Q = (X z 86 7 [x0] (.int (nI 6) :: st) cu σ Q) := by
  rw [x86_5]
  rfl
theorem v86_7 {z : P0} {st : List Value} {cu : Nat × Nat} {Q : Res → Mem → Prop} {σ : Mem} {x0 : Option Value} {u v : Int32} : X z 86 7 [x0] (.int v :: .int u :: st) cu σ Q = (if u < v then X z 86 10 [x0] (st) cu σ Q else X z 86 14 [x0] (st) cu σ Q) := by
  rw [x86_7]
  obtain ⟨K, I, R, L, sz, ex⟩ := σ
  exact br_ge
theorem v86_10 {z : P0} {st : List Value} {cu : Nat × Nat} {Q : Res → Mem → Prop} {σ : Mem} {x0 : Option Value} : X z 86 10 [x0] (st) cu σ Q = (X z 86 11 [x0] (.int (nI 1) :: st) cu σ Q) := by
  rw [x86_10]
  rfl
theorem v86_11 {z : P0} {st : List Value} {cu : Nat × Nat} {Q : Res → Mem → Prop} {σ : Mem} {x0 : Option Value} : X z 86 11 [x0] (st) cu σ Q = (X z 86 15 [x0] (st) cu σ Q) := by
  rw [x86_11]
  rfl
theorem v86_14 {z : P0} {st : List Value} {cu : Nat × Nat} {Q : Res → Mem → Prop} {σ : Mem} {x0 : Option Value} : X z 86 14 [x0] (st) cu σ Q = (X z 86 15 [x0] (.int (nI 0) :: st) cu σ Q) := by
  rw [x86_14]
  rfl
theorem v86_15 {z : P0} {cu : Nat × Nat} {Q : Res → Mem → Prop} {σ : Mem} {x0 : Option Value} {v : Int32} : X z 86 15 [x0] ([.int v]) cu σ Q = ((v = nI 0 ∨ v = nI 1) ∧ Q (.inl (some (.int v))) σ) := by
  rw [x86_15]
  rw [nI_0, one1]
  rfl
theorem v87_0 {z : P0} {st : List Value} {cu : Nat × Nat} {Q : Res → Mem → Prop} {σ : Mem} {x0 : Option Value} {u : Int32} : X z 87 0 [x0, some (.int u)] (st) cu σ Q = (X z 87 1 [x0, some (.int u)] (.int u :: st) cu σ Q) := by
  rw [x87_0]
  rfl
theorem v87_1 {z : P0} {st : List Value} {cu : Nat × Nat} {Q : Res → Mem → Prop} {σ : Mem} {x0 x1 : Option Value} : X z 87 1 [x0, x1] (st) cu σ Q = (X z 87 4 [x0, x1] (.ref (z.1 1) :: st) cu σ Q) := by
  rw [x87_1]
  rfl
theorem v87_4 {z : P0} {st : List Value} {cu : Nat × Nat} {Q : Res → Mem → Prop} {σ : Mem} {x1 : Option Value} {u : Int32} : X z 87 4 [some (.int u), x1] (st) cu σ Q = (X z 87 5 [some (.int u), x1] (.int u :: st) cu σ Q) := by
  rw [x87_4]
  rfl
theorem v87_5 {z : P0} {st : List Value} {cu : Nat × Nat} {Q : Res → Mem → Prop} {K : Nat → Nat × Nat} {I : Nat → Nat → Int32} {R : Nat → Nat → Option Nat} {L : Nat → Nat → Int64} {sz : Nat} {ex : Bool} {x0 x1 : Option Value} {u : Nat} {v : Int32} : X z 87 5 [x0, x1] (.int v :: .ref u :: st) cu (K, I, R, L, sz, ex) Q = (((K u).1 = 20 ∨ (K u).1 = 50) ∧ vp_in v (K u).2 ∧ X z 87 6 [x0, x1] (.int (I u v.toNatClampNeg) :: st) cu (K, I, R, L, sz, ex) Q) := by
  rw [x87_5]
  rfl
theorem v87_6 {z : P0} {st : List Value} {cu : Nat × Nat} {Q : Res → Mem → Prop} {σ : Mem} {x0 x1 : Option Value} {u v : Int32} : X z 87 6 [x0, x1] (.int v :: .int u :: st) cu σ Q = (if u < v then X z 87 22 [x0, x1] (st) cu σ Q else X z 87 9 [x0, x1] (st) cu σ Q) := by
  rw [x87_6]
  obtain ⟨K, I, R, L, sz, ex⟩ := σ
  exact br_ite
theorem v87_9 {z : P0} {st : List Value} {cu : Nat × Nat} {Q : Res → Mem → Prop} {σ : Mem} {x0 : Option Value} {u : Int32} : X z 87 9 [x0, some (.int u)] (st) cu σ Q = (X z 87 10 [x0, some (.int u)] (.int u :: st) cu σ Q) := by
  rw [x87_9]
  rfl
theorem v87_10 {z : P0} {st : List Value} {cu : Nat × Nat} {Q : Res → Mem → Prop} {σ : Mem} {x0 x1 : Option Value} : X z 87 10 [x0, x1] (st) cu σ Q = (X z 87 13 [x0, x1] (.ref (z.1 2) :: st) cu σ Q) := by
  rw [x87_10]
  rfl
theorem v87_13 {z : P0} {st : List Value} {cu : Nat × Nat} {Q : Res → Mem → Prop} {σ : Mem} {x1 : Option Value} {u : Int32} : X z 87 13 [some (.int u), x1] (st) cu σ Q = (X z 87 14 [some (.int u), x1] (.int u :: st) cu σ Q) := by
  rw [x87_13]
  rfl
theorem v87_14 {z : P0} {st : List Value} {cu : Nat × Nat} {Q : Res → Mem → Prop} {K : Nat → Nat × Nat} {I : Nat → Nat → Int32} {R : Nat → Nat → Option Nat} {L : Nat → Nat → Int64} {sz : Nat} {ex : Bool} {x0 x1 : Option Value} {u : Nat} {v : Int32} : X z 87 14 [x0, x1] (.int v :: .ref u :: st) cu (K, I, R, L, sz, ex) Q = (((K u).1 = 20 ∨ (K u).1 = 50) ∧ vp_in v (K u).2 ∧ X z 87 15 [x0, x1] (.int (I u v.toNatClampNeg) :: st) cu (K, I, R, L, sz, ex) Q) := by
  rw [x87_14]
  rfl
theorem v87_15 {z : P0} {st : List Value} {cu : Nat × Nat} {Q : Res → Mem → Prop} {σ : Mem} {x0 x1 : Option Value} {u v : Int32} : X z 87 15 [x0, x1] (.int v :: .int u :: st) cu σ Q = (if v < u then X z 87 22 [x0, x1] (st) cu σ Q else X z 87 18 [x0, x1] (st) cu σ Q) := by
  rw [x87_15]
  obtain ⟨K, I, R, L, sz, ex⟩ := σ
  exact br_ite
theorem v87_18 {z : P0} {st : List Value} {cu : Nat × Nat} {Q : Res → Mem → Prop} {σ : Mem} {x0 x1 : Option Value} : X z 87 18 [x0, x1] (st) cu σ Q = (X z 87 19 [x0, x1] (.int (nI 1) :: st) cu σ Q) := by
  rw [x87_18]
  rfl
theorem v87_19 {z : P0} {st : List Value} {cu : Nat × Nat} {Q : Res → Mem → Prop} {σ : Mem} {x0 x1 : Option Value} : X z 87 19 [x0, x1] (st) cu σ Q = (X z 87 23 [x0, x1] (st) cu σ Q) := by
  rw [x87_19]
  rfl
theorem v87_22 {z : P0} {st : List Value} {cu : Nat × Nat} {Q : Res → Mem → Prop} {σ : Mem} {x0 x1 : Option Value} : X z 87 22 [x0, x1] (st) cu σ Q = (X z 87 23 [x0, x1] (.int (nI 0) :: st) cu σ Q) := by
  rw [x87_22]
  rfl
theorem v87_23 {z : P0} {cu : Nat × Nat} {Q : Res → Mem → Prop} {σ : Mem} {x0 x1 : Option Value} {v : Int32} : X z 87 23 [x0, x1] ([.int v]) cu σ Q = ((v = nI 0 ∨ v = nI 1) ∧ Q (.inl (some (.int v))) σ) := by
  rw [x87_23]
  rw [nI_0, one1]
  rfl
theorem v88_0 {z : P0} {st : List Value} {cu : Nat × Nat} {Q : Res → Mem → Prop} {σ : Mem} {u : Int32} : X z 88 0 [some (.int u)] (st) cu σ Q = (X z 88 1 [some (.int u)] (.int u :: st) cu σ Q) := by
  rw [x88_0]
  rfl
theorem v88_1 {z : P0} {st : List Value} {cu : Nat × Nat} {Q : Res → Mem → Prop} {σ : Mem} {x0 : Option Value} : X z 88 1 [x0] (st) cu σ Q = (X z 88 3 [x0] (.int (nI 97) :: st) cu σ Q) := by
  rw [x88_1]
  rfl
theorem v88_3 {z : P0} {st : List Value} {cu : Nat × Nat} {Q : Res → Mem → Prop} {σ : Mem} {x0 : Option Value} {u v : Int32} : X z 88 3 [x0] (.int v :: .int u :: st) cu σ Q = (if u < v then X z 88 16 [x0] (st) cu σ Q else X z 88 6 [x0] (st) cu σ Q) := by
  rw [x88_3]
  obtain ⟨K, I, R, L, sz, ex⟩ := σ
  exact br_ite
theorem v88_6 {z : P0} {st : List Value} {cu : Nat × Nat} {Q : Res → Mem → Prop} {σ : Mem} {u : Int32} : X z 88 6 [some (.int u)] (st) cu σ Q = (X z 88 7 [some (.int u)] (.int u :: st) cu σ Q) := by
  rw [x88_6]
  rfl
theorem v88_7 {z : P0} {st : List Value} {cu : Nat × Nat} {Q : Res → Mem → Prop} {σ : Mem} {x0 : Option Value} : X z 88 7 [x0] (st) cu σ Q = (X z 88 9 [x0] (.int (nI 122) :: st) cu σ Q) := by
  rw [x88_7]
  rfl
theorem v88_9 {z : P0} {st : List Value} {cu : Nat × Nat} {Q : Res → Mem → Prop} {σ : Mem} {x0 : Option Value} {u v : Int32} : X z 88 9 [x0] (.int v :: .int u :: st) cu σ Q = (if v < u then X z 88 16 [x0] (st) cu σ Q else X z 88 12 [x0] (st) cu σ Q) := by
  rw [x88_9]
  obtain ⟨K, I, R, L, sz, ex⟩ := σ
  exact br_ite
theorem v88_12 {z : P0} {st : List Value} {cu : Nat × Nat} {Q : Res → Mem → Prop} {σ : Mem} {x0 : Option Value} : X z 88 12 [x0] (st) cu σ Q = (X z 88 13 [x0] (.int (nI 1) :: st) cu σ Q) := by
  rw [x88_12]
  rfl
theorem v88_13 {z : P0} {st : List Value} {cu : Nat × Nat} {Q : Res → Mem → Prop} {σ : Mem} {x0 : Option Value} : X z 88 13 [x0] (st) cu σ Q = (X z 88 17 [x0] (st) cu σ Q) := by
  rw [x88_13]
  rfl
theorem v88_16 {z : P0} {st : List Value} {cu : Nat × Nat} {Q : Res → Mem → Prop} {σ : Mem} {x0 : Option Value} : X z 88 16 [x0] (st) cu σ Q = (X z 88 17 [x0] (.int (nI 0) :: st) cu σ Q) := by
  rw [x88_16]
  rfl
theorem v88_17 {z : P0} {cu : Nat × Nat} {Q : Res → Mem → Prop} {σ : Mem} {x0 : Option Value} {v : Int32} : X z 88 17 [x0] ([.int v]) cu σ Q = ((v = nI 0 ∨ v = nI 1) ∧ Q (.inl (some (.int v))) σ) := by
  rw [x88_17]
  rw [nI_0, one1]
  rfl
theorem v89_0 {z : P0} {st : List Value} {cu : Nat × Nat} {Q : Res → Mem → Prop} {σ : Mem} {x0 : Option Value} {u : Int32} : X z 89 0 [x0, some (.int u)] (st) cu σ Q = (X z 89 1 [x0, some (.int u)] (.int u :: st) cu σ Q) := by
  rw [x89_0]
  rfl
theorem v89_1 {z : P0} {st : List Value} {cu : Nat × Nat} {Q : Res → Mem → Prop} {σ : Mem} {x0 x1 : Option Value} {u : Int32} : X z 89 1 [x0, x1] (.int u :: st) cu σ Q = (if u < nI 0 then X z 89 19 [x0, x1] (st) cu σ Q else X z 89 4 [x0, x1] (st) cu σ Q) := by
  rw [x89_1]
  rw [nI_0]
  obtain ⟨K, I, R, L, sz, ex⟩ := σ
  exact br_ite
theorem v89_4 {z : P0} {st : List Value} {cu : Nat × Nat} {Q : Res → Mem → Prop} {σ : Mem} {x0 : Option Value} {u : Int32} : X z 89 4 [x0, some (.int u)] (st) cu σ Q = (X z 89 5 [x0, some (.int u)] (.int u :: st) cu σ Q) := by
  rw [x89_4]
  rfl
theorem v89_5 {z : P0} {st : List Value} {cu : Nat × Nat} {Q : Res → Mem → Prop} {σ : Mem} {x1 : Option Value} {u : Nat} : X z 89 5 [some (.ref u), x1] (st) cu σ Q = (X z 89 6 [some (.ref u), x1] (.ref u :: st) cu σ Q) := by
  rw [x89_5]
  rfl
theorem v89_6 {z : P0} {st : List Value} {cu : Nat × Nat} {Q : Res → Mem → Prop} {K : Nat → Nat × Nat} {I : Nat → Nat → Int32} {R : Nat → Nat → Option Nat} {L : Nat → Nat → Int64} {sz : Nat} {ex : Bool} {x0 x1 : Option Value} {u : Nat} : X z 89 6 [x0, x1] (.ref u :: st) cu (K, I, R, L, sz, ex) Q = ((K u).1 = 110 ∧ X z 89 9 [x0, x1] (va_rf (R u 0) :: st) cu (K, I, R, L, sz, ex) Q) := by
  rw [x89_6]
  rfl
theorem v89_9 {z : P0} {st : List Value} {cu : Nat × Nat} {Q : Res → Mem → Prop} {K : Nat → Nat × Nat} {I : Nat → Nat → Int32} {R : Nat → Nat → Option Nat} {L : Nat → Nat → Int64} {sz : Nat} {ex : Bool} {x0 x1 : Option Value} {u : Nat} : X z 89 9 [x0, x1] (.ref u :: st) cu (K, I, R, L, sz, ex) Q = ((K u).1 = 108 ∧ X z 89 12 [x0, x1] (.int (I u 1) :: st) cu (K, I, R, L, sz, ex) Q) := by
  rw [x89_9]
  rfl
theorem v89_12 {z : P0} {st : List Value} {cu : Nat × Nat} {Q : Res → Mem → Prop} {σ : Mem} {x0 x1 : Option Value} {u v : Int32} : X z 89 12 [x0, x1] (.int v :: .int u :: st) cu σ Q = (if u < v then X z 89 15 [x0, x1] (st) cu σ Q else X z 89 19 [x0, x1] (st) cu σ Q) := by
  rw [x89_12]
  obtain ⟨K, I, R, L, sz, ex⟩ := σ
  exact br_ge
theorem v89_15 {z : P0} {st : List Value} {cu : Nat × Nat} {Q : Res → Mem → Prop} {σ : Mem} {x0 x1 : Option Value} : X z 89 15 [x0, x1] (st) cu σ Q = (X z 89 16 [x0, x1] (.int (nI 1) :: st) cu σ Q) := by
  rw [x89_15]
  rfl
theorem v89_16 {z : P0} {st : List Value} {cu : Nat × Nat} {Q : Res → Mem → Prop} {σ : Mem} {x0 x1 : Option Value} : X z 89 16 [x0, x1] (st) cu σ Q = (X z 89 20 [x0, x1] (st) cu σ Q) := by
  rw [x89_16]
  rfl
theorem v89_19 {z : P0} {st : List Value} {cu : Nat × Nat} {Q : Res → Mem → Prop} {σ : Mem} {x0 x1 : Option Value} : X z 89 19 [x0, x1] (st) cu σ Q = (X z 89 20 [x0, x1] (.int (nI 0) :: st) cu σ Q) := by
  rw [x89_19]
  rfl
theorem v89_20 {z : P0} {cu : Nat × Nat} {Q : Res → Mem → Prop} {σ : Mem} {x0 x1 : Option Value} {v : Int32} : X z 89 20 [x0, x1] ([.int v]) cu σ Q = ((v = nI 0 ∨ v = nI 1) ∧ Q (.inl (some (.int v))) σ) := by
  rw [x89_20]
  rw [nI_0, one1]
  rfl
theorem v90_0 {z : P0} {st : List Value} {cu : Nat × Nat} {Q : Res → Mem → Prop} {σ : Mem} {x0 : Option Value} {u : Int32} : X z 90 0 [x0, some (.int u)] (st) cu σ Q = (X z 90 1 [x0, some (.int u)] (.int u :: st) cu σ Q) := by
  rw [x90_0]
  rfl
theorem v90_1 {z : P0} {st : List Value} {cu : Nat × Nat} {Q : Res → Mem → Prop} {σ : Mem} {x0 x1 : Option Value} {u : Int32} : X z 90 1 [x0, x1] (.int u :: st) cu σ Q = (if u < nI 0 then X z 90 19 [x0, x1] (st) cu σ Q else X z 90 4 [x0, x1] (st) cu σ Q) := by
  rw [x90_1]
  rw [nI_0]
  obtain ⟨K, I, R, L, sz, ex⟩ := σ
  exact br_ite
theorem v90_4 {z : P0} {st : List Value} {cu : Nat × Nat} {Q : Res → Mem → Prop} {σ : Mem} {x0 : Option Value} {u : Int32} : X z 90 4 [x0, some (.int u)] (st) cu σ Q = (X z 90 5 [x0, some (.int u)] (.int u :: st) cu σ Q) := by
  rw [x90_4]
  rfl
theorem v90_5 {z : P0} {st : List Value} {cu : Nat × Nat} {Q : Res → Mem → Prop} {σ : Mem} {x1 : Option Value} {u : Nat} : X z 90 5 [some (.ref u), x1] (st) cu σ Q = (X z 90 6 [some (.ref u), x1] (.ref u :: st) cu σ Q) := by
  rw [x90_5]
  rfl
theorem v90_6 {z : P0} {st : List Value} {cu : Nat × Nat} {Q : Res → Mem → Prop} {K : Nat → Nat × Nat} {I : Nat → Nat → Int32} {R : Nat → Nat → Option Nat} {L : Nat → Nat → Int64} {sz : Nat} {ex : Bool} {x0 x1 : Option Value} {u : Nat} : X z 90 6 [x0, x1] (.ref u :: st) cu (K, I, R, L, sz, ex) Q = ((K u).1 = 110 ∧ X z 90 9 [x0, x1] (va_rf (R u 0) :: st) cu (K, I, R, L, sz, ex) Q) := by
  rw [x90_6]
  rfl
theorem v90_9 {z : P0} {st : List Value} {cu : Nat × Nat} {Q : Res → Mem → Prop} {K : Nat → Nat × Nat} {I : Nat → Nat → Int32} {R : Nat → Nat → Option Nat} {L : Nat → Nat → Int64} {sz : Nat} {ex : Bool} {x0 x1 : Option Value} {u : Nat} : X z 90 9 [x0, x1] (.ref u :: st) cu (K, I, R, L, sz, ex) Q = ((K u).1 = 108 ∧ X z 90 12 [x0, x1] (.int (I u 3) :: st) cu (K, I, R, L, sz, ex) Q) := by
  rw [x90_9]
  rfl
theorem v90_12 {z : P0} {st : List Value} {cu : Nat × Nat} {Q : Res → Mem → Prop} {σ : Mem} {x0 x1 : Option Value} {u v : Int32} : X z 90 12 [x0, x1] (.int v :: .int u :: st) cu σ Q = (if u < v then X z 90 15 [x0, x1] (st) cu σ Q else X z 90 19 [x0, x1] (st) cu σ Q) := by
  rw [x90_12]
  obtain ⟨K, I, R, L, sz, ex⟩ := σ
  exact br_ge
theorem v90_15 {z : P0} {st : List Value} {cu : Nat × Nat} {Q : Res → Mem → Prop} {σ : Mem} {x0 x1 : Option Value} : X z 90 15 [x0, x1] (st) cu σ Q = (X z 90 16 [x0, x1] (.int (nI 1) :: st) cu σ Q) := by
  rw [x90_15]
  rfl
theorem v90_16 {z : P0} {st : List Value} {cu : Nat × Nat} {Q : Res → Mem → Prop} {σ : Mem} {x0 x1 : Option Value} : X z 90 16 [x0, x1] (st) cu σ Q = (X z 90 20 [x0, x1] (st) cu σ Q) := by
  rw [x90_16]
  rfl
theorem v90_19 {z : P0} {st : List Value} {cu : Nat × Nat} {Q : Res → Mem → Prop} {σ : Mem} {x0 x1 : Option Value} : X z 90 19 [x0, x1] (st) cu σ Q = (X z 90 20 [x0, x1] (.int (nI 0) :: st) cu σ Q) := by
  rw [x90_19]
  rfl
theorem v90_20 {z : P0} {cu : Nat × Nat} {Q : Res → Mem → Prop} {σ : Mem} {x0 x1 : Option Value} {v : Int32} : X z 90 20 [x0, x1] ([.int v]) cu σ Q = ((v = nI 0 ∨ v = nI 1) ∧ Q (.inl (some (.int v))) σ) := by
  rw [x90_20]
  rw [nI_0, one1]
  rfl
theorem v93_0 {z : P0} {st : List Value} {cu : Nat × Nat} {Q : Res → Mem → Prop} {σ : Mem} {x1 x2 x3 : Option Value} {u : Nat} : X z 93 0 [some (.ref u), x1, x2, x3] (st) cu σ Q = (X z 93 1 [some (.ref u), x1, x2, x3] (.ref u :: st) cu σ Q) := by
  rw [x93_0]
  rfl
theorem v93_1 {z : P0} {st : List Value} {cu : Nat × Nat} {Q : Res → Mem → Prop} {K : Nat → Nat × Nat} {I : Nat → Nat → Int32} {R : Nat → Nat → Option Nat} {L : Nat → Nat → Int64} {sz : Nat} {ex : Bool} {x0 x1 x2 x3 : Option Value} {u : Nat} : X z 93 1 [x0, x1, x2, x3] (.ref u :: st) cu (K, I, R, L, sz, ex) Q = ((K u).1 = 110 ∧ X z 93 4 [x0, x1, x2, x3] (va_rf (R u 0) :: st) cu (K, I, R, L, sz, ex) Q) := by
  rw [x93_1]
  rfl
theorem v93_4 {z : P0} {st : List Value} {cu : Nat × Nat} {Q : Res → Mem → Prop} {K : Nat → Nat × Nat} {I : Nat → Nat → Int32} {R : Nat → Nat → Option Nat} {L : Nat → Nat → Int64} {sz : Nat} {ex : Bool} {x0 x1 x2 x3 : Option Value} {u : Nat} : X z 93 4 [x0, x1, x2, x3] (.ref u :: st) cu (K, I, R, L, sz, ex) Q = ((K u).1 = 108 ∧ X z 93 7 [x0, x1, x2, x3] (va_rf (R u 0) :: st) cu (K, I, R, L, sz, ex) Q) := by
  rw [x93_4]
  rfl
theorem v93_7 {z : P0} {st : List Value} {cu : Nat × Nat} {Q : Res → Mem → Prop} {σ : Mem} {x0 x2 x3 : Option Value} {u : Int32} : X z 93 7 [x0, some (.int u), x2, x3] (st) cu σ Q = (X z 93 8 [x0, some (.int u), x2, x3] (.int u :: st) cu σ Q) := by
  rw [x93_7]
  rfl
theorem v93_8 {z : P0} {st : List Value} {cu : Nat × Nat} {Q : Res → Mem → Prop} {K : Nat → Nat × Nat} {I : Nat → Nat → Int32} {R : Nat → Nat → Option Nat} {L : Nat → Nat → Int64} {sz : Nat} {ex : Bool} {x0 x1 x2 x3 : Option Value} {u : Nat} {v : Int32} : X z 93 8 [x0, x1, x2, x3] (.int v :: .ref u :: st) cu (K, I, R, L, sz, ex) Q = (((K u).1 = 22 ∨ (K u).1 = 23 ∨ (K u).1 = 24 ∨ (K u).1 = 25) ∧ vp_in v (K u).2 ∧ X z 93 9 [x0, x1, x2, x3] (va_rf (R u v.toNatClampNeg) :: st) cu (K, I, R, L, sz, ex) Q) := by
  rw [x93_8]
  rfl
theorem v93_9 {z : P0} {st : List Value} {cu : Nat × Nat} {Q : Res → Mem → Prop} {σ : Mem} {x0 x1 x2 x3 : Option Value} {u : Nat} : X z 93 9 [x0, x1, x2, x3] (.ref u :: st) cu σ Q = (cat2 x2 = false ∧ X z 93 10 [x0, x1, x2, some (.ref u)] (st) cu σ Q) := by
  rw [x93_9]
  obtain ⟨K, I, R, L, sz, ex⟩ := σ
  exact i_astore_n.trans sl_3
theorem v93_10 {z : P0} {st : List Value} {cu : Nat × Nat} {Q : Res → Mem → Prop} {σ : Mem} {x0 x1 x3 : Option Value} {u : Int32} : X z 93 10 [x0, x1, some (.int u), x3] (st) cu σ Q = (X z 93 11 [x0, x1, some (.int u), x3] (.int u :: st) cu σ Q) := by
  rw [x93_10]
  rfl
theorem w93_11_0 {z : P0} {st : List Value} {cu : Nat × Nat} {Q : Res → Mem → Prop} {σ : Mem} {x0 x1 x2 x3 : Option Value} : X z 93 11 [x0, x1, x2, x3] (.int (nI 0) :: st) cu σ Q = (X z 93 56 [x0, x1, x2, x3] (st) cu σ Q) := by
  rw [x93_11]
  exact tsw_in (j := 0) (by decide) (by decide) (by decide) rfl
theorem w93_11_1 {z : P0} {st : List Value} {cu : Nat × Nat} {Q : Res → Mem → Prop} {σ : Mem} {x0 x1 x2 x3 : Option Value} : X z 93 11 [x0, x1, x2, x3] (.int (nI 1) :: st) cu σ Q = (X z 93 61 [x0, x1, x2, x3] (st) cu σ Q) := by
  rw [x93_11]
  exact tsw_in (j := 1) (by decide) (by decide) (by decide) rfl
theorem w93_11_2 {z : P0} {st : List Value} {cu : Nat × Nat} {Q : Res → Mem → Prop} {σ : Mem} {x0 x1 x2 x3 : Option Value} : X z 93 11 [x0, x1, x2, x3] (.int (nI 2) :: st) cu σ Q = (X z 93 66 [x0, x1, x2, x3] (st) cu σ Q) := by
  rw [x93_11]
  exact tsw_in (j := 2) (by decide) (by decide) (by decide) rfl
theorem w93_11_3 {z : P0} {st : List Value} {cu : Nat × Nat} {Q : Res → Mem → Prop} {σ : Mem} {x0 x1 x2 x3 : Option Value} : X z 93 11 [x0, x1, x2, x3] (.int (nI 3) :: st) cu σ Q = (X z 93 71 [x0, x1, x2, x3] (st) cu σ Q) := by
  rw [x93_11]
  exact tsw_in (j := 3) (by decide) (by decide) (by decide) rfl
theorem w93_11_4 {z : P0} {st : List Value} {cu : Nat × Nat} {Q : Res → Mem → Prop} {σ : Mem} {x0 x1 x2 x3 : Option Value} : X z 93 11 [x0, x1, x2, x3] (.int (nI 4) :: st) cu σ Q = (X z 93 76 [x0, x1, x2, x3] (st) cu σ Q) := by
  rw [x93_11]
  exact tsw_in (j := 4) (by decide) (by decide) (by decide) rfl
theorem w93_11_5 {z : P0} {st : List Value} {cu : Nat × Nat} {Q : Res → Mem → Prop} {σ : Mem} {x0 x1 x2 x3 : Option Value} : X z 93 11 [x0, x1, x2, x3] (.int (nI 5) :: st) cu σ Q = (X z 93 89 [x0, x1, x2, x3] (st) cu σ Q) := by
  rw [x93_11]
  exact tsw_in (j := 5) (by decide) (by decide) (by decide) rfl
theorem w93_11_6 {z : P0} {st : List Value} {cu : Nat × Nat} {Q : Res → Mem → Prop} {σ : Mem} {x0 x1 x2 x3 : Option Value} : X z 93 11 [x0, x1, x2, x3] (.int (nI 6) :: st) cu σ Q = (X z 93 94 [x0, x1, x2, x3] (st) cu σ Q) := by
  rw [x93_11]
  exact tsw_in (j := 6) (by decide) (by decide) (by decide) rfl
theorem w93_11_7 {z : P0} {st : List Value} {cu : Nat × Nat} {Q : Res → Mem → Prop} {σ : Mem} {x0 x1 x2 x3 : Option Value} : X z 93 11 [x0, x1, x2, x3] (.int (nI 7) :: st) cu σ Q = (X z 93 99 [x0, x1, x2, x3] (st) cu σ Q) := by
  rw [x93_11]
  exact tsw_in (j := 7) (by decide) (by decide) (by decide) rfl
theorem w93_11_d {z : P0} {st : List Value} {cu : Nat × Nat} {Q : Res → Mem → Prop} {σ : Mem} {x0 x1 x2 x3 : Option Value} {j : Nat} (h : 7 < j ∧ j < 2147483648) : X z 93 11 [x0, x1, x2, x3] (.int (nI j) :: st) cu σ Q = (X z 93 109 [x0, x1, x2, x3] (st) cu σ Q) := by
  rw [x93_11]
  exact tsw_out (Or.inr (by rw [nI_toInt h.2]; omega))
theorem v93_56 {z : P0} {st : List Value} {cu : Nat × Nat} {Q : Res → Mem → Prop} {σ : Mem} {x0 x1 x2 : Option Value} {u : Nat} : X z 93 56 [x0, x1, x2, some (.ref u)] (st) cu σ Q = (X z 93 57 [x0, x1, x2, some (.ref u)] (.ref u :: st) cu σ Q) := by
  rw [x93_56]
  rfl
theorem v93_57 {z : P0} {st : List Value} {cu : Nat × Nat} {Q : Res → Mem → Prop} {K : Nat → Nat × Nat} {I : Nat → Nat → Int32} {R : Nat → Nat → Option Nat} {L : Nat → Nat → Int64} {sz : Nat} {ex : Bool} {x0 x1 x2 x3 : Option Value} {u : Nat} : X z 93 57 [x0, x1, x2, x3] (.ref u :: st) cu (K, I, R, L, sz, ex) Q = ((K u).1 = 107 ∧ X z 93 60 [x0, x1, x2, x3] (.int (I u 1) :: st) cu (K, I, R, L, sz, ex) Q) := by
  rw [x93_57]
  rfl
theorem v93_60 {z : P0} {cu : Nat × Nat} {Q : Res → Mem → Prop} {σ : Mem} {x0 x1 x2 x3 : Option Value} {v : Int32} : X z 93 60 [x0, x1, x2, x3] ([.int v]) cu σ Q = (Q (.inl (some (.int v))) σ) := by
  rw [x93_60]
  exact propext ⟨fun h => h.2, fun h => ⟨trivial, h⟩⟩
theorem v93_61 {z : P0} {st : List Value} {cu : Nat × Nat} {Q : Res → Mem → Prop} {σ : Mem} {x0 x1 x2 : Option Value} {u : Nat} : X z 93 61 [x0, x1, x2, some (.ref u)] (st) cu σ Q = (X z 93 62 [x0, x1, x2, some (.ref u)] (.ref u :: st) cu σ Q) := by
  rw [x93_61]
  rfl
theorem v93_62 {z : P0} {st : List Value} {cu : Nat × Nat} {Q : Res → Mem → Prop} {K : Nat → Nat × Nat} {I : Nat → Nat → Int32} {R : Nat → Nat → Option Nat} {L : Nat → Nat → Int64} {sz : Nat} {ex : Bool} {x0 x1 x2 x3 : Option Value} {u : Nat} : X z 93 62 [x0, x1, x2, x3] (.ref u :: st) cu (K, I, R, L, sz, ex) Q = ((K u).1 = 107 ∧ X z 93 65 [x0, x1, x2, x3] (.int (I u 2) :: st) cu (K, I, R, L, sz, ex) Q) := by
  rw [x93_62]
  rfl
theorem v93_65 {z : P0} {cu : Nat × Nat} {Q : Res → Mem → Prop} {σ : Mem} {x0 x1 x2 x3 : Option Value} {v : Int32} : X z 93 65 [x0, x1, x2, x3] ([.int v]) cu σ Q = (Q (.inl (some (.int v))) σ) := by
  rw [x93_65]
  exact propext ⟨fun h => h.2, fun h => ⟨trivial, h⟩⟩
theorem v93_66 {z : P0} {st : List Value} {cu : Nat × Nat} {Q : Res → Mem → Prop} {σ : Mem} {x0 x1 x2 : Option Value} {u : Nat} : X z 93 66 [x0, x1, x2, some (.ref u)] (st) cu σ Q = (X z 93 67 [x0, x1, x2, some (.ref u)] (.ref u :: st) cu σ Q) := by
  rw [x93_66]
  rfl
theorem v93_67 {z : P0} {st : List Value} {cu : Nat × Nat} {Q : Res → Mem → Prop} {K : Nat → Nat × Nat} {I : Nat → Nat → Int32} {R : Nat → Nat → Option Nat} {L : Nat → Nat → Int64} {sz : Nat} {ex : Bool} {x0 x1 x2 x3 : Option Value} {u : Nat} : X z 93 67 [x0, x1, x2, x3] (.ref u :: st) cu (K, I, R, L, sz, ex) Q = ((K u).1 = 107 ∧ X z 93 70 [x0, x1, x2, x3] (.int (I u 3) :: st) cu (K, I, R, L, sz, ex) Q) := by
  rw [x93_67]
  rfl
theorem v93_70 {z : P0} {cu : Nat × Nat} {Q : Res → Mem → Prop} {σ : Mem} {x0 x1 x2 x3 : Option Value} {v : Int32} : X z 93 70 [x0, x1, x2, x3] ([.int v]) cu σ Q = (Q (.inl (some (.int v))) σ) := by
  rw [x93_70]
  exact propext ⟨fun h => h.2, fun h => ⟨trivial, h⟩⟩
theorem v93_71 {z : P0} {st : List Value} {cu : Nat × Nat} {Q : Res → Mem → Prop} {σ : Mem} {x0 x1 x2 : Option Value} {u : Nat} : X z 93 71 [x0, x1, x2, some (.ref u)] (st) cu σ Q = (X z 93 72 [x0, x1, x2, some (.ref u)] (.ref u :: st) cu σ Q) := by
  rw [x93_71]
  rfl
theorem v93_72 {z : P0} {st : List Value} {cu : Nat × Nat} {Q : Res → Mem → Prop} {K : Nat → Nat × Nat} {I : Nat → Nat → Int32} {R : Nat → Nat → Option Nat} {L : Nat → Nat → Int64} {sz : Nat} {ex : Bool} {x0 x1 x2 x3 : Option Value} {u : Nat} : X z 93 72 [x0, x1, x2, x3] (.ref u :: st) cu (K, I, R, L, sz, ex) Q = ((K u).1 = 107 ∧ X z 93 75 [x0, x1, x2, x3] (.int (I u 4) :: st) cu (K, I, R, L, sz, ex) Q) := by
  rw [x93_72]
  rfl
theorem v93_75 {z : P0} {cu : Nat × Nat} {Q : Res → Mem → Prop} {σ : Mem} {x0 x1 x2 x3 : Option Value} {v : Int32} : X z 93 75 [x0, x1, x2, x3] ([.int v]) cu σ Q = (Q (.inl (some (.int v))) σ) := by
  rw [x93_75]
  exact propext ⟨fun h => h.2, fun h => ⟨trivial, h⟩⟩
theorem v93_76 {z : P0} {st : List Value} {cu : Nat × Nat} {Q : Res → Mem → Prop} {σ : Mem} {x0 x1 x2 : Option Value} {u : Nat} : X z 93 76 [x0, x1, x2, some (.ref u)] (st) cu σ Q = (X z 93 77 [x0, x1, x2, some (.ref u)] (.ref u :: st) cu σ Q) := by
  rw [x93_76]
  rfl
theorem v93_77 {z : P0} {st : List Value} {cu : Nat × Nat} {Q : Res → Mem → Prop} {K : Nat → Nat × Nat} {I : Nat → Nat → Int32} {R : Nat → Nat → Option Nat} {L : Nat → Nat → Int64} {sz : Nat} {ex : Bool} {x0 x1 x2 x3 : Option Value} {u : Nat} : X z 93 77 [x0, x1, x2, x3] (.ref u :: st) cu (K, I, R, L, sz, ex) Q = ((K u).1 = 107 ∧ X z 93 80 [x0, x1, x2, x3] (.int (I u 5) :: st) cu (K, I, R, L, sz, ex) Q) := by
  rw [x93_77]
  rfl
theorem v93_80 {z : P0} {st : List Value} {cu : Nat × Nat} {Q : Res → Mem → Prop} {σ : Mem} {x0 x1 x2 x3 : Option Value} {u : Int32} : X z 93 80 [x0, x1, x2, x3] (.int u :: st) cu σ Q = (if u = nI 0 then X z 93 87 [x0, x1, x2, x3] (st) cu σ Q else X z 93 83 [x0, x1, x2, x3] (st) cu σ Q) := by
  rw [x93_80]
  rw [nI_0]
  obtain ⟨K, I, R, L, sz, ex⟩ := σ
  exact br_ite
theorem v93_83 {z : P0} {st : List Value} {cu : Nat × Nat} {Q : Res → Mem → Prop} {σ : Mem} {x0 x1 x2 x3 : Option Value} : X z 93 83 [x0, x1, x2, x3] (st) cu σ Q = (X z 93 84 [x0, x1, x2, x3] (.int (nI 1) :: st) cu σ Q) := by
  rw [x93_83]
  rfl
theorem v93_84 {z : P0} {st : List Value} {cu : Nat × Nat} {Q : Res → Mem → Prop} {σ : Mem} {x0 x1 x2 x3 : Option Value} : X z 93 84 [x0, x1, x2, x3] (st) cu σ Q = (X z 93 88 [x0, x1, x2, x3] (st) cu σ Q) := by
  rw [x93_84]
  rfl
theorem v93_87 {z : P0} {st : List Value} {cu : Nat × Nat} {Q : Res → Mem → Prop} {σ : Mem} {x0 x1 x2 x3 : Option Value} : X z 93 87 [x0, x1, x2, x3] (st) cu σ Q = (X z 93 88 [x0, x1, x2, x3] (.int (nI 0) :: st) cu σ Q) := by
  rw [x93_87]
  rfl
theorem v93_88 {z : P0} {cu : Nat × Nat} {Q : Res → Mem → Prop} {σ : Mem} {x0 x1 x2 x3 : Option Value} {v : Int32} : X z 93 88 [x0, x1, x2, x3] ([.int v]) cu σ Q = (Q (.inl (some (.int v))) σ) := by
  rw [x93_88]
  exact propext ⟨fun h => h.2, fun h => ⟨trivial, h⟩⟩
theorem v93_89 {z : P0} {st : List Value} {cu : Nat × Nat} {Q : Res → Mem → Prop} {σ : Mem} {x0 x1 x2 : Option Value} {u : Nat} : X z 93 89 [x0, x1, x2, some (.ref u)] (st) cu σ Q = (X z 93 90 [x0, x1, x2, some (.ref u)] (.ref u :: st) cu σ Q) := by
  rw [x93_89]
  rfl
theorem v93_90 {z : P0} {st : List Value} {cu : Nat × Nat} {Q : Res → Mem → Prop} {K : Nat → Nat × Nat} {I : Nat → Nat → Int32} {R : Nat → Nat → Option Nat} {L : Nat → Nat → Int64} {sz : Nat} {ex : Bool} {x0 x1 x2 x3 : Option Value} {u : Nat} : X z 93 90 [x0, x1, x2, x3] (.ref u :: st) cu (K, I, R, L, sz, ex) Q = ((K u).1 = 107 ∧ X z 93 93 [x0, x1, x2, x3] (.int (I u 6) :: st) cu (K, I, R, L, sz, ex) Q) := by
  rw [x93_90]
  rfl
theorem v93_93 {z : P0} {cu : Nat × Nat} {Q : Res → Mem → Prop} {σ : Mem} {x0 x1 x2 x3 : Option Value} {v : Int32} : X z 93 93 [x0, x1, x2, x3] ([.int v]) cu σ Q = (Q (.inl (some (.int v))) σ) := by
  rw [x93_93]
  exact propext ⟨fun h => h.2, fun h => ⟨trivial, h⟩⟩
theorem v93_94 {z : P0} {st : List Value} {cu : Nat × Nat} {Q : Res → Mem → Prop} {σ : Mem} {x0 x1 x2 : Option Value} {u : Nat} : X z 93 94 [x0, x1, x2, some (.ref u)] (st) cu σ Q = (X z 93 95 [x0, x1, x2, some (.ref u)] (.ref u :: st) cu σ Q) := by
  rw [x93_94]
  rfl
theorem v93_95 {z : P0} {st : List Value} {cu : Nat × Nat} {Q : Res → Mem → Prop} {K : Nat → Nat × Nat} {I : Nat → Nat → Int32} {R : Nat → Nat → Option Nat} {L : Nat → Nat → Int64} {sz : Nat} {ex : Bool} {x0 x1 x2 x3 : Option Value} {u : Nat} : X z 93 95 [x0, x1, x2, x3] (.ref u :: st) cu (K, I, R, L, sz, ex) Q = ((K u).1 = 107 ∧ X z 93 98 [x0, x1, x2, x3] (.int (I u 7) :: st) cu (K, I, R, L, sz, ex) Q) := by
  rw [x93_95]
  rfl
theorem v93_98 {z : P0} {cu : Nat × Nat} {Q : Res → Mem → Prop} {σ : Mem} {x0 x1 x2 x3 : Option Value} {v : Int32} : X z 93 98 [x0, x1, x2, x3] ([.int v]) cu σ Q = (Q (.inl (some (.int v))) σ) := by
  rw [x93_98]
  exact propext ⟨fun h => h.2, fun h => ⟨trivial, h⟩⟩
theorem v93_99 {z : P0} {st : List Value} {cu : Nat × Nat} {Q : Res → Mem → Prop} {σ : Mem} {x1 x2 x3 : Option Value} {u : Nat} : X z 93 99 [some (.ref u), x1, x2, x3] (st) cu σ Q = (X z 93 100 [some (.ref u), x1, x2, x3] (.ref u :: st) cu σ Q) := by
  rw [x93_99]
  rfl
theorem v93_100 {z : P0} {st : List Value} {cu : Nat × Nat} {Q : Res → Mem → Prop} {K : Nat → Nat × Nat} {I : Nat → Nat → Int32} {R : Nat → Nat → Option Nat} {L : Nat → Nat → Int64} {sz : Nat} {ex : Bool} {x0 x1 x2 x3 : Option Value} {u : Nat} : X z 93 100 [x0, x1, x2, x3] (.ref u :: st) cu (K, I, R, L, sz, ex) Q = ((K u).1 = 110 ∧ X z 93 103 [x0, x1, x2, x3] (va_rf (R u 3) :: st) cu (K, I, R, L, sz, ex) Q) := by
  rw [x93_100]
  rfl
theorem v93_103 {z : P0} {st : List Value} {cu : Nat × Nat} {Q : Res → Mem → Prop} {K : Nat → Nat × Nat} {I : Nat → Nat → Int32} {R : Nat → Nat → Option Nat} {L : Nat → Nat → Int64} {sz : Nat} {ex : Bool} {x0 x1 x2 x3 : Option Value} {u : Nat} : X z 93 103 [x0, x1, x2, x3] (.ref u :: st) cu (K, I, R, L, sz, ex) Q = ((K u).1 = 106 ∧ X z 93 106 [x0, x1, x2, x3] (va_rf (R u 3) :: st) cu (K, I, R, L, sz, ex) Q) := by
  rw [x93_103]
  rfl
theorem v93_106 {z : P0} {st : List Value} {cu : Nat × Nat} {Q : Res → Mem → Prop} {σ : Mem} {x0 x2 x3 : Option Value} {u : Int32} : X z 93 106 [x0, some (.int u), x2, x3] (st) cu σ Q = (X z 93 107 [x0, some (.int u), x2, x3] (.int u :: st) cu σ Q) := by
  rw [x93_106]
  rfl
theorem v93_107 {z : P0} {st : List Value} {cu : Nat × Nat} {Q : Res → Mem → Prop} {K : Nat → Nat × Nat} {I : Nat → Nat → Int32} {R : Nat → Nat → Option Nat} {L : Nat → Nat → Int64} {sz : Nat} {ex : Bool} {x0 x1 x2 x3 : Option Value} {u : Nat} {v : Int32} : X z 93 107 [x0, x1, x2, x3] (.int v :: .ref u :: st) cu (K, I, R, L, sz, ex) Q = (((K u).1 = 20 ∨ (K u).1 = 50) ∧ vp_in v (K u).2 ∧ X z 93 108 [x0, x1, x2, x3] (.int (I u v.toNatClampNeg) :: st) cu (K, I, R, L, sz, ex) Q) := by
  rw [x93_107]
  rfl
theorem v93_108 {z : P0} {cu : Nat × Nat} {Q : Res → Mem → Prop} {σ : Mem} {x0 x1 x2 x3 : Option Value} {v : Int32} : X z 93 108 [x0, x1, x2, x3] ([.int v]) cu σ Q = (Q (.inl (some (.int v))) σ) := by
  rw [x93_108]
  exact propext ⟨fun h => h.2, fun h => ⟨trivial, h⟩⟩
theorem v93_109 {z : P0} {st : List Value} {cu : Nat × Nat} {Q : Res → Mem → Prop} {σ : Mem} {x1 x2 x3 : Option Value} {u : Nat} : X z 93 109 [some (.ref u), x1, x2, x3] (st) cu σ Q = (X z 93 110 [some (.ref u), x1, x2, x3] (.ref u :: st) cu σ Q) := by
  rw [x93_109]
  rfl
theorem v93_110 {z : P0} {st : List Value} {cu : Nat × Nat} {Q : Res → Mem → Prop} {K : Nat → Nat × Nat} {I : Nat → Nat → Int32} {R : Nat → Nat → Option Nat} {L : Nat → Nat → Int64} {sz : Nat} {ex : Bool} {x0 x1 x2 x3 : Option Value} {u : Nat} : X z 93 110 [x0, x1, x2, x3] (.ref u :: st) cu (K, I, R, L, sz, ex) Q = ((K u).1 = 110 ∧ X z 93 113 [x0, x1, x2, x3] (va_rf (R u 3) :: st) cu (K, I, R, L, sz, ex) Q) := by
  rw [x93_110]
  rfl
theorem v93_113 {z : P0} {st : List Value} {cu : Nat × Nat} {Q : Res → Mem → Prop} {K : Nat → Nat × Nat} {I : Nat → Nat → Int32} {R : Nat → Nat → Option Nat} {L : Nat → Nat → Int64} {sz : Nat} {ex : Bool} {x0 x1 x2 x3 : Option Value} {u : Nat} : X z 93 113 [x0, x1, x2, x3] (.ref u :: st) cu (K, I, R, L, sz, ex) Q = ((K u).1 = 106 ∧ X z 93 116 [x0, x1, x2, x3] (va_rf (R u 2) :: st) cu (K, I, R, L, sz, ex) Q) := by
  rw [x93_113]
  rfl
theorem v93_116 {z : P0} {st : List Value} {cu : Nat × Nat} {Q : Res → Mem → Prop} {σ : Mem} {x0 x2 x3 : Option Value} {u : Int32} : X z 93 116 [x0, some (.int u), x2, x3] (st) cu σ Q = (X z 93 117 [x0, some (.int u), x2, x3] (.int u :: st) cu σ Q) := by
  rw [x93_116]
  rfl
theorem v93_117 {z : P0} {st : List Value} {cu : Nat × Nat} {Q : Res → Mem → Prop} {K : Nat → Nat × Nat} {I : Nat → Nat → Int32} {R : Nat → Nat → Option Nat} {L : Nat → Nat → Int64} {sz : Nat} {ex : Bool} {x0 x1 x2 x3 : Option Value} {u : Nat} {v : Int32} : X z 93 117 [x0, x1, x2, x3] (.int v :: .ref u :: st) cu (K, I, R, L, sz, ex) Q = (((K u).1 = 20 ∨ (K u).1 = 50) ∧ vp_in v (K u).2 ∧ X z 93 118 [x0, x1, x2, x3] (.int (I u v.toNatClampNeg) :: st) cu (K, I, R, L, sz, ex) Q) := by
  rw [x93_117]
  rfl
theorem v93_118 {z : P0} {cu : Nat × Nat} {Q : Res → Mem → Prop} {σ : Mem} {x0 x1 x2 x3 : Option Value} {v : Int32} : X z 93 118 [x0, x1, x2, x3] ([.int v]) cu σ Q = (Q (.inl (some (.int v))) σ) := by
  rw [x93_118]
  exact propext ⟨fun h => h.2, fun h => ⟨trivial, h⟩⟩
theorem v95_0 {z : P0} {st : List Value} {cu : Nat × Nat} {Q : Res → Mem → Prop} {σ : Mem} {x1 x2 x3 : Option Value} {u : Nat} : X z 95 0 [some (.ref u), x1, x2, x3] (st) cu σ Q = (X z 95 1 [some (.ref u), x1, x2, x3] (.ref u :: st) cu σ Q) := by
  rw [x95_0]
  rfl
theorem v95_1 {z : P0} {st : List Value} {cu : Nat × Nat} {Q : Res → Mem → Prop} {K : Nat → Nat × Nat} {I : Nat → Nat → Int32} {R : Nat → Nat → Option Nat} {L : Nat → Nat → Int64} {sz : Nat} {ex : Bool} {x0 x1 x2 x3 : Option Value} {u : Nat} : X z 95 1 [x0, x1, x2, x3] (.ref u :: st) cu (K, I, R, L, sz, ex) Q = ((K u).1 = 110 ∧ X z 95 4 [x0, x1, x2, x3] (va_rf (R u 3) :: st) cu (K, I, R, L, sz, ex) Q) := by
  rw [x95_1]
  rfl
theorem v95_4 {z : P0} {st : List Value} {cu : Nat × Nat} {Q : Res → Mem → Prop} {K : Nat → Nat × Nat} {I : Nat → Nat → Int32} {R : Nat → Nat → Option Nat} {L : Nat → Nat → Int64} {sz : Nat} {ex : Bool} {x0 x1 x2 x3 : Option Value} {u : Nat} : X z 95 4 [x0, x1, x2, x3] (.ref u :: st) cu (K, I, R, L, sz, ex) Q = ((K u).1 = 106 ∧ X z 95 7 [x0, x1, x2, x3] (va_rf (R u 0) :: st) cu (K, I, R, L, sz, ex) Q) := by
  rw [x95_4]
  rfl
theorem v95_7 {z : P0} {st : List Value} {cu : Nat × Nat} {Q : Res → Mem → Prop} {σ : Mem} {x0 x2 x3 : Option Value} {u : Int32} : X z 95 7 [x0, some (.int u), x2, x3] (st) cu σ Q = (X z 95 8 [x0, some (.int u), x2, x3] (.int u :: st) cu σ Q) := by
  rw [x95_7]
  rfl
theorem v95_8 {z : P0} {st : List Value} {cu : Nat × Nat} {Q : Res → Mem → Prop} {K : Nat → Nat × Nat} {I : Nat → Nat → Int32} {R : Nat → Nat → Option Nat} {L : Nat → Nat → Int64} {sz : Nat} {ex : Bool} {x0 x1 x2 x3 : Option Value} {u : Nat} {v : Int32} : X z 95 8 [x0, x1, x2, x3] (.int v :: .ref u :: st) cu (K, I, R, L, sz, ex) Q = (((K u).1 = 22 ∨ (K u).1 = 23 ∨ (K u).1 = 24 ∨ (K u).1 = 25) ∧ vp_in v (K u).2 ∧ X z 95 9 [x0, x1, x2, x3] (va_rf (R u v.toNatClampNeg) :: st) cu (K, I, R, L, sz, ex) Q) := by
  rw [x95_8]
  rfl
theorem v95_9 {z : P0} {st : List Value} {cu : Nat × Nat} {Q : Res → Mem → Prop} {σ : Mem} {x0 x1 x2 x3 : Option Value} {u : Nat} : X z 95 9 [x0, x1, x2, x3] (.ref u :: st) cu σ Q = (cat2 x2 = false ∧ X z 95 10 [x0, x1, x2, some (.ref u)] (st) cu σ Q) := by
  rw [x95_9]
  obtain ⟨K, I, R, L, sz, ex⟩ := σ
  exact i_astore_n.trans sl_3
theorem v95_10 {z : P0} {st : List Value} {cu : Nat × Nat} {Q : Res → Mem → Prop} {σ : Mem} {x0 x1 x3 : Option Value} {u : Int32} : X z 95 10 [x0, x1, some (.int u), x3] (st) cu σ Q = (X z 95 11 [x0, x1, some (.int u), x3] (.int u :: st) cu σ Q) := by
  rw [x95_10]
  rfl
theorem w95_11_0 {z : P0} {st : List Value} {cu : Nat × Nat} {Q : Res → Mem → Prop} {σ : Mem} {x0 x1 x2 x3 : Option Value} : X z 95 11 [x0, x1, x2, x3] (.int (nI 0) :: st) cu σ Q = (X z 95 52 [x0, x1, x2, x3] (st) cu σ Q) := by
  rw [x95_11]
  exact tsw_in (j := 0) (by decide) (by decide) (by decide) rfl
theorem w95_11_1 {z : P0} {st : List Value} {cu : Nat × Nat} {Q : Res → Mem → Prop} {σ : Mem} {x0 x1 x2 x3 : Option Value} : X z 95 11 [x0, x1, x2, x3] (.int (nI 1) :: st) cu σ Q = (X z 95 59 [x0, x1, x2, x3] (st) cu σ Q) := by
  rw [x95_11]
  exact tsw_in (j := 1) (by decide) (by decide) (by decide) rfl
theorem w95_11_2 {z : P0} {st : List Value} {cu : Nat × Nat} {Q : Res → Mem → Prop} {σ : Mem} {x0 x1 x2 x3 : Option Value} : X z 95 11 [x0, x1, x2, x3] (.int (nI 2) :: st) cu σ Q = (X z 95 64 [x0, x1, x2, x3] (st) cu σ Q) := by
  rw [x95_11]
  exact tsw_in (j := 2) (by decide) (by decide) (by decide) rfl
theorem w95_11_3 {z : P0} {st : List Value} {cu : Nat × Nat} {Q : Res → Mem → Prop} {σ : Mem} {x0 x1 x2 x3 : Option Value} : X z 95 11 [x0, x1, x2, x3] (.int (nI 3) :: st) cu σ Q = (X z 95 69 [x0, x1, x2, x3] (st) cu σ Q) := by
  rw [x95_11]
  exact tsw_in (j := 3) (by decide) (by decide) (by decide) rfl
theorem w95_11_4 {z : P0} {st : List Value} {cu : Nat × Nat} {Q : Res → Mem → Prop} {σ : Mem} {x0 x1 x2 x3 : Option Value} : X z 95 11 [x0, x1, x2, x3] (.int (nI 4) :: st) cu σ Q = (X z 95 74 [x0, x1, x2, x3] (st) cu σ Q) := by
  rw [x95_11]
  exact tsw_in (j := 4) (by decide) (by decide) (by decide) rfl
theorem w95_11_5 {z : P0} {st : List Value} {cu : Nat × Nat} {Q : Res → Mem → Prop} {σ : Mem} {x0 x1 x2 x3 : Option Value} : X z 95 11 [x0, x1, x2, x3] (.int (nI 5) :: st) cu σ Q = (X z 95 79 [x0, x1, x2, x3] (st) cu σ Q) := by
  rw [x95_11]
  exact tsw_in (j := 5) (by decide) (by decide) (by decide) rfl
theorem w95_11_6 {z : P0} {st : List Value} {cu : Nat × Nat} {Q : Res → Mem → Prop} {σ : Mem} {x0 x1 x2 x3 : Option Value} : X z 95 11 [x0, x1, x2, x3] (.int (nI 6) :: st) cu σ Q = (X z 95 84 [x0, x1, x2, x3] (st) cu σ Q) := by
  rw [x95_11]
  exact tsw_in (j := 6) (by decide) (by decide) (by decide) rfl
theorem w95_11_d {z : P0} {st : List Value} {cu : Nat × Nat} {Q : Res → Mem → Prop} {σ : Mem} {x0 x1 x2 x3 : Option Value} {j : Nat} (h : 6 < j ∧ j < 2147483648) : X z 95 11 [x0, x1, x2, x3] (.int (nI j) :: st) cu σ Q = (X z 95 99 [x0, x1, x2, x3] (st) cu σ Q) := by
  rw [x95_11]
  exact tsw_out (Or.inr (by rw [nI_toInt h.2]; omega))
theorem v95_52 {z : P0} {st : List Value} {cu : Nat × Nat} {Q : Res → Mem → Prop} {σ : Mem} {x0 x1 x2 : Option Value} {u : Nat} : X z 95 52 [x0, x1, x2, some (.ref u)] (st) cu σ Q = (X z 95 53 [x0, x1, x2, some (.ref u)] (.ref u :: st) cu σ Q) := by
  rw [x95_52]
  rfl
theorem v95_53 {z : P0} {st : List Value} {cu : Nat × Nat} {Q : Res → Mem → Prop} {K : Nat → Nat × Nat} {I : Nat → Nat → Int32} {R : Nat → Nat → Option Nat} {L : Nat → Nat → Int64} {sz : Nat} {ex : Bool} {x0 x1 x2 x3 : Option Value} {u : Nat} : X z 95 53 [x0, x1, x2, x3] (.ref u :: st) cu (K, I, R, L, sz, ex) Q = ((K u).1 = 102 ∧ X z 95 56 [x0, x1, x2, x3] (va_rf (R u 0) :: st) cu (K, I, R, L, sz, ex) Q) := by
  rw [x95_53]
  rfl
theorem v95_56 {z : P0} {st : List Value} {cu : Nat × Nat} {Q : Res → Mem → Prop} {σ : Mem} {x0 x1 x2 x3 : Option Value} : X z 95 56 [x0, x1, x2, x3] (st) cu σ Q = (X z 95 57 [x0, x1, x2, x3] (.int (nI 0) :: st) cu σ Q) := by
  rw [x95_56]
  rfl
theorem v95_57 {z : P0} {st : List Value} {cu : Nat × Nat} {Q : Res → Mem → Prop} {K : Nat → Nat × Nat} {I : Nat → Nat → Int32} {R : Nat → Nat → Option Nat} {L : Nat → Nat → Int64} {sz : Nat} {ex : Bool} {x0 x1 x2 x3 : Option Value} {u : Nat} {v : Int32} : X z 95 57 [x0, x1, x2, x3] (.int v :: .ref u :: st) cu (K, I, R, L, sz, ex) Q = (((K u).1 = 20 ∨ (K u).1 = 50) ∧ vp_in v (K u).2 ∧ X z 95 58 [x0, x1, x2, x3] (.int (I u v.toNatClampNeg) :: st) cu (K, I, R, L, sz, ex) Q) := by
  rw [x95_57]
  rfl
theorem v95_58 {z : P0} {cu : Nat × Nat} {Q : Res → Mem → Prop} {σ : Mem} {x0 x1 x2 x3 : Option Value} {v : Int32} : X z 95 58 [x0, x1, x2, x3] ([.int v]) cu σ Q = (Q (.inl (some (.int v))) σ) := by
  rw [x95_58]
  exact propext ⟨fun h => h.2, fun h => ⟨trivial, h⟩⟩
theorem v95_59 {z : P0} {st : List Value} {cu : Nat × Nat} {Q : Res → Mem → Prop} {σ : Mem} {x0 x1 x2 : Option Value} {u : Nat} : X z 95 59 [x0, x1, x2, some (.ref u)] (st) cu σ Q = (X z 95 60 [x0, x1, x2, some (.ref u)] (.ref u :: st) cu σ Q) := by
  rw [x95_59]
  rfl
theorem v95_60 {z : P0} {st : List Value} {cu : Nat × Nat} {Q : Res → Mem → Prop} {K : Nat → Nat × Nat} {I : Nat → Nat → Int32} {R : Nat → Nat → Option Nat} {L : Nat → Nat → Int64} {sz : Nat} {ex : Bool} {x0 x1 x2 x3 : Option Value} {u : Nat} : X z 95 60 [x0, x1, x2, x3] (.ref u :: st) cu (K, I, R, L, sz, ex) Q = ((K u).1 = 102 ∧ X z 95 63 [x0, x1, x2, x3] (.int (I u 1) :: st) cu (K, I, R, L, sz, ex) Q) := by
  rw [x95_60]
  rfl
theorem v95_63 {z : P0} {cu : Nat × Nat} {Q : Res → Mem → Prop} {σ : Mem} {x0 x1 x2 x3 : Option Value} {v : Int32} : X z 95 63 [x0, x1, x2, x3] ([.int v]) cu σ Q = (Q (.inl (some (.int v))) σ) := by
  rw [x95_63]
  exact propext ⟨fun h => h.2, fun h => ⟨trivial, h⟩⟩
theorem v95_64 {z : P0} {st : List Value} {cu : Nat × Nat} {Q : Res → Mem → Prop} {σ : Mem} {x0 x1 x2 : Option Value} {u : Nat} : X z 95 64 [x0, x1, x2, some (.ref u)] (st) cu σ Q = (X z 95 65 [x0, x1, x2, some (.ref u)] (.ref u :: st) cu σ Q) := by
  rw [x95_64]
  rfl
theorem v95_65 {z : P0} {st : List Value} {cu : Nat × Nat} {Q : Res → Mem → Prop} {K : Nat → Nat × Nat} {I : Nat → Nat → Int32} {R : Nat → Nat → Option Nat} {L : Nat → Nat → Int64} {sz : Nat} {ex : Bool} {x0 x1 x2 x3 : Option Value} {u : Nat} : X z 95 65 [x0, x1, x2, x3] (.ref u :: st) cu (K, I, R, L, sz, ex) Q = ((K u).1 = 102 ∧ X z 95 68 [x0, x1, x2, x3] (.int (I u 2) :: st) cu (K, I, R, L, sz, ex) Q) := by
  rw [x95_65]
  rfl
theorem v95_68 {z : P0} {cu : Nat × Nat} {Q : Res → Mem → Prop} {σ : Mem} {x0 x1 x2 x3 : Option Value} {v : Int32} : X z 95 68 [x0, x1, x2, x3] ([.int v]) cu σ Q = (Q (.inl (some (.int v))) σ) := by
  rw [x95_68]
  exact propext ⟨fun h => h.2, fun h => ⟨trivial, h⟩⟩
theorem v95_69 {z : P0} {st : List Value} {cu : Nat × Nat} {Q : Res → Mem → Prop} {σ : Mem} {x0 x1 x2 : Option Value} {u : Nat} : X z 95 69 [x0, x1, x2, some (.ref u)] (st) cu σ Q = (X z 95 70 [x0, x1, x2, some (.ref u)] (.ref u :: st) cu σ Q) := by
  rw [x95_69]
  rfl
theorem v95_70 {z : P0} {st : List Value} {cu : Nat × Nat} {Q : Res → Mem → Prop} {K : Nat → Nat × Nat} {I : Nat → Nat → Int32} {R : Nat → Nat → Option Nat} {L : Nat → Nat → Int64} {sz : Nat} {ex : Bool} {x0 x1 x2 x3 : Option Value} {u : Nat} : X z 95 70 [x0, x1, x2, x3] (.ref u :: st) cu (K, I, R, L, sz, ex) Q = ((K u).1 = 102 ∧ X z 95 73 [x0, x1, x2, x3] (.int (I u 3) :: st) cu (K, I, R, L, sz, ex) Q) := by
  rw [x95_70]
  rfl
theorem v95_73 {z : P0} {cu : Nat × Nat} {Q : Res → Mem → Prop} {σ : Mem} {x0 x1 x2 x3 : Option Value} {v : Int32} : X z 95 73 [x0, x1, x2, x3] ([.int v]) cu σ Q = (Q (.inl (some (.int v))) σ) := by
  rw [x95_73]
  exact propext ⟨fun h => h.2, fun h => ⟨trivial, h⟩⟩
theorem v95_74 {z : P0} {st : List Value} {cu : Nat × Nat} {Q : Res → Mem → Prop} {σ : Mem} {x0 x1 x2 : Option Value} {u : Nat} : X z 95 74 [x0, x1, x2, some (.ref u)] (st) cu σ Q = (X z 95 75 [x0, x1, x2, some (.ref u)] (.ref u :: st) cu σ Q) := by
  rw [x95_74]
  rfl
theorem v95_75 {z : P0} {st : List Value} {cu : Nat × Nat} {Q : Res → Mem → Prop} {K : Nat → Nat × Nat} {I : Nat → Nat → Int32} {R : Nat → Nat → Option Nat} {L : Nat → Nat → Int64} {sz : Nat} {ex : Bool} {x0 x1 x2 x3 : Option Value} {u : Nat} : X z 95 75 [x0, x1, x2, x3] (.ref u :: st) cu (K, I, R, L, sz, ex) Q = ((K u).1 = 102 ∧ X z 95 78 [x0, x1, x2, x3] (.int (I u 4) :: st) cu (K, I, R, L, sz, ex) Q) := by
  rw [x95_75]
  rfl
theorem v95_78 {z : P0} {cu : Nat × Nat} {Q : Res → Mem → Prop} {σ : Mem} {x0 x1 x2 x3 : Option Value} {v : Int32} : X z 95 78 [x0, x1, x2, x3] ([.int v]) cu σ Q = (Q (.inl (some (.int v))) σ) := by
  rw [x95_78]
  exact propext ⟨fun h => h.2, fun h => ⟨trivial, h⟩⟩
theorem v95_79 {z : P0} {st : List Value} {cu : Nat × Nat} {Q : Res → Mem → Prop} {σ : Mem} {x0 x1 x2 : Option Value} {u : Nat} : X z 95 79 [x0, x1, x2, some (.ref u)] (st) cu σ Q = (X z 95 80 [x0, x1, x2, some (.ref u)] (.ref u :: st) cu σ Q) := by
  rw [x95_79]
  rfl
theorem v95_80 {z : P0} {st : List Value} {cu : Nat × Nat} {Q : Res → Mem → Prop} {K : Nat → Nat × Nat} {I : Nat → Nat → Int32} {R : Nat → Nat → Option Nat} {L : Nat → Nat → Int64} {sz : Nat} {ex : Bool} {x0 x1 x2 x3 : Option Value} {u : Nat} : X z 95 80 [x0, x1, x2, x3] (.ref u :: st) cu (K, I, R, L, sz, ex) Q = ((K u).1 = 102 ∧ X z 95 83 [x0, x1, x2, x3] (.int (I u 5) :: st) cu (K, I, R, L, sz, ex) Q) := by
  rw [x95_80]
  rfl
theorem v95_83 {z : P0} {cu : Nat × Nat} {Q : Res → Mem → Prop} {σ : Mem} {x0 x1 x2 x3 : Option Value} {v : Int32} : X z 95 83 [x0, x1, x2, x3] ([.int v]) cu σ Q = (Q (.inl (some (.int v))) σ) := by
  rw [x95_83]
  exact propext ⟨fun h => h.2, fun h => ⟨trivial, h⟩⟩
theorem v95_84 {z : P0} {st : List Value} {cu : Nat × Nat} {Q : Res → Mem → Prop} {σ : Mem} {x0 x1 x2 : Option Value} {u : Nat} : X z 95 84 [x0, x1, x2, some (.ref u)] (st) cu σ Q = (X z 95 85 [x0, x1, x2, some (.ref u)] (.ref u :: st) cu σ Q) := by
  rw [x95_84]
  rfl
theorem v95_85 {z : P0} {st : List Value} {cu : Nat × Nat} {Q : Res → Mem → Prop} {K : Nat → Nat × Nat} {I : Nat → Nat → Int32} {R : Nat → Nat → Option Nat} {L : Nat → Nat → Int64} {sz : Nat} {ex : Bool} {x0 x1 x2 x3 : Option Value} {u : Nat} : X z 95 85 [x0, x1, x2, x3] (.ref u :: st) cu (K, I, R, L, sz, ex) Q = ((K u).1 = 102 ∧ X z 95 88 [x0, x1, x2, x3] (.int (I u 5) :: st) cu (K, I, R, L, sz, ex) Q) := by
  rw [x95_85]
  rfl
theorem v95_88 {z : P0} {st : List Value} {cu : Nat × Nat} {Q : Res → Mem → Prop} {σ : Mem} {x1 x2 x3 : Option Value} {u : Nat} : X z 95 88 [some (.ref u), x1, x2, x3] (st) cu σ Q = (X z 95 89 [some (.ref u), x1, x2, x3] (.ref u :: st) cu σ Q) := by
  rw [x95_88]
  rfl
theorem v95_89 {z : P0} {st : List Value} {cu : Nat × Nat} {Q : Res → Mem → Prop} {K : Nat → Nat × Nat} {I : Nat → Nat → Int32} {R : Nat → Nat → Option Nat} {L : Nat → Nat → Int64} {sz : Nat} {ex : Bool} {x0 x1 x2 x3 : Option Value} {u : Nat} : X z 95 89 [x0, x1, x2, x3] (.ref u :: st) cu (K, I, R, L, sz, ex) Q = ((K u).1 = 110 ∧ X z 95 92 [x0, x1, x2, x3] (va_rf (R u 0) :: st) cu (K, I, R, L, sz, ex) Q) := by
  rw [x95_89]
  rfl
theorem v95_92 {z : P0} {st : List Value} {cu : Nat × Nat} {Q : Res → Mem → Prop} {K : Nat → Nat × Nat} {I : Nat → Nat → Int32} {R : Nat → Nat → Option Nat} {L : Nat → Nat → Int64} {sz : Nat} {ex : Bool} {x0 x1 x2 x3 : Option Value} {u : Nat} : X z 95 92 [x0, x1, x2, x3] (.ref u :: st) cu (K, I, R, L, sz, ex) Q = ((K u).1 = 108 ∧ X z 95 95 [x0, x1, x2, x3] (va_rf (R u 5) :: st) cu (K, I, R, L, sz, ex) Q) := by
  rw [x95_92]
  rfl
theorem v95_95 {z : P0} {st : List Value} {cu : Nat × Nat} {Q : Res → Mem → Prop} {σ : Mem} {x0 x1 x2 x3 : Option Value} : X z 95 95 [x0, x1, x2, x3] (st) cu σ Q = (X z 95 96 [x0, x1, x2, x3] (.int (nI 5) :: st) cu σ Q) := by
  rw [x95_95]
  rfl
theorem v95_96 {z : P0} {st : List Value} {cu : Nat × Nat} {Q : Res → Mem → Prop} {K : Nat → Nat × Nat} {I : Nat → Nat → Int32} {R : Nat → Nat → Option Nat} {L : Nat → Nat → Int64} {sz : Nat} {ex : Bool} {x0 x1 x2 x3 : Option Value} {u : Nat} {v : Int32} : X z 95 96 [x0, x1, x2, x3] (.int v :: .ref u :: st) cu (K, I, R, L, sz, ex) Q = (((K u).1 = 20 ∨ (K u).1 = 50) ∧ vp_in v (K u).2 ∧ X z 95 97 [x0, x1, x2, x3] (.int (I u v.toNatClampNeg) :: st) cu (K, I, R, L, sz, ex) Q) := by
  rw [x95_96]
  rfl
theorem v95_97 {z : P0} {st : List Value} {cu : Nat × Nat} {Q : Res → Mem → Prop} {σ : Mem} {x0 x1 x2 x3 : Option Value} {u v : Int32} : X z 95 97 [x0, x1, x2, x3] (.int v :: .int u :: st) cu σ Q = (X z 95 98 [x0, x1, x2, x3] (.int (u * v) :: st) cu σ Q) := by
  rw [x95_97]
  rfl
theorem v95_98 {z : P0} {cu : Nat × Nat} {Q : Res → Mem → Prop} {σ : Mem} {x0 x1 x2 x3 : Option Value} {v : Int32} : X z 95 98 [x0, x1, x2, x3] ([.int v]) cu σ Q = (Q (.inl (some (.int v))) σ) := by
  rw [x95_98]
  exact propext ⟨fun h => h.2, fun h => ⟨trivial, h⟩⟩
theorem v95_99 {z : P0} {st : List Value} {cu : Nat × Nat} {Q : Res → Mem → Prop} {σ : Mem} {x0 x1 x2 : Option Value} {u : Nat} : X z 95 99 [x0, x1, x2, some (.ref u)] (st) cu σ Q = (X z 95 100 [x0, x1, x2, some (.ref u)] (.ref u :: st) cu σ Q) := by
  rw [x95_99]
  rfl
theorem v95_100 {z : P0} {st : List Value} {cu : Nat × Nat} {Q : Res → Mem → Prop} {K : Nat → Nat × Nat} {I : Nat → Nat → Int32} {R : Nat → Nat → Option Nat} {L : Nat → Nat → Int64} {sz : Nat} {ex : Bool} {x0 x1 x2 x3 : Option Value} {u : Nat} : X z 95 100 [x0, x1, x2, x3] (.ref u :: st) cu (K, I, R, L, sz, ex) Q = ((K u).1 = 102 ∧ X z 95 103 [x0, x1, x2, x3] (.int (I u 5) :: st) cu (K, I, R, L, sz, ex) Q) := by
  rw [x95_100]
  rfl
theorem v95_103 {z : P0} {st : List Value} {cu : Nat × Nat} {Q : Res → Mem → Prop} {σ : Mem} {x1 x2 x3 : Option Value} {u : Nat} : X z 95 103 [some (.ref u), x1, x2, x3] (st) cu σ Q = (X z 95 104 [some (.ref u), x1, x2, x3] (.ref u :: st) cu σ Q) := by
  rw [x95_103]
  rfl
theorem v95_104 {z : P0} {st : List Value} {cu : Nat × Nat} {Q : Res → Mem → Prop} {K : Nat → Nat × Nat} {I : Nat → Nat → Int32} {R : Nat → Nat → Option Nat} {L : Nat → Nat → Int64} {sz : Nat} {ex : Bool} {x0 x1 x2 x3 : Option Value} {u : Nat} : X z 95 104 [x0, x1, x2, x3] (.ref u :: st) cu (K, I, R, L, sz, ex) Q = ((K u).1 = 110 ∧ X z 95 107 [x0, x1, x2, x3] (va_rf (R u 0) :: st) cu (K, I, R, L, sz, ex) Q) := by
  rw [x95_104]
  rfl
theorem v95_107 {z : P0} {st : List Value} {cu : Nat × Nat} {Q : Res → Mem → Prop} {K : Nat → Nat × Nat} {I : Nat → Nat → Int32} {R : Nat → Nat → Option Nat} {L : Nat → Nat → Int64} {sz : Nat} {ex : Bool} {x0 x1 x2 x3 : Option Value} {u : Nat} : X z 95 107 [x0, x1, x2, x3] (.ref u :: st) cu (K, I, R, L, sz, ex) Q = ((K u).1 = 108 ∧ X z 95 110 [x0, x1, x2, x3] (va_rf (R u 5) :: st) cu (K, I, R, L, sz, ex) Q) := by
  rw [x95_107]
  rfl
theorem v95_110 {z : P0} {st : List Value} {cu : Nat × Nat} {Q : Res → Mem → Prop} {σ : Mem} {x0 x1 x2 x3 : Option Value} : X z 95 110 [x0, x1, x2, x3] (st) cu σ Q = (X z 95 111 [x0, x1, x2, x3] (.int (nI 4) :: st) cu σ Q) := by
  rw [x95_110]
  rfl
theorem v95_111 {z : P0} {st : List Value} {cu : Nat × Nat} {Q : Res → Mem → Prop} {K : Nat → Nat × Nat} {I : Nat → Nat → Int32} {R : Nat → Nat → Option Nat} {L : Nat → Nat → Int64} {sz : Nat} {ex : Bool} {x0 x1 x2 x3 : Option Value} {u : Nat} {v : Int32} : X z 95 111 [x0, x1, x2, x3] (.int v :: .ref u :: st) cu (K, I, R, L, sz, ex) Q = (((K u).1 = 20 ∨ (K u).1 = 50) ∧ vp_in v (K u).2 ∧ X z 95 112 [x0, x1, x2, x3] (.int (I u v.toNatClampNeg) :: st) cu (K, I, R, L, sz, ex) Q) := by
  rw [x95_111]
  rfl
theorem v95_112 {z : P0} {st : List Value} {cu : Nat × Nat} {Q : Res → Mem → Prop} {σ : Mem} {x0 x1 x2 x3 : Option Value} {u v : Int32} : X z 95 112 [x0, x1, x2, x3] (.int v :: .int u :: st) cu σ Q = (if v < u then X z 95 119 [x0, x1, x2, x3] (st) cu σ Q else X z 95 115 [x0, x1, x2, x3] (st) cu σ Q) := by
  rw [x95_112]
  obtain ⟨K, I, R, L, sz, ex⟩ := σ
  exact br_ite
theorem v95_115 {z : P0} {st : List Value} {cu : Nat × Nat} {Q : Res → Mem → Prop} {σ : Mem} {x0 x1 x2 x3 : Option Value} : X z 95 115 [x0, x1, x2, x3] (st) cu σ Q = (X z 95 116 [x0, x1, x2, x3] (.int (nI 1) :: st) cu σ Q) := by
  rw [x95_115]
  rfl
theorem v95_116 {z : P0} {st : List Value} {cu : Nat × Nat} {Q : Res → Mem → Prop} {σ : Mem} {x0 x1 x2 x3 : Option Value} : X z 95 116 [x0, x1, x2, x3] (st) cu σ Q = (X z 95 120 [x0, x1, x2, x3] (st) cu σ Q) := by
  rw [x95_116]
  rfl
theorem v95_119 {z : P0} {st : List Value} {cu : Nat × Nat} {Q : Res → Mem → Prop} {σ : Mem} {x0 x1 x2 x3 : Option Value} : X z 95 119 [x0, x1, x2, x3] (st) cu σ Q = (X z 95 120 [x0, x1, x2, x3] (.int (nI 0) :: st) cu σ Q) := by
  rw [x95_119]
  rfl
theorem v95_120 {z : P0} {cu : Nat × Nat} {Q : Res → Mem → Prop} {σ : Mem} {x0 x1 x2 x3 : Option Value} {v : Int32} : X z 95 120 [x0, x1, x2, x3] ([.int v]) cu σ Q = (Q (.inl (some (.int v))) σ) := by
  rw [x95_120]
  exact propext ⟨fun h => h.2, fun h => ⟨trivial, h⟩⟩
theorem v96_0 {z : P0} {st : List Value} {cu : Nat × Nat} {Q : Res → Mem → Prop} {σ : Mem} {x0 : Option Value} {u : Int32} : X z 96 0 [x0, some (.int u)] (st) cu σ Q = (X z 96 1 [x0, some (.int u)] (.int u :: st) cu σ Q) := by
  rw [x96_0]
  rfl
theorem w96_1_0 {z : P0} {st : List Value} {cu : Nat × Nat} {Q : Res → Mem → Prop} {σ : Mem} {x0 x1 : Option Value} : X z 96 1 [x0, x1] (.int (nI 0) :: st) cu σ Q = (X z 96 72 [x0, x1] (st) cu σ Q) := by
  rw [x96_1]
  exact tsw_in (j := 0) (by decide) (by decide) (by decide) rfl
theorem w96_1_1 {z : P0} {st : List Value} {cu : Nat × Nat} {Q : Res → Mem → Prop} {σ : Mem} {x0 x1 : Option Value} : X z 96 1 [x0, x1] (.int (nI 1) :: st) cu σ Q = (X z 96 80 [x0, x1] (st) cu σ Q) := by
  rw [x96_1]
  exact tsw_in (j := 1) (by decide) (by decide) (by decide) rfl
theorem w96_1_2 {z : P0} {st : List Value} {cu : Nat × Nat} {Q : Res → Mem → Prop} {σ : Mem} {x0 x1 : Option Value} : X z 96 1 [x0, x1] (.int (nI 2) :: st) cu σ Q = (X z 96 88 [x0, x1] (st) cu σ Q) := by
  rw [x96_1]
  exact tsw_in (j := 2) (by decide) (by decide) (by decide) rfl
theorem w96_1_3 {z : P0} {st : List Value} {cu : Nat × Nat} {Q : Res → Mem → Prop} {σ : Mem} {x0 x1 : Option Value} : X z 96 1 [x0, x1] (.int (nI 3) :: st) cu σ Q = (X z 96 99 [x0, x1] (st) cu σ Q) := by
  rw [x96_1]
  exact tsw_in (j := 3) (by decide) (by decide) (by decide) rfl
theorem w96_1_4 {z : P0} {st : List Value} {cu : Nat × Nat} {Q : Res → Mem → Prop} {σ : Mem} {x0 x1 : Option Value} : X z 96 1 [x0, x1] (.int (nI 4) :: st) cu σ Q = (X z 96 107 [x0, x1] (st) cu σ Q) := by
  rw [x96_1]
  exact tsw_in (j := 4) (by decide) (by decide) (by decide) rfl
theorem w96_1_5 {z : P0} {st : List Value} {cu : Nat × Nat} {Q : Res → Mem → Prop} {σ : Mem} {x0 x1 : Option Value} : X z 96 1 [x0, x1] (.int (nI 5) :: st) cu σ Q = (X z 96 115 [x0, x1] (st) cu σ Q) := by
  rw [x96_1]
  exact tsw_in (j := 5) (by decide) (by decide) (by decide) rfl
theorem w96_1_6 {z : P0} {st : List Value} {cu : Nat × Nat} {Q : Res → Mem → Prop} {σ : Mem} {x0 x1 : Option Value} : X z 96 1 [x0, x1] (.int (nI 6) :: st) cu σ Q = (X z 96 123 [x0, x1] (st) cu σ Q) := by
  rw [x96_1]
  exact tsw_in (j := 6) (by decide) (by decide) (by decide) rfl
theorem w96_1_7 {z : P0} {st : List Value} {cu : Nat × Nat} {Q : Res → Mem → Prop} {σ : Mem} {x0 x1 : Option Value} : X z 96 1 [x0, x1] (.int (nI 7) :: st) cu σ Q = (X z 96 131 [x0, x1] (st) cu σ Q) := by
  rw [x96_1]
  exact tsw_in (j := 7) (by decide) (by decide) (by decide) rfl
theorem w96_1_8 {z : P0} {st : List Value} {cu : Nat × Nat} {Q : Res → Mem → Prop} {σ : Mem} {x0 x1 : Option Value} : X z 96 1 [x0, x1] (.int (nI 8) :: st) cu σ Q = (X z 96 139 [x0, x1] (st) cu σ Q) := by
  rw [x96_1]
  exact tsw_in (j := 8) (by decide) (by decide) (by decide) rfl
theorem w96_1_9 {z : P0} {st : List Value} {cu : Nat × Nat} {Q : Res → Mem → Prop} {σ : Mem} {x0 x1 : Option Value} : X z 96 1 [x0, x1] (.int (nI 9) :: st) cu σ Q = (X z 96 147 [x0, x1] (st) cu σ Q) := by
  rw [x96_1]
  exact tsw_in (j := 9) (by decide) (by decide) (by decide) rfl
theorem w96_1_10 {z : P0} {st : List Value} {cu : Nat × Nat} {Q : Res → Mem → Prop} {σ : Mem} {x0 x1 : Option Value} : X z 96 1 [x0, x1] (.int (nI 10) :: st) cu σ Q = (X z 96 155 [x0, x1] (st) cu σ Q) := by
  rw [x96_1]
  exact tsw_in (j := 10) (by decide) (by decide) (by decide) rfl
theorem w96_1_11 {z : P0} {st : List Value} {cu : Nat × Nat} {Q : Res → Mem → Prop} {σ : Mem} {x0 x1 : Option Value} : X z 96 1 [x0, x1] (.int (nI 11) :: st) cu σ Q = (X z 96 163 [x0, x1] (st) cu σ Q) := by
  rw [x96_1]
  exact tsw_in (j := 11) (by decide) (by decide) (by decide) rfl
theorem w96_1_12 {z : P0} {st : List Value} {cu : Nat × Nat} {Q : Res → Mem → Prop} {σ : Mem} {x0 x1 : Option Value} : X z 96 1 [x0, x1] (.int (nI 12) :: st) cu σ Q = (X z 96 171 [x0, x1] (st) cu σ Q) := by
  rw [x96_1]
  exact tsw_in (j := 12) (by decide) (by decide) (by decide) rfl
theorem w96_1_13 {z : P0} {st : List Value} {cu : Nat × Nat} {Q : Res → Mem → Prop} {σ : Mem} {x0 x1 : Option Value} : X z 96 1 [x0, x1] (.int (nI 13) :: st) cu σ Q = (X z 96 179 [x0, x1] (st) cu σ Q) := by
  rw [x96_1]
  exact tsw_in (j := 13) (by decide) (by decide) (by decide) rfl
theorem w96_1_d {z : P0} {st : List Value} {cu : Nat × Nat} {Q : Res → Mem → Prop} {σ : Mem} {x0 x1 : Option Value} {j : Nat} (h : 13 < j ∧ j < 2147483648) : X z 96 1 [x0, x1] (.int (nI j) :: st) cu σ Q = (X z 96 190 [x0, x1] (st) cu σ Q) := by
  rw [x96_1]
  exact tsw_out (Or.inr (by rw [nI_toInt h.2]; omega))
theorem v96_72 {z : P0} {st : List Value} {cu : Nat × Nat} {Q : Res → Mem → Prop} {σ : Mem} {x1 : Option Value} {u : Nat} : X z 96 72 [some (.ref u), x1] (st) cu σ Q = (X z 96 73 [some (.ref u), x1] (.ref u :: st) cu σ Q) := by
  rw [x96_72]
  rfl
theorem v96_73 {z : P0} {st : List Value} {cu : Nat × Nat} {Q : Res → Mem → Prop} {K : Nat → Nat × Nat} {I : Nat → Nat → Int32} {R : Nat → Nat → Option Nat} {L : Nat → Nat → Int64} {sz : Nat} {ex : Bool} {x0 x1 : Option Value} {u : Nat} : X z 96 73 [x0, x1] (.ref u :: st) cu (K, I, R, L, sz, ex) Q = ((K u).1 = 110 ∧ X z 96 76 [x0, x1] (va_rf (R u 0) :: st) cu (K, I, R, L, sz, ex) Q) := by
  rw [x96_73]
  rfl
theorem v96_76 {z : P0} {st : List Value} {cu : Nat × Nat} {Q : Res → Mem → Prop} {K : Nat → Nat × Nat} {I : Nat → Nat → Int32} {R : Nat → Nat → Option Nat} {L : Nat → Nat → Int64} {sz : Nat} {ex : Bool} {x0 x1 : Option Value} {u : Nat} : X z 96 76 [x0, x1] (.ref u :: st) cu (K, I, R, L, sz, ex) Q = ((K u).1 = 108 ∧ X z 96 79 [x0, x1] (.int (I u 1) :: st) cu (K, I, R, L, sz, ex) Q) := by
  rw [x96_76]
  rfl
theorem v96_79 {z : P0} {cu : Nat × Nat} {Q : Res → Mem → Prop} {σ : Mem} {x0 x1 : Option Value} {v : Int32} : X z 96 79 [x0, x1] ([.int v]) cu σ Q = (Q (.inl (some (.int v))) σ) := by
  rw [x96_79]
  exact propext ⟨fun h => h.2, fun h => ⟨trivial, h⟩⟩
theorem v96_80 {z : P0} {st : List Value} {cu : Nat × Nat} {Q : Res → Mem → Prop} {σ : Mem} {x1 : Option Value} {u : Nat} : X z 96 80 [some (.ref u), x1] (st) cu σ Q = (X z 96 81 [some (.ref u), x1] (.ref u :: st) cu σ Q) := by
  rw [x96_80]
  rfl
theorem v96_81 {z : P0} {st : List Value} {cu : Nat × Nat} {Q : Res → Mem → Prop} {K : Nat → Nat × Nat} {I : Nat → Nat → Int32} {R : Nat → Nat → Option Nat} {L : Nat → Nat → Int64} {sz : Nat} {ex : Bool} {x0 x1 : Option Value} {u : Nat} : X z 96 81 [x0, x1] (.ref u :: st) cu (K, I, R, L, sz, ex) Q = ((K u).1 = 110 ∧ X z 96 84 [x0, x1] (va_rf (R u 0) :: st) cu (K, I, R, L, sz, ex) Q) := by
  rw [x96_81]
  rfl
theorem v96_84 {z : P0} {st : List Value} {cu : Nat × Nat} {Q : Res → Mem → Prop} {K : Nat → Nat × Nat} {I : Nat → Nat → Int32} {R : Nat → Nat → Option Nat} {L : Nat → Nat → Int64} {sz : Nat} {ex : Bool} {x0 x1 : Option Value} {u : Nat} : X z 96 84 [x0, x1] (.ref u :: st) cu (K, I, R, L, sz, ex) Q = ((K u).1 = 108 ∧ X z 96 87 [x0, x1] (.int (I u 3) :: st) cu (K, I, R, L, sz, ex) Q) := by
  rw [x96_84]
  rfl
theorem v96_87 {z : P0} {cu : Nat × Nat} {Q : Res → Mem → Prop} {σ : Mem} {x0 x1 : Option Value} {v : Int32} : X z 96 87 [x0, x1] ([.int v]) cu σ Q = (Q (.inl (some (.int v))) σ) := by
  rw [x96_87]
  exact propext ⟨fun h => h.2, fun h => ⟨trivial, h⟩⟩
theorem v96_88 {z : P0} {st : List Value} {cu : Nat × Nat} {Q : Res → Mem → Prop} {σ : Mem} {x1 : Option Value} {u : Nat} : X z 96 88 [some (.ref u), x1] (st) cu σ Q = (X z 96 89 [some (.ref u), x1] (.ref u :: st) cu σ Q) := by
  rw [x96_88]
  rfl
theorem v96_89 {z : P0} {st : List Value} {cu : Nat × Nat} {Q : Res → Mem → Prop} {K : Nat → Nat × Nat} {I : Nat → Nat → Int32} {R : Nat → Nat → Option Nat} {L : Nat → Nat → Int64} {sz : Nat} {ex : Bool} {x0 x1 : Option Value} {u : Nat} : X z 96 89 [x0, x1] (.ref u :: st) cu (K, I, R, L, sz, ex) Q = ((K u).1 = 110 ∧ X z 96 92 [x0, x1] (va_rf (R u 0) :: st) cu (K, I, R, L, sz, ex) Q) := by
  rw [x96_89]
  rfl
theorem v96_92 {z : P0} {st : List Value} {cu : Nat × Nat} {Q : Res → Mem → Prop} {K : Nat → Nat × Nat} {I : Nat → Nat → Int32} {R : Nat → Nat → Option Nat} {L : Nat → Nat → Int64} {sz : Nat} {ex : Bool} {x0 x1 : Option Value} {u : Nat} : X z 96 92 [x0, x1] (.ref u :: st) cu (K, I, R, L, sz, ex) Q = ((K u).1 = 108 ∧ X z 96 95 [x0, x1] (va_rf (R u 4) :: st) cu (K, I, R, L, sz, ex) Q) := by
  rw [x96_92]
  rfl
theorem u96_95 {z : P0} {ls : Lcs} {st : List Value} {K : Nat → Nat × Nat} {I : Nat → Nat → Int32} {R : Nat → Nat → Option Nat} {L : Nat → Nat → Int64} {sz : Nat} {ex : Bool} {Q : Res → Mem → Prop} {x : Nat} : X z 96 95 ls (.ref x :: st) (0, 0) (K, I, R, L, sz, ex) Q = ((K x).1 = 104 ∧ wsum st ≤ 8 ∧ X z 29 0 [some (.ref x), none, none] [] (0, 0) (K, I, R, L, sz, ex) (aftr (X z) mT 96 95 ls st (0, 0) Q)) := v96_95 (c := 0) (n := 0)
theorem v96_98 {z : P0} {cu : Nat × Nat} {Q : Res → Mem → Prop} {σ : Mem} {x0 x1 : Option Value} {v : Int32} : X z 96 98 [x0, x1] ([.int v]) cu σ Q = (Q (.inl (some (.int v))) σ) := by
  rw [x96_98]
  exact propext ⟨fun h => h.2, fun h => ⟨trivial, h⟩⟩
theorem v96_99 {z : P0} {st : List Value} {cu : Nat × Nat} {Q : Res → Mem → Prop} {σ : Mem} {x1 : Option Value} {u : Nat} : X z 96 99 [some (.ref u), x1] (st) cu σ Q = (X z 96 100 [some (.ref u), x1] (.ref u :: st) cu σ Q) := by
  rw [x96_99]
  rfl
theorem v96_100 {z : P0} {st : List Value} {cu : Nat × Nat} {Q : Res → Mem → Prop} {K : Nat → Nat × Nat} {I : Nat → Nat → Int32} {R : Nat → Nat → Option Nat} {L : Nat → Nat → Int64} {sz : Nat} {ex : Bool} {x0 x1 : Option Value} {u : Nat} : X z 96 100 [x0, x1] (.ref u :: st) cu (K, I, R, L, sz, ex) Q = ((K u).1 = 110 ∧ X z 96 103 [x0, x1] (va_rf (R u 0) :: st) cu (K, I, R, L, sz, ex) Q) := by
  rw [x96_100]
  rfl
theorem v96_103 {z : P0} {st : List Value} {cu : Nat × Nat} {Q : Res → Mem → Prop} {K : Nat → Nat × Nat} {I : Nat → Nat → Int32} {R : Nat → Nat → Option Nat} {L : Nat → Nat → Int64} {sz : Nat} {ex : Bool} {x0 x1 : Option Value} {u : Nat} : X z 96 103 [x0, x1] (.ref u :: st) cu (K, I, R, L, sz, ex) Q = ((K u).1 = 108 ∧ X z 96 106 [x0, x1] (.int (I u 6) :: st) cu (K, I, R, L, sz, ex) Q) := by
  rw [x96_103]
  rfl
theorem v96_106 {z : P0} {cu : Nat × Nat} {Q : Res → Mem → Prop} {σ : Mem} {x0 x1 : Option Value} {v : Int32} : X z 96 106 [x0, x1] ([.int v]) cu σ Q = (Q (.inl (some (.int v))) σ) := by
  rw [x96_106]
  exact propext ⟨fun h => h.2, fun h => ⟨trivial, h⟩⟩
theorem v96_107 {z : P0} {st : List Value} {cu : Nat × Nat} {Q : Res → Mem → Prop} {σ : Mem} {x1 : Option Value} {u : Nat} : X z 96 107 [some (.ref u), x1] (st) cu σ Q = (X z 96 108 [some (.ref u), x1] (.ref u :: st) cu σ Q) := by
  rw [x96_107]
  rfl
theorem v96_108 {z : P0} {st : List Value} {cu : Nat × Nat} {Q : Res → Mem → Prop} {K : Nat → Nat × Nat} {I : Nat → Nat → Int32} {R : Nat → Nat → Option Nat} {L : Nat → Nat → Int64} {sz : Nat} {ex : Bool} {x0 x1 : Option Value} {u : Nat} : X z 96 108 [x0, x1] (.ref u :: st) cu (K, I, R, L, sz, ex) Q = ((K u).1 = 110 ∧ X z 96 111 [x0, x1] (va_rf (R u 3) :: st) cu (K, I, R, L, sz, ex) Q) := by
  rw [x96_108]
  rfl
theorem v96_111 {z : P0} {st : List Value} {cu : Nat × Nat} {Q : Res → Mem → Prop} {K : Nat → Nat × Nat} {I : Nat → Nat → Int32} {R : Nat → Nat → Option Nat} {L : Nat → Nat → Int64} {sz : Nat} {ex : Bool} {x0 x1 : Option Value} {u : Nat} : X z 96 111 [x0, x1] (.ref u :: st) cu (K, I, R, L, sz, ex) Q = ((K u).1 = 106 ∧ X z 96 114 [x0, x1] (.int (I u 1) :: st) cu (K, I, R, L, sz, ex) Q) := by
  rw [x96_111]
  rfl
theorem v96_114 {z : P0} {cu : Nat × Nat} {Q : Res → Mem → Prop} {σ : Mem} {x0 x1 : Option Value} {v : Int32} : X z 96 114 [x0, x1] ([.int v]) cu σ Q = (Q (.inl (some (.int v))) σ) := by
  rw [x96_114]
  exact propext ⟨fun h => h.2, fun h => ⟨trivial, h⟩⟩
theorem v96_115 {z : P0} {st : List Value} {cu : Nat × Nat} {Q : Res → Mem → Prop} {σ : Mem} {x1 : Option Value} {u : Nat} : X z 96 115 [some (.ref u), x1] (st) cu σ Q = (X z 96 116 [some (.ref u), x1] (.ref u :: st) cu σ Q) := by
  rw [x96_115]
  rfl
theorem v96_116 {z : P0} {st : List Value} {cu : Nat × Nat} {Q : Res → Mem → Prop} {K : Nat → Nat × Nat} {I : Nat → Nat → Int32} {R : Nat → Nat → Option Nat} {L : Nat → Nat → Int64} {sz : Nat} {ex : Bool} {x0 x1 : Option Value} {u : Nat} : X z 96 116 [x0, x1] (.ref u :: st) cu (K, I, R, L, sz, ex) Q = ((K u).1 = 110 ∧ X z 96 119 [x0, x1] (va_rf (R u 3) :: st) cu (K, I, R, L, sz, ex) Q) := by
  rw [x96_116]
  rfl
theorem v96_119 {z : P0} {st : List Value} {cu : Nat × Nat} {Q : Res → Mem → Prop} {K : Nat → Nat × Nat} {I : Nat → Nat → Int32} {R : Nat → Nat → Option Nat} {L : Nat → Nat → Int64} {sz : Nat} {ex : Bool} {x0 x1 : Option Value} {u : Nat} : X z 96 119 [x0, x1] (.ref u :: st) cu (K, I, R, L, sz, ex) Q = ((K u).1 = 106 ∧ X z 96 122 [x0, x1] (.int (I u 8) :: st) cu (K, I, R, L, sz, ex) Q) := by
  rw [x96_119]
  rfl
theorem v96_122 {z : P0} {cu : Nat × Nat} {Q : Res → Mem → Prop} {σ : Mem} {x0 x1 : Option Value} {v : Int32} : X z 96 122 [x0, x1] ([.int v]) cu σ Q = (Q (.inl (some (.int v))) σ) := by
  rw [x96_122]
  exact propext ⟨fun h => h.2, fun h => ⟨trivial, h⟩⟩
theorem v96_123 {z : P0} {st : List Value} {cu : Nat × Nat} {Q : Res → Mem → Prop} {σ : Mem} {x1 : Option Value} {u : Nat} : X z 96 123 [some (.ref u), x1] (st) cu σ Q = (X z 96 124 [some (.ref u), x1] (.ref u :: st) cu σ Q) := by
  rw [x96_123]
  rfl
theorem v96_124 {z : P0} {st : List Value} {cu : Nat × Nat} {Q : Res → Mem → Prop} {K : Nat → Nat × Nat} {I : Nat → Nat → Int32} {R : Nat → Nat → Option Nat} {L : Nat → Nat → Int64} {sz : Nat} {ex : Bool} {x0 x1 : Option Value} {u : Nat} : X z 96 124 [x0, x1] (.ref u :: st) cu (K, I, R, L, sz, ex) Q = ((K u).1 = 110 ∧ X z 96 127 [x0, x1] (va_rf (R u 3) :: st) cu (K, I, R, L, sz, ex) Q) := by
  rw [x96_124]
  rfl
theorem v96_127 {z : P0} {st : List Value} {cu : Nat × Nat} {Q : Res → Mem → Prop} {K : Nat → Nat × Nat} {I : Nat → Nat → Int32} {R : Nat → Nat → Option Nat} {L : Nat → Nat → Int64} {sz : Nat} {ex : Bool} {x0 x1 : Option Value} {u : Nat} : X z 96 127 [x0, x1] (.ref u :: st) cu (K, I, R, L, sz, ex) Q = ((K u).1 = 106 ∧ X z 96 130 [x0, x1] (.int (I u 9) :: st) cu (K, I, R, L, sz, ex) Q) := by
  rw [x96_127]
  rfl
theorem v96_130 {z : P0} {cu : Nat × Nat} {Q : Res → Mem → Prop} {σ : Mem} {x0 x1 : Option Value} {v : Int32} : X z 96 130 [x0, x1] ([.int v]) cu σ Q = (Q (.inl (some (.int v))) σ) := by
  rw [x96_130]
  exact propext ⟨fun h => h.2, fun h => ⟨trivial, h⟩⟩
theorem v96_131 {z : P0} {st : List Value} {cu : Nat × Nat} {Q : Res → Mem → Prop} {σ : Mem} {x1 : Option Value} {u : Nat} : X z 96 131 [some (.ref u), x1] (st) cu σ Q = (X z 96 132 [some (.ref u), x1] (.ref u :: st) cu σ Q) := by
  rw [x96_131]
  rfl
theorem v96_132 {z : P0} {st : List Value} {cu : Nat × Nat} {Q : Res → Mem → Prop} {K : Nat → Nat × Nat} {I : Nat → Nat → Int32} {R : Nat → Nat → Option Nat} {L : Nat → Nat → Int64} {sz : Nat} {ex : Bool} {x0 x1 : Option Value} {u : Nat} : X z 96 132 [x0, x1] (.ref u :: st) cu (K, I, R, L, sz, ex) Q = ((K u).1 = 110 ∧ X z 96 135 [x0, x1] (va_rf (R u 3) :: st) cu (K, I, R, L, sz, ex) Q) := by
  rw [x96_132]
  rfl
theorem v96_135 {z : P0} {st : List Value} {cu : Nat × Nat} {Q : Res → Mem → Prop} {K : Nat → Nat × Nat} {I : Nat → Nat → Int32} {R : Nat → Nat → Option Nat} {L : Nat → Nat → Int64} {sz : Nat} {ex : Bool} {x0 x1 : Option Value} {u : Nat} : X z 96 135 [x0, x1] (.ref u :: st) cu (K, I, R, L, sz, ex) Q = ((K u).1 = 106 ∧ X z 96 138 [x0, x1] (.int (I u 10) :: st) cu (K, I, R, L, sz, ex) Q) := by
  rw [x96_135]
  rfl
theorem v96_138 {z : P0} {cu : Nat × Nat} {Q : Res → Mem → Prop} {σ : Mem} {x0 x1 : Option Value} {v : Int32} : X z 96 138 [x0, x1] ([.int v]) cu σ Q = (Q (.inl (some (.int v))) σ) := by
  rw [x96_138]
  exact propext ⟨fun h => h.2, fun h => ⟨trivial, h⟩⟩
theorem v96_139 {z : P0} {st : List Value} {cu : Nat × Nat} {Q : Res → Mem → Prop} {σ : Mem} {x1 : Option Value} {u : Nat} : X z 96 139 [some (.ref u), x1] (st) cu σ Q = (X z 96 140 [some (.ref u), x1] (.ref u :: st) cu σ Q) := by
  rw [x96_139]
  rfl
theorem v96_140 {z : P0} {st : List Value} {cu : Nat × Nat} {Q : Res → Mem → Prop} {K : Nat → Nat × Nat} {I : Nat → Nat → Int32} {R : Nat → Nat → Option Nat} {L : Nat → Nat → Int64} {sz : Nat} {ex : Bool} {x0 x1 : Option Value} {u : Nat} : X z 96 140 [x0, x1] (.ref u :: st) cu (K, I, R, L, sz, ex) Q = ((K u).1 = 110 ∧ X z 96 143 [x0, x1] (va_rf (R u 3) :: st) cu (K, I, R, L, sz, ex) Q) := by
  rw [x96_140]
  rfl
theorem v96_143 {z : P0} {st : List Value} {cu : Nat × Nat} {Q : Res → Mem → Prop} {K : Nat → Nat × Nat} {I : Nat → Nat → Int32} {R : Nat → Nat → Option Nat} {L : Nat → Nat → Int64} {sz : Nat} {ex : Bool} {x0 x1 : Option Value} {u : Nat} : X z 96 143 [x0, x1] (.ref u :: st) cu (K, I, R, L, sz, ex) Q = ((K u).1 = 106 ∧ X z 96 146 [x0, x1] (.int (I u 11) :: st) cu (K, I, R, L, sz, ex) Q) := by
  rw [x96_143]
  rfl
theorem v96_146 {z : P0} {cu : Nat × Nat} {Q : Res → Mem → Prop} {σ : Mem} {x0 x1 : Option Value} {v : Int32} : X z 96 146 [x0, x1] ([.int v]) cu σ Q = (Q (.inl (some (.int v))) σ) := by
  rw [x96_146]
  exact propext ⟨fun h => h.2, fun h => ⟨trivial, h⟩⟩
theorem v96_147 {z : P0} {st : List Value} {cu : Nat × Nat} {Q : Res → Mem → Prop} {σ : Mem} {x1 : Option Value} {u : Nat} : X z 96 147 [some (.ref u), x1] (st) cu σ Q = (X z 96 148 [some (.ref u), x1] (.ref u :: st) cu σ Q) := by
  rw [x96_147]
  rfl
theorem v96_148 {z : P0} {st : List Value} {cu : Nat × Nat} {Q : Res → Mem → Prop} {K : Nat → Nat × Nat} {I : Nat → Nat → Int32} {R : Nat → Nat → Option Nat} {L : Nat → Nat → Int64} {sz : Nat} {ex : Bool} {x0 x1 : Option Value} {u : Nat} : X z 96 148 [x0, x1] (.ref u :: st) cu (K, I, R, L, sz, ex) Q = ((K u).1 = 110 ∧ X z 96 151 [x0, x1] (va_rf (R u 0) :: st) cu (K, I, R, L, sz, ex) Q) := by
  rw [x96_148]
  rfl
theorem v96_151 {z : P0} {st : List Value} {cu : Nat × Nat} {Q : Res → Mem → Prop} {K : Nat → Nat × Nat} {I : Nat → Nat → Int32} {R : Nat → Nat → Option Nat} {L : Nat → Nat → Int64} {sz : Nat} {ex : Bool} {x0 x1 : Option Value} {u : Nat} : X z 96 151 [x0, x1] (.ref u :: st) cu (K, I, R, L, sz, ex) Q = ((K u).1 = 108 ∧ X z 96 154 [x0, x1] (.int (I u 7) :: st) cu (K, I, R, L, sz, ex) Q) := by
  rw [x96_151]
  rfl
theorem v96_154 {z : P0} {cu : Nat × Nat} {Q : Res → Mem → Prop} {σ : Mem} {x0 x1 : Option Value} {v : Int32} : X z 96 154 [x0, x1] ([.int v]) cu σ Q = (Q (.inl (some (.int v))) σ) := by
  rw [x96_154]
  exact propext ⟨fun h => h.2, fun h => ⟨trivial, h⟩⟩
theorem v96_155 {z : P0} {st : List Value} {cu : Nat × Nat} {Q : Res → Mem → Prop} {σ : Mem} {x1 : Option Value} {u : Nat} : X z 96 155 [some (.ref u), x1] (st) cu σ Q = (X z 96 156 [some (.ref u), x1] (.ref u :: st) cu σ Q) := by
  rw [x96_155]
  rfl
theorem v96_156 {z : P0} {st : List Value} {cu : Nat × Nat} {Q : Res → Mem → Prop} {K : Nat → Nat × Nat} {I : Nat → Nat → Int32} {R : Nat → Nat → Option Nat} {L : Nat → Nat → Int64} {sz : Nat} {ex : Bool} {x0 x1 : Option Value} {u : Nat} : X z 96 156 [x0, x1] (.ref u :: st) cu (K, I, R, L, sz, ex) Q = ((K u).1 = 110 ∧ X z 96 159 [x0, x1] (va_rf (R u 0) :: st) cu (K, I, R, L, sz, ex) Q) := by
  rw [x96_156]
  rfl
theorem v96_159 {z : P0} {st : List Value} {cu : Nat × Nat} {Q : Res → Mem → Prop} {K : Nat → Nat × Nat} {I : Nat → Nat → Int32} {R : Nat → Nat → Option Nat} {L : Nat → Nat → Int64} {sz : Nat} {ex : Bool} {x0 x1 : Option Value} {u : Nat} : X z 96 159 [x0, x1] (.ref u :: st) cu (K, I, R, L, sz, ex) Q = ((K u).1 = 108 ∧ X z 96 162 [x0, x1] (.int (I u 8) :: st) cu (K, I, R, L, sz, ex) Q) := by
  rw [x96_159]
  rfl
theorem v96_162 {z : P0} {cu : Nat × Nat} {Q : Res → Mem → Prop} {σ : Mem} {x0 x1 : Option Value} {v : Int32} : X z 96 162 [x0, x1] ([.int v]) cu σ Q = (Q (.inl (some (.int v))) σ) := by
  rw [x96_162]
  exact propext ⟨fun h => h.2, fun h => ⟨trivial, h⟩⟩
theorem v96_163 {z : P0} {st : List Value} {cu : Nat × Nat} {Q : Res → Mem → Prop} {σ : Mem} {x1 : Option Value} {u : Nat} : X z 96 163 [some (.ref u), x1] (st) cu σ Q = (X z 96 164 [some (.ref u), x1] (.ref u :: st) cu σ Q) := by
  rw [x96_163]
  rfl
theorem v96_164 {z : P0} {st : List Value} {cu : Nat × Nat} {Q : Res → Mem → Prop} {K : Nat → Nat × Nat} {I : Nat → Nat → Int32} {R : Nat → Nat → Option Nat} {L : Nat → Nat → Int64} {sz : Nat} {ex : Bool} {x0 x1 : Option Value} {u : Nat} : X z 96 164 [x0, x1] (.ref u :: st) cu (K, I, R, L, sz, ex) Q = ((K u).1 = 110 ∧ X z 96 167 [x0, x1] (va_rf (R u 0) :: st) cu (K, I, R, L, sz, ex) Q) := by
  rw [x96_164]
  rfl
theorem v96_167 {z : P0} {st : List Value} {cu : Nat × Nat} {Q : Res → Mem → Prop} {K : Nat → Nat × Nat} {I : Nat → Nat → Int32} {R : Nat → Nat → Option Nat} {L : Nat → Nat → Int64} {sz : Nat} {ex : Bool} {x0 x1 : Option Value} {u : Nat} : X z 96 167 [x0, x1] (.ref u :: st) cu (K, I, R, L, sz, ex) Q = ((K u).1 = 108 ∧ X z 96 170 [x0, x1] (.int (I u 9) :: st) cu (K, I, R, L, sz, ex) Q) := by
  rw [x96_167]
  rfl
theorem v96_170 {z : P0} {cu : Nat × Nat} {Q : Res → Mem → Prop} {σ : Mem} {x0 x1 : Option Value} {v : Int32} : X z 96 170 [x0, x1] ([.int v]) cu σ Q = (Q (.inl (some (.int v))) σ) := by
  rw [x96_170]
  exact propext ⟨fun h => h.2, fun h => ⟨trivial, h⟩⟩
theorem v96_171 {z : P0} {st : List Value} {cu : Nat × Nat} {Q : Res → Mem → Prop} {σ : Mem} {x1 : Option Value} {u : Nat} : X z 96 171 [some (.ref u), x1] (st) cu σ Q = (X z 96 172 [some (.ref u), x1] (.ref u :: st) cu σ Q) := by
  rw [x96_171]
  rfl
theorem v96_172 {z : P0} {st : List Value} {cu : Nat × Nat} {Q : Res → Mem → Prop} {K : Nat → Nat × Nat} {I : Nat → Nat → Int32} {R : Nat → Nat → Option Nat} {L : Nat → Nat → Int64} {sz : Nat} {ex : Bool} {x0 x1 : Option Value} {u : Nat} : X z 96 172 [x0, x1] (.ref u :: st) cu (K, I, R, L, sz, ex) Q = ((K u).1 = 110 ∧ X z 96 175 [x0, x1] (va_rf (R u 0) :: st) cu (K, I, R, L, sz, ex) Q) := by
  rw [x96_172]
  rfl
theorem u96_175 {z : P0} {ls : Lcs} {st : List Value} {K : Nat → Nat × Nat} {I : Nat → Nat → Int32} {R : Nat → Nat → Option Nat} {L : Nat → Nat → Int64} {sz : Nat} {ex : Bool} {Q : Res → Mem → Prop} {x : Nat} : X z 96 175 ls (.ref x :: st) (0, 0) (K, I, R, L, sz, ex) Q = ((K x).1 = 108 ∧ wsum st ≤ 8 ∧ X z 50 0 [some (.ref x), none, none] [] (0, 0) (K, I, R, L, sz, ex) (aftr (X z) mT 96 175 ls st (0, 0) Q)) := v96_175 (c := 0) (n := 0)
theorem v96_178 {z : P0} {cu : Nat × Nat} {Q : Res → Mem → Prop} {σ : Mem} {x0 x1 : Option Value} {v : Int32} : X z 96 178 [x0, x1] ([.int v]) cu σ Q = (Q (.inl (some (.int v))) σ) := by
  rw [x96_178]
  exact propext ⟨fun h => h.2, fun h => ⟨trivial, h⟩⟩
theorem v96_179 {z : P0} {st : List Value} {cu : Nat × Nat} {Q : Res → Mem → Prop} {σ : Mem} {x1 : Option Value} {u : Nat} : X z 96 179 [some (.ref u), x1] (st) cu σ Q = (X z 96 180 [some (.ref u), x1] (.ref u :: st) cu σ Q) := by
  rw [x96_179]
  rfl
theorem v96_180 {z : P0} {st : List Value} {cu : Nat × Nat} {Q : Res → Mem → Prop} {K : Nat → Nat × Nat} {I : Nat → Nat → Int32} {R : Nat → Nat → Option Nat} {L : Nat → Nat → Int64} {sz : Nat} {ex : Bool} {x0 x1 : Option Value} {u : Nat} : X z 96 180 [x0, x1] (.ref u :: st) cu (K, I, R, L, sz, ex) Q = ((K u).1 = 110 ∧ X z 96 183 [x0, x1] (va_rf (R u 0) :: st) cu (K, I, R, L, sz, ex) Q) := by
  rw [x96_180]
  rfl
theorem v96_183 {z : P0} {st : List Value} {cu : Nat × Nat} {Q : Res → Mem → Prop} {K : Nat → Nat × Nat} {I : Nat → Nat → Int32} {R : Nat → Nat → Option Nat} {L : Nat → Nat → Int64} {sz : Nat} {ex : Bool} {x0 x1 : Option Value} {u : Nat} : X z 96 183 [x0, x1] (.ref u :: st) cu (K, I, R, L, sz, ex) Q = ((K u).1 = 108 ∧ X z 96 186 [x0, x1] (va_rf (R u 4) :: st) cu (K, I, R, L, sz, ex) Q) := by
  rw [x96_183]
  rfl
theorem u96_186 {z : P0} {ls : Lcs} {st : List Value} {K : Nat → Nat × Nat} {I : Nat → Nat → Int32} {R : Nat → Nat → Option Nat} {L : Nat → Nat → Int64} {sz : Nat} {ex : Bool} {Q : Res → Mem → Prop} {x : Nat} : X z 96 186 ls (.ref x :: st) (0, 0) (K, I, R, L, sz, ex) Q = ((K x).1 = 104 ∧ wsum st ≤ 8 ∧ X z 30 0 [some (.ref x), none, none] [] (0, 0) (K, I, R, L, sz, ex) (aftr (X z) mT 96 186 ls st (0, 0) Q)) := v96_186 (c := 0) (n := 0)
theorem v96_189 {z : P0} {cu : Nat × Nat} {Q : Res → Mem → Prop} {σ : Mem} {x0 x1 : Option Value} {v : Int32} : X z 96 189 [x0, x1] ([.int v]) cu σ Q = (Q (.inl (some (.int v))) σ) := by
  rw [x96_189]
  exact propext ⟨fun h => h.2, fun h => ⟨trivial, h⟩⟩
theorem v96_190 {z : P0} {st : List Value} {cu : Nat × Nat} {Q : Res → Mem → Prop} {σ : Mem} {x1 : Option Value} {u : Nat} : X z 96 190 [some (.ref u), x1] (st) cu σ Q = (X z 96 191 [some (.ref u), x1] (.ref u :: st) cu σ Q) := by
  rw [x96_190]
  rfl
theorem v96_191 {z : P0} {st : List Value} {cu : Nat × Nat} {Q : Res → Mem → Prop} {K : Nat → Nat × Nat} {I : Nat → Nat → Int32} {R : Nat → Nat → Option Nat} {L : Nat → Nat → Int64} {sz : Nat} {ex : Bool} {x0 x1 : Option Value} {u : Nat} : X z 96 191 [x0, x1] (.ref u :: st) cu (K, I, R, L, sz, ex) Q = ((K u).1 = 110 ∧ X z 96 194 [x0, x1] (va_rf (R u 1) :: st) cu (K, I, R, L, sz, ex) Q) := by
  rw [x96_191]
  rfl
theorem v96_194 {z : P0} {st : List Value} {cu : Nat × Nat} {Q : Res → Mem → Prop} {K : Nat → Nat × Nat} {I : Nat → Nat → Int32} {R : Nat → Nat → Option Nat} {L : Nat → Nat → Int64} {sz : Nat} {ex : Bool} {x0 x1 : Option Value} {u : Nat} : X z 96 194 [x0, x1] (.ref u :: st) cu (K, I, R, L, sz, ex) Q = ((K u).1 = 103 ∧ X z 96 197 [x0, x1] (.int (I u 1) :: st) cu (K, I, R, L, sz, ex) Q) := by
  rw [x96_194]
  rfl
theorem v96_197 {z : P0} {cu : Nat × Nat} {Q : Res → Mem → Prop} {σ : Mem} {x0 x1 : Option Value} {v : Int32} : X z 96 197 [x0, x1] ([.int v]) cu σ Q = (Q (.inl (some (.int v))) σ) := by
  rw [x96_197]
  exact propext ⟨fun h => h.2, fun h => ⟨trivial, h⟩⟩
